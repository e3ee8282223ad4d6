theorem y_ch37 {X0 G : Sto} {B N K c b : Nat} (H : BH X0 G B N) (hc : bt (G 0 27) b = true) (hb : b < B) :
    ∀ n i X M, SR X0 G K c X M → (∀ n, n < 126 → X 31 n = M 29 n) → (∀ v, v < 6 → bt (G 13 b) v = true → X 32 v = M 30 v) → i ≤ 6 → Pw2 (fun a r => ∃ M', j_R_formedBlock_101 (nJ b) M' = some r ∧ SR X0 G K c a.2 M' ∧ ∀ n, n < 126 → a.2 31 n = M' 29 n) (l_A_choose_37 j_A_choose_87 n (nJ b) (nJ i) X) (l_R_formedBlock_54 j_R_formedBlock_101 n (nJ b) (nJ i) M) := by
  intro n
  have hp := H.pr
  have hB := hp.pf.hB
  have hhi := H.rb.hi
  have hr := H.qk.rc b (by omega) hc
  obtain ⟨_, hnb⟩ := H.rb.nb b (by omega) hc
  have hw := H.qk.nm.2.1.row b hb hr
  induction n with
  | zero => intro i X M _ _ _ _; exact p2_nl
  | succ n ih =>
    intro i X M h hV hC hi
    have fx : ∀ k, k ≠ 6 → k < 30 ∨ 33 < k → X k = X0 k := h.fx.1
    have fr : ∀ k, k ≠ 0 → k ∉ [28, 29, 30] → M k = G k := h.fr.1
    unfold l_A_choose_37 l_R_formedBlock_54
    by_cases q : 6 ≤ i
    · have c1 : (6 : Int32) ≤ nJ i := Int32.le_iff_toInt_le.mpr (by rw [nJ_int (i := i) (by omega)]; show (6 : Int) ≤ i; omega)
      rw [if_pos c1, if_pos c1]
      unfold j_A_choose_87
      intro a r e1 e2
      cases e1
      exact ⟨M, e2, h, hV⟩
    have c1 : ¬ (6 : Int32) ≤ nJ i := fun y => by
      have := Int32.le_iff_toInt_le.mp y
      rw [nJ_int (i := i) (by omega)] at this
      have n6 : (6 : Int32).toInt = 6 := rfl
      omega
    rw [if_neg c1, if_neg c1]
    refine p2_okl (p2_okr ?_)
    rw [nJ_tn (i := b) (by omega), fx 18 (by decide) (by decide), H.qk.nm.2.1.phi b hb, fr 13 (by decide) (by decide)]
    unfold j_A_choose_81 j_R_formedBlock_95
    rw [nJ_succ (i := i) (by omega)]
    have e1 : m_N_holds (G 13 b) (nJ i) X = if bt (G 13 b) i = true then some (1, X) else some (0, X) := by
      have e : m_N_holds (G 13 b) (nJ i) X = if (G 13 b &&& ((1 : Int32) <<< (nJ i &&& 31))) = 0 then j_N_holds_14 0 X else j_N_holds_14 1 X := rfl
      rw [e]
      by_cases g : bt (G 13 b) i = false
      · rw [if_pos ((holds_bit _ (by omega)).mpr g), if_neg (by rw [g]; decide)]; rfl
      · rw [if_neg (fun y => g ((holds_bit _ (by omega)).mp y)), if_pos (by simpa using g)]; rfl
    have e2 : m_R_has (G 13 b) (nJ i) M = if bt (G 13 b) i = true then some (1, M) else some (0, M) := by
      unfold m_R_has
      by_cases g : bt (G 13 b) i = true
      · rw [if_pos ((has_bit _ (by omega)).mpr g), if_pos g]; rfl
      · rw [if_neg (fun y => g ((has_bit _ (by omega)).mp y)), if_neg g]; rfl
    rw [e1, e2]
    by_cases g : bt (G 13 b) i = true
    · rw [if_pos g, if_pos g]
      obtain ⟨m, m6, mN, m3, _⟩ := hnb.ph i (by omega) g
      have e6 : 6 * nJ b + nJ i = nJ (6 * b + i) := by rw [nJ_mul6 (by omega), nJ_add (by omega)]
      refine p2_bsl (p2_bsr ?_)
      dsimp only
      refine p2_il (fun z => absurd z (by decide)) (fun _ => p2_ir (fun z => absurd z (by decide)) (fun _ => ?_))
      refine p2_okl (p2_okl (p2_okl (p2_okl (p2_okr (p2_okr (p2_okr ?_))))))
      rw [nJ_tn (i := i) (by omega), fx (83 + b) (by omega) (by omega), hw.pnm i (by omega) g, e6, nJ_tn (i := 6 * b + i) (by omega), fr 16 (by decide) (by decide), m3, nJ_tn (i := m) (by omega)]
      refine p2_wl fun X3 q3 => p2_wr fun M3 p3 => ih (i + 1) X3 M3 (by rw [q3, p3]; exact (h.upx (by decide)).upm (Or.inl rfl)) (fun v hv => ?_) (fun v hv y => ?_) (by omega)
      · rw [q3, p3, up2_at, up2_at]
        by_cases u : v = m
        · rw [if_pos ⟨rfl, u⟩, if_pos ⟨rfl, u⟩]; exact hC i (by omega) g
        · rw [if_neg (fun y => u y.2), if_neg (fun y => u y.2)]; exact hV v hv
      · rw [q3, p3, up2_ne _ _ _ (by decide), up2_ne _ _ _ (by decide)]; exact hC v hv y
    · rw [if_neg g, if_neg g]
      refine p2_bsl (p2_bsr ?_)
      dsimp only
      refine p2_il (fun _ => p2_ir (fun _ => ?_) (fun z => absurd rfl z)) (fun z => absurd rfl z)
      exact ih (i + 1) X M h hV hC (by omega)
theorem y_ch2 {X0 G : Sto} {B N K c b f : Nat} (H : BH X0 G B N) (hc : bt (G 0 27) b = true) (hb : b < B) (hcf : bt (G 0 27) f = true) (hf : f < B) :
    ∀ n i X M, SR X0 G K c X M → (∀ n, n < 126 → X 31 n = M 29 n) → (∀ v, v < i → bt (G 13 b) v = true → X 32 v = M 30 v) → i ≤ 6 → Pw2 (fun a r => ∃ M', j_R_formedBlock_101 (nJ b) M' = some r ∧ SR X0 G K c a.2 M' ∧ ∀ n, n < 126 → a.2 31 n = M' 29 n) (l_A_choose_2 j_A_choose_35 n (nJ f) (nJ b) (nJ i) X) (l_R_formedBlock_2 j_R_formedBlock_52 n (nJ b) (nJ f) (nJ i) M) := by
  intro n
  have hp := H.pr
  have hB := hp.pf.hB
  have hhi := H.rb.hi
  have hrf := H.qk.rc f (by omega) hcf
  obtain ⟨_, hnf⟩ := H.rb.nb f (by omega) hcf
  have hwf := H.qk.nm.2.1.row f hf hrf
  induction n with
  | zero => intro i X M _ _ _ _; exact p2_nl
  | succ n ih =>
    intro i X M h hV hC hi
    have fx : ∀ k, k ≠ 6 → k < 30 ∨ 33 < k → X k = X0 k := h.fx.1
    have fr : ∀ k, k ≠ 0 → k ∉ [28, 29, 30] → M k = G k := h.fr.1
    unfold l_A_choose_2 l_R_formedBlock_2
    by_cases q : 6 ≤ i
    · have c1 : (6 : Int32) ≤ nJ i := Int32.le_iff_toInt_le.mpr (by rw [nJ_int (i := i) (by omega)]; show (6 : Int) ≤ i; omega)
      rw [if_pos c1, if_pos c1]
      unfold j_A_choose_35 j_R_formedBlock_52
      exact y_ch37 H hc hb FU 0 X M h hV (fun v hv => hC v (by omega)) (by omega)
    have c1 : ¬ (6 : Int32) ≤ nJ i := fun y => by
      have := Int32.le_iff_toInt_le.mp y
      rw [nJ_int (i := i) (by omega)] at this
      have n6 : (6 : Int32).toInt = 6 := rfl
      omega
    rw [if_neg c1, if_neg c1]
    obtain ⟨u, u1, u2, _⟩ := hnf.cur i (by omega)
    refine p2_okl (p2_okl (p2_okr ?_))
    rw [nJ_tn (i := f) (by omega), nJ_tn (i := i) (by omega), fx (93 + f) (by omega) (by omega), hwf.cur i (by omega), u2, nJ_tn (i := b) (by omega), fr 13 (by decide) (by decide)]
    refine p2_bl (x_val H.qk.kr h hV (by omega)) (fun d hd => p2_okl (p2_wl fun X3 q3 => ?_))
    rw [hd.2, hd.1] at q3
    rw [nJ_succ (i := i) (by omega)]
    have h3 : SR X0 G K c X3 M := by rw [q3]; exact h.upx (by decide)
    have fin : ∀ s, (bt (G 13 b) i = true → s = vlu G M u) → Pw2 (fun a r => ∃ M', j_R_formedBlock_101 (nJ b) M' = some r ∧ SR X0 G K c a.2 M' ∧ ∀ n, n < 126 → a.2 31 n = M' 29 n) (l_A_choose_2 j_A_choose_35 n (nJ f) (nJ b) (nJ (i + 1)) X3) (j_R_formedBlock_45 (l_R_formedBlock_2 j_R_formedBlock_52 n) j_R_formedBlock_52 s (nJ i) (nJ b) (nJ f) (nJ i) M) := by
      intro s hs
      unfold j_R_formedBlock_45
      rw [nJ_tn (i := i) (by omega), nJ_succ (i := i) (by omega)]
      refine p2_okr (p2_wr fun M3 p3 => ih (i + 1) X3 M3 (by rw [p3]; exact h3.upm (Or.inr rfl)) (fun v hv => ?_) (fun v hv y => ?_) (by omega))
      · rw [q3, p3, up2_ne _ _ _ (by decide), up2_ne _ _ _ (by decide)]; exact hV v hv
      · rw [q3, p3, up2_at, up2_at]
        by_cases w : v = i
        · rw [if_pos ⟨rfl, w⟩, if_pos ⟨rfl, w⟩]; rw [w] at y; exact (hs y).symm
        · rw [if_neg (fun y => w y.2), if_neg (fun y => w y.2)]; exact hC v (by omega) y
    have e2 : m_R_has (G 13 b) (nJ i) M = if bt (G 13 b) i = true then some (1, M) else some (0, M) := by
      unfold m_R_has
      by_cases g : bt (G 13 b) i = true
      · rw [if_pos ((has_bit _ (by omega)).mpr g), if_pos g]; rfl
      · rw [if_neg (fun y => g ((has_bit _ (by omega)).mp y)), if_neg g]; rfl
    rw [e2]
    by_cases g : bt (G 13 b) i = true
    · rw [if_pos g]
      refine p2_bsr ?_
      dsimp only
      refine p2_ir (fun z => absurd z (by decide)) (fun _ => ?_)
      have e6 : 6 * nJ f + nJ i = nJ (6 * f + i) := by rw [nJ_mul6 (by omega), nJ_add (by omega)]
      refine p2_okr ?_
      rw [e6, nJ_tn (i := 6 * f + i) (by omega), fr 21 (by decide) (by decide), u2, r_vlu h (by omega)]
      exact fin (vlu G M u) (fun _ => rfl)
    · rw [if_neg g]
      refine p2_bsr ?_
      dsimp only
      refine p2_ir (fun _ => ?_) (fun z => absurd rfl z)
      exact fin 0 (fun y => absurd y g)
theorem r_first {X0 G X M : Sto} {K c : Nat} (z13 : G 13 0 = 0) (h : SR X0 G K c X M) (hV : ∀ n, n < 126 → X 31 n = M 29 n) :
    Pw (fun r => ∃ M', j_R_formedBlock_101 (nJ 0) M' = some r ∧ SR X0 G K c X M' ∧ ∀ n, n < 126 → X 31 n = M' 29 n) (m_R_formedBlock (nJ 0) (nJ 0) M) := by
  have e0 : ∀ (i : Nat) (M : Sto), i < 6 → m_R_has (G 13 0) (nJ i) M = some (0, M) := fun i M hi => by
    unfold m_R_has
    rw [if_neg (fun y => by have := (has_bit _ (by omega)).mp y; rw [z13, bt_zero] at this; cases this)]; rfl
  have l54 : ∀ n i M, SR X0 G K c X M → (∀ n, n < 126 → X 31 n = M 29 n) → i ≤ 6 → Pw (fun r => ∃ M', j_R_formedBlock_101 (nJ 0) M' = some r ∧ SR X0 G K c X M' ∧ ∀ n, n < 126 → X 31 n = M' 29 n) (l_R_formedBlock_54 j_R_formedBlock_101 n (nJ 0) (nJ i) M) := by
    intro n
    induction n with
    | zero => intro i M _ _ _; exact Pw.none
    | succ n ih =>
      intro i M h hV hi
      unfold l_R_formedBlock_54
      refine pw_leN (a := 6) (by omega) (by omega) (fun q => fun r e => ⟨M, e, h, hV⟩) (fun q => pw_okT ?_)
      rw [nJ_tn (i := 0) (by omega), h.fr.1 13 (by decide) (by decide), e0 i M q]
      unfold j_R_formedBlock_95
      refine Pw.bindS ?_
      dsimp only
      rw [nJ_succ (i := i) (by omega)]
      refine Pw.ite (fun _ => ?_) (fun z => absurd rfl z)
      exact ih (i + 1) M h hV (by omega)
  have l2 : ∀ n i M, SR X0 G K c X M → (∀ n, n < 126 → X 31 n = M 29 n) → i ≤ 6 → Pw (fun r => ∃ M', j_R_formedBlock_101 (nJ 0) M' = some r ∧ SR X0 G K c X M' ∧ ∀ n, n < 126 → X 31 n = M' 29 n) (l_R_formedBlock_2 j_R_formedBlock_52 n (nJ 0) (nJ 0) (nJ i) M) := by
    intro n
    induction n with
    | zero => intro i M _ _ _; exact Pw.none
    | succ n ih =>
      intro i M h hV hi
      unfold l_R_formedBlock_2
      refine pw_leN (a := 6) (by omega) (by omega) (fun q => ?_) (fun q => pw_okT ?_)
      · unfold j_R_formedBlock_52
        exact l54 FU 0 M h hV (by omega)
      rw [nJ_tn (i := 0) (by omega), h.fr.1 13 (by decide) (by decide), e0 i M q]
      refine Pw.bindS ?_
      dsimp only
      refine Pw.ite (fun _ => ?_) (fun z => absurd rfl z)
      unfold j_R_formedBlock_45
      rw [nJ_succ (i := i) (by omega)]
      refine pw_okT (Pw.wrt fun M3 p3 => ih (i + 1) M3 (by rw [p3]; exact h.upm (Or.inr rfl)) (fun v hv => ?_) (by omega))
      rw [p3, up2_ne _ _ _ (by decide)]; exact hV v hv
  unfold m_R_formedBlock
  exact l2 FU 0 M h hV (by omega)
theorem y_pb {X0 G X M : Sto} {B N K c b f : Nat} {vf : Int32} (H : BH X0 G B N) (hc : bt (G 0 27) b = true) (hb : b < B) (hK : K + 6 < 100000) (hf : (vf = -1 ∧ b = 0 ∧ f = 0) ∨ (vf = nJ f ∧ f < B ∧ bt (G 0 27) f = true)) (h : SR X0 G K c X M) (hV : ∀ n, n < 126 → X 31 n = M 29 n) :
    Pw2 (fun a r => ∃ X', j_A_passBecome_130 (nJ b) X' = some a ∧ SR X0 G (K + 6) c X' r.2 ∧ ∀ n, n < 126 → X' 31 n = r.2 29 n) (m_A_passBecome vf (nJ b) X) (m_R_formedBlock (nJ b) (nJ f) M) := by
  have hB := H.pr.pf.hB
  have e6 : 6 * nJ b = nJ (6 * b + 0) := by rw [nJ_mul6 (by omega)]; rfl
  intro a r e1 e2
  unfold m_A_passBecome at e1
  have last : ∀ X1 M1, SR X0 G K c X1 M1 → (∀ n, n < 126 → X1 31 n = M1 29 n) → j_A_passBecome_11 (nJ b) X1 = some a → j_R_formedBlock_101 (nJ b) M1 = some r → ∃ X', j_A_passBecome_130 (nJ b) X' = some a ∧ SR X0 G (K + 6) c X' r.2 ∧ ∀ n, n < 126 → X' 31 n = r.2 29 n := by
    intro X1 M1 h1 v1 g1 g2
    unfold j_A_passBecome_11 at g1
    unfold j_R_formedBlock_101 at g2
    rw [e6] at g2
    exact y_form (k := j_A_passBecome_130) H hc hb hK FU 0 X1 M1 h1 v1 (by omega) a r g1 g2
  rcases hf with ⟨f1, f2, f3⟩ | ⟨f1, f2, f3⟩
  · subst f2
    subst f3
    rw [f1, if_pos rfl] at e1
    obtain ⟨M', g1, g2, g3⟩ := r_first H.qk.z13 h hV r e2
    exact last X M' g2 g3 e1 g1
  · rw [f1, if_neg (nJ_m1 (by omega))] at e1
    cases hh : m_A_choose (nJ f) (nJ b) X with
    | none => rw [hh] at e1; cases e1
    | some o =>
      rw [hh] at e1
      have e1 : j_A_passBecome_11 (nJ b) o.2 = some a := e1
      have hh2 := hh
      unfold m_A_choose at hh2
      have e2' := e2
      unfold m_R_formedBlock at e2'
      obtain ⟨M', g1, g2, g3⟩ := y_ch2 H hc hb f3 f2 FU 0 X M h hV (fun v hv => by omega) (by omega) o r hh2 e2'
      exact last o.2 M' g2 g3 e1 g1
