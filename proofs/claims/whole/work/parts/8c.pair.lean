def Pw2 {α β : Type} (P : α → β → Prop) (x : Option α) (y : Option β) : Prop := ∀ a b, x = some a → y = some b → P a b
section
variable {α β γ δ : Type} {P : γ → δ → Prop}
theorem p2_nl {y : Option δ} : Pw2 P (none : Option γ) y := fun _ _ h => by cases h
theorem p2_nr {x : Option γ} : Pw2 P x (none : Option δ) := fun _ _ _ h => by cases h
theorem p2_some {a : γ} {b : δ} (h : P a b) : Pw2 P (some a) (some b) := fun _ _ e1 e2 => by cases e1; cases e2; exact h
theorem p2_bind {Q : α → β → Prop} {x : Option α} {y : Option β} {f : α → Option γ} {g : β → Option δ} (h : Pw2 Q x y) (k : ∀ a b, Q a b → Pw2 P (f a) (g b)) : Pw2 P (x.bind f) (y.bind g) := by
  cases x with
  | none => exact p2_nl
  | some a =>
    cases y with
    | none => exact p2_nr
    | some b => exact k a b (h a b rfl rfl)
theorem p2_bl {Q : α → Prop} {x : Option α} {f : α → Option γ} {y : Option δ} (h : Pw Q x) (k : ∀ a, Q a → Pw2 P (f a) y) : Pw2 P (x.bind f) y := by
  cases x with
  | none => exact p2_nl
  | some a => exact k a (h a rfl)
theorem p2_br {Q : β → Prop} {x : Option γ} {y : Option β} {g : β → Option δ} (h : Pw Q y) (k : ∀ b, Q b → Pw2 P x (g b)) : Pw2 P x (y.bind g) := by
  cases y with
  | none => exact p2_nr
  | some b => exact k b (h b rfl)
theorem p2_il {c : Prop} {d : Decidable c} {x x' : Option γ} {y : Option δ} (h1 : c → Pw2 P x y) (h2 : ¬ c → Pw2 P x' y) : Pw2 P (@ite _ c d x x') y := by
  by_cases h : c
  · rw [if_pos h]; exact h1 h
  · rw [if_neg h]; exact h2 h
theorem p2_ir {c : Prop} {d : Decidable c} {x : Option γ} {y y' : Option δ} (h1 : c → Pw2 P x y) (h2 : ¬ c → Pw2 P x y') : Pw2 P x (@ite _ c d y y') := by
  by_cases h : c
  · rw [if_pos h]; exact h1 h
  · rw [if_neg h]; exact h2 h
theorem p2_okl {c : Prop} {d : Decidable c} {x : Option γ} {y : Option δ} (h : Pw2 P x y) : Pw2 P (@ite _ c d x none) y := p2_il (fun _ => h) (fun _ => p2_nl)
theorem p2_okr {c : Prop} {d : Decidable c} {x : Option γ} {y : Option δ} (h : Pw2 P x y) : Pw2 P x (@ite _ c d y none) := p2_ir (fun _ => h) (fun _ => p2_nr)
theorem p2_wl {a : α} {f : α → Option γ} {y : Option δ} (k : ∀ M, M = a → Pw2 P (f M) y) : Pw2 P (wr a f) y := k a rfl
theorem p2_wr {a : α} {x : Option γ} {g : α → Option δ} (k : ∀ M, M = a → Pw2 P x (g M)) : Pw2 P x (wr a g) := k a rfl
theorem p2_bsl {a : α} {f : α → Option γ} {y : Option δ} (h : Pw2 P (f a) y) : Pw2 P (Option.bind (some a) f) y := h
theorem p2_bsr {b : β} {x : Option γ} {g : β → Option δ} (h : Pw2 P x (g b)) : Pw2 P x (Option.bind (some b) g) := h
theorem p2_to {P' : γ → δ → Prop} {x : Option γ} {y : Option δ} (h : Pw2 P' x y) (k : ∀ a b, P' a b → P a b) : Pw2 P x y := fun a b e1 e2 => k a b (h a b e1 e2)
theorem p2_one {Q : γ → Prop} {T : δ → Prop} {x : Option γ} {y : Option δ} (h1 : Pw Q x) (h2 : Pw T y) (k : ∀ a b, Q a → T b → P a b) : Pw2 P x y := fun a b e1 e2 => k a b (h1 a e1) (h2 b e2)
end
def SRd (d : Int32) (X0 G : Sto) (K c : Nat) (X M : Sto) : Prop := (FA X0 X) ∧ (Fr [28, 29, 30] [34, 35, 37, 38] G M) ∧ (∃ t, t ≤ K ∧ X 6 9 = nJ t ∧ M 0 35 = nJ t ∧ ∀ j, j < t → j < 40 → X 33 j = M 28 j) ∧ (∃ a g, a ≤ K ∧ g ≤ 16 ∧ X0 6 4 = nJ g ∧ G 0 32 = nJ g ∧ (∀ j, j < g → X0 29 j = G 27 j) ∧ M 0 34 = nJ a ∧ X 6 13 = nJ (min a g)) ∧ (M 0 37 = nJ c) ∧ (X 6 11 = nJ c) ∧ (M 0 38 = X 6 12 + d)
theorem SRd.fx {d : Int32} {X0 G : Sto} {K c : Nat} {X M : Sto} (h : SRd d X0 G K c X M) : FA X0 X := h.1
theorem SRd.fr {d : Int32} {X0 G : Sto} {K c : Nat} {X M : Sto} (h : SRd d X0 G K c X M) : Fr [28, 29, 30] [34, 35, 37, 38] G M := h.2.1
theorem SRd.tl {d : Int32} {X0 G : Sto} {K c : Nat} {X M : Sto} (h : SRd d X0 G K c X M) : ∃ t, t ≤ K ∧ X 6 9 = nJ t ∧ M 0 35 = nJ t ∧ ∀ j, j < t → j < 40 → X 33 j = M 28 j := h.2.2.1
theorem SRd.ak {d : Int32} {X0 G : Sto} {K c : Nat} {X M : Sto} (h : SRd d X0 G K c X M) : ∃ a g, a ≤ K ∧ g ≤ 16 ∧ X0 6 4 = nJ g ∧ G 0 32 = nJ g ∧ (∀ j, j < g → X0 29 j = G 27 j) ∧ M 0 34 = nJ a ∧ X 6 13 = nJ (min a g) := h.2.2.2.1
theorem SRd.s {d : Int32} {X0 G : Sto} {K c : Nat} {X M : Sto} (h : SRd d X0 G K c X M) : M 0 37 = nJ c := h.2.2.2.2.1
theorem SRd.bl {d : Int32} {X0 G : Sto} {K c : Nat} {X M : Sto} (h : SRd d X0 G K c X M) : X 6 11 = nJ c := h.2.2.2.2.2.1
theorem SRd.ins {d : Int32} {X0 G : Sto} {K c : Nat} {X M : Sto} (h : SRd d X0 G K c X M) : M 0 38 = X 6 12 + d := h.2.2.2.2.2.2
abbrev SR (X0 G : Sto) (K c : Nat) (X M : Sto) : Prop := SRd 0 X0 G K c X M
abbrev SR1 (X0 G : Sto) (K c : Nat) (X M : Sto) : Prop := SRd 1 X0 G K c X M
theorem SRd.mono {d : Int32} {X0 G X M : Sto} {K K' c : Nat} (h : SRd d X0 G K c X M) (hk : K ≤ K') : SRd d X0 G K' c X M := by
  obtain ⟨t, t1, t2⟩ := h.tl
  obtain ⟨a, g, a1, a2⟩ := h.ak
  exact ⟨h.fx, h.fr, ⟨t, by omega, t2⟩, ⟨a, g, by omega, a2⟩, h.s, h.bl, h.ins⟩
theorem SRd.kx {d : Int32} {X0 G X X' M : Sto} {K c : Nat} (h : SRd d X0 G K c X M) (f : FA X0 X') (e6 : ∀ j, 9 ≤ j → X' 6 j = X 6 j) (e33 : X' 33 = X 33) : SRd d X0 G K c X' M :=
  ⟨f, h.fr, by rw [e6 9 (by decide), e33]; exact h.tl, by rw [e6 13 (by decide)]; exact h.ak, h.s, by rw [e6 11 (by decide)]; exact h.bl, by rw [e6 12 (by decide)]; exact h.ins⟩
theorem SRd.km {d : Int32} {X0 G X M M' : Sto} {K c : Nat} (h : SRd d X0 G K c X M) (f : Fr [28, 29, 30] [34, 35, 37, 38] G M') (e0 : M' 0 = M 0) (e28 : M' 28 = M 28) : SRd d X0 G K c X M' :=
  ⟨h.fx, f, by rw [e0, e28]; exact h.tl, by rw [e0]; exact h.ak, by rw [e0]; exact h.s, h.bl, by rw [e0]; exact h.ins⟩
theorem SRd.upx {d : Int32} {X0 G X M : Sto} {K c k j : Nat} {v : Int32} (h : SRd d X0 G K c X M) (hk : 30 ≤ k ∧ k ≤ 32) : SRd d X0 G K c (up2 X k j v) M :=
  h.kx (h.fx.up ⟨hk.1, by omega⟩) (fun _ _ => by rw [up2_ne _ _ _ (by omega)]) (by rw [up2_ne _ _ _ (by omega)])
theorem SRd.upm {d : Int32} {X0 G X M : Sto} {K c k j : Nat} {v : Int32} (h : SRd d X0 G K c X M) (hk : k = 29 ∨ k = 30) : SRd d X0 G K c X (up2 M k j v) := by
  have h0 : (0 : Nat) ≠ k := by omega
  have h28 : (28 : Nat) ≠ k := by omega
  exact h.km (h.fr.up (by omega) (by rcases hk with z | z <;> rw [z] <;> decide)) (by rw [up2_ne _ _ _ h0]) (by rw [up2_ne _ _ _ h28])
theorem SRd.up12 {X0 G X M : Sto} {K c : Nat} (h : SR1 X0 G K c X M) : SR X0 G K c (up2 X 6 12 (X 6 12 + 1)) M := by
  have e6 : ∀ j, j ≠ 12 → up2 X 6 12 (X 6 12 + 1) 6 j = X 6 j := fun j hj => by rw [up2_at, if_neg (fun q => hj q.2)]
  have e33 : up2 X 6 12 (X 6 12 + 1) 33 = X 33 := up2_ne _ _ _ (by decide)
  have e12 : up2 X 6 12 (X 6 12 + 1) 6 12 = X 6 12 + 1 := by rw [up2_at, if_pos ⟨rfl, rfl⟩]
  have hi : M 0 38 = X 6 12 + 1 := h.ins
  exact ⟨h.fx.up6 (by decide), h.fr, by rw [e6 9 (by decide), e33]; exact h.tl, by rw [e6 13 (by decide)]; exact h.ak, h.s, by rw [e6 11 (by decide)]; exact h.bl, by rw [e12, hi, Int32.add_zero]⟩
theorem SRd.up38 {X0 G X M : Sto} {K c : Nat} (h : SR X0 G K c X M) : SR1 X0 G K c X (up2 M 0 38 (M 0 38 + 1)) := by
  have e0 : ∀ j, j ≠ 38 → up2 M 0 38 (M 0 38 + 1) 0 j = M 0 j := fun j hj => by rw [up2_at, if_neg (fun q => hj q.2)]
  have e28 : up2 M 0 38 (M 0 38 + 1) 28 = M 28 := up2_ne _ _ _ (by decide)
  have e38 : up2 M 0 38 (M 0 38 + 1) 0 38 = M 0 38 + 1 := by rw [up2_at, if_pos ⟨rfl, rfl⟩]
  have hi : M 0 38 = X 6 12 + 0 := h.ins
  exact ⟨h.fx, h.fr.up0 (by decide), by rw [e0 35 (by decide), e28]; exact h.tl, by rw [e0 34 (by decide)]; exact h.ak, by rw [e0 37 (by decide)]; exact h.s, h.bl, by rw [e38, hi, Int32.add_zero]⟩
def Sm (X M a b : Sto) : Prop := a 30 = X 30 ∧ a 31 = X 31 ∧ a 32 = X 32 ∧ b 29 = M 29 ∧ b 30 = M 30
theorem y_tell {X0 G X M : Sto} {K c : Nat} {x : Int32} (h : SR X0 G K c X M) (hK : K < 100000) : Pw2 (fun a b => SR X0 G (K + 1) c a.2 b.2 ∧ Sm X M a.2 b.2) (m_A_keep x X) (m_R_tell x M) := by
  obtain ⟨t, t1, t2, t3, t4⟩ := h.tl
  obtain ⟨a, g, a1, a2⟩ := h.ak
  unfold m_A_keep m_R_tell
  rw [t2, t3, nJ_tn (by omega)]
  have fin : ∀ X1 M1, FA X0 X1 → X1 6 = X 6 → Fr [28, 29, 30] [34, 35, 37, 38] G M1 → M1 0 = M 0 → (∀ j, j < t + 1 → j < 40 → X1 33 j = M1 28 j) → Sm X M X1 M1 → Pw2 (fun a b => SR X0 G (K + 1) c a.2 b.2 ∧ Sm X M a.2 b.2) (j_A_keep_19 X1) (j_R_tell_19 M1) := by
    intro X1 M1 f1 e6 f2 e0 hj hs
    unfold j_A_keep_19 j_R_tell_19
    rw [e6, e0, t2, t3, nJ_succ (by omega)]
    refine p2_wl fun X2 q2 => p2_wr fun M2 p2 => p2_some ?_
    show SR X0 G (K + 1) c X2 M2 ∧ Sm X M X2 M2
    have hm : ∀ j, j ≠ 35 → M2 0 j = M 0 j := fun j hj => by rw [p2, up2_at, if_neg (fun q => hj q.2), e0]
    have hx : ∀ j, j ≠ 9 → X2 6 j = X 6 j := fun j hj => by rw [q2, up2_at, if_neg (fun q => hj q.2), e6]
    refine ⟨⟨by rw [q2]; exact f1.up6 (by decide), by rw [p2]; exact f2.up0 (by decide), ⟨t + 1, by omega, by rw [q2, up2_at, if_pos ⟨rfl, rfl⟩], by rw [p2, up2_at, if_pos ⟨rfl, rfl⟩], by rw [q2, up2_ne _ _ _ (by decide), p2, up2_ne _ _ _ (by decide)]; exact hj⟩, ⟨a, g, by omega, by rw [hm 34 (by decide), hx 13 (by decide)]; exact a2⟩, by rw [hm 37 (by decide)]; exact h.s, by rw [hx 11 (by decide)]; exact h.bl, by rw [hm 38 (by decide), hx 12 (by decide)]; exact h.ins⟩, ?_⟩
    obtain ⟨s1, s2, s3, s4, s5⟩ := hs
    exact ⟨by rw [q2, up2_ne _ _ _ (by decide)]; exact s1, by rw [q2, up2_ne _ _ _ (by decide)]; exact s2, by rw [q2, up2_ne _ _ _ (by decide)]; exact s3, by rw [p2, up2_ne _ _ _ (by decide)]; exact s4, by rw [p2, up2_ne _ _ _ (by decide)]; exact s5⟩
  by_cases q : 40 ≤ t
  · have q' : (40 : Int32) ≤ nJ t := Int32.le_iff_toInt_le.mpr (by rw [nJ_int (i := t) (by omega)]; show (40 : Int) ≤ t; omega)
    rw [if_pos q', if_pos q']
    exact fin X M h.fx rfl h.fr rfl (fun j _ hj => t4 j (by omega) hj) ⟨rfl, rfl, rfl, rfl, rfl⟩
  · have q' : ¬ (40 : Int32) ≤ nJ t := fun y => by
      have := Int32.le_iff_toInt_le.mp y
      rw [nJ_int (i := t) (by omega)] at this
      have n40 : (40 : Int32).toInt = 40 := rfl
      omega
    rw [if_neg q', if_neg q']
    refine p2_okl (p2_okr (p2_wl fun X1 q1 => p2_wr fun M1 p1 => ?_))
    refine fin X1 M1 (by rw [q1]; exact h.fx.up (by decide)) (by rw [q1, up2_ne _ _ _ (by decide)]) (by rw [p1]; exact h.fr.up (by decide) (by decide)) (by rw [p1, up2_ne _ _ _ (by decide)]) (fun j hj hj' => ?_) ⟨by rw [q1, up2_ne _ _ _ (by decide)], by rw [q1, up2_ne _ _ _ (by decide)], by rw [q1, up2_ne _ _ _ (by decide)], by rw [p1, up2_ne _ _ _ (by decide)], by rw [p1, up2_ne _ _ _ (by decide)]⟩
    rw [q1, p1, up2_at, up2_at]
    by_cases z : j = t
    · rw [if_pos ⟨rfl, z⟩, if_pos ⟨rfl, z⟩]
    · rw [if_neg (fun y => z y.2), if_neg (fun y => z y.2)]; exact t4 j (by omega) hj'
theorem y_ask {X0 G X M : Sto} {K c : Nat} (h : SR X0 G K c X M) (hK : K < 100000) : Pw2 (fun a b => a.1 = b.1 ∧ SR X0 G (K + 1) c a.2 b.2 ∧ Sm X M a.2 b.2) (m_A_nextInput X) (m_R_ask M) := by
  obtain ⟨a, g, a1, g1, g2, g3, g4, a2, a3⟩ := h.ak
  obtain ⟨t, t1, t2⟩ := h.tl
  have x29 : X 29 = X0 29 := h.fx.1 29 (by decide) (by decide)
  have m27 : M 27 = G 27 := h.fr.1 27 (by decide) (by decide)
  unfold m_A_nextInput m_R_ask j_R_ask_36
  rw [a3, h.fx.2, g2, a2, nJ_succ (i := a) (by omega)]
  refine p2_wr fun M1 p1 => ?_
  have e34 : M1 0 34 = nJ (a + 1) := by rw [p1, up2_at, if_pos ⟨rfl, rfl⟩]
  have e32 : M1 0 32 = nJ g := by rw [p1, up2_at, if_neg (by decide), h.fr.2 32 (by decide)]; exact g3
  have hm : ∀ j, j ≠ 34 → M1 0 j = M 0 j := fun j hj => by rw [p1, up2_at, if_neg (fun q => hj q.2)]
  have f1 : Fr [28, 29, 30] [34, 35, 37, 38] G M1 := by rw [p1]; exact h.fr.up0 (by decide)
  have m28 : M1 28 = M 28 := by rw [p1, up2_ne _ _ _ (by decide)]
  have e4 : nJ (a + 1) - 1 = nJ a := by
    apply Int32.toInt_inj.mp
    have n1 : (1 : Int32).toInt = 1 := rfl
    have h1 := nJ_int (i := a + 1) (by omega)
    rw [subI (by omega) (by omega), nJ_int (i := a) (by omega)]; omega
  rw [e34, e32, e4, nJ_tn (i := a) (by omega)]
  have sm : ∀ X1, (∀ k, k ≠ 6 → X1 k = X k) → Sm X M X1 M1 := fun X1 hk => ⟨hk 30 (by decide), hk 31 (by decide), hk 32 (by decide), by rw [p1, up2_ne _ _ _ (by decide)], by rw [p1, up2_ne _ _ _ (by decide)]⟩
  have i1 := nJ_int (i := a + 1) (by omega)
  have i2 := nJ_int (i := g) (by omega)
  have i3 := nJ_int (i := min a g) (by omega)
  by_cases q : a < g
  · have em : min a g = a := by omega
    rw [em, nJ_tn (i := a) (by omega)]
    have c1 : nJ a < nJ g := Int32.lt_iff_toInt_lt.mpr (by rw [nJ_int (i := a) (by omega), i2]; omega)
    have c2 : ¬ nJ g < nJ (a + 1) := fun y => by have := Int32.lt_iff_toInt_lt.mp y; omega
    rw [if_pos c1, if_neg c2]
    refine p2_okl (p2_wl fun X1 q1 => p2_okr (p2_some ?_))
    rw [nJ_succ (by omega)] at q1
    have hx : ∀ j, j ≠ 13 → X1 6 j = X 6 j := fun j hj => by rw [q1, up2_at, if_neg (fun q => hj q.2)]
    have hk : ∀ k, k ≠ 6 → X1 k = X k := fun k hk => by rw [q1, up2_ne _ _ _ hk]
    show X 29 a = M1 27 a ∧ SR X0 G (K + 1) c X1 M1 ∧ Sm X M X1 M1
    refine ⟨?_, ⟨by rw [q1]; exact h.fx.up6 (by decide), f1, ⟨t, by omega, by rw [hx 9 (by decide), hm 35 (by decide), hk 33 (by decide), m28]; exact t2⟩, ⟨a + 1, g, by omega, g1, g2, g3, g4, e34, ?_⟩, by rw [hm 37 (by decide)]; exact h.s, by rw [hx 11 (by decide)]; exact h.bl, by rw [hm 38 (by decide), hx 12 (by decide)]; exact h.ins⟩, sm X1 hk⟩
    · rw [p1, up2_ne _ _ _ (by decide), x29, m27]; exact g4 a q
    · rw [q1, up2_at, if_pos ⟨rfl, rfl⟩, show min (a + 1) g = a + 1 by omega]
  · have em : min a g = g := by omega
    rw [em]
    have c1 : ¬ nJ g < nJ g := fun y => by have := Int32.lt_iff_toInt_lt.mp y; omega
    have c2 : nJ g < nJ (a + 1) := Int32.lt_iff_toInt_lt.mpr (by omega)
    rw [if_neg c1, if_pos c2]
    refine p2_some ?_
    show (0 : Int32) = 0 ∧ SR X0 G (K + 1) c X M1 ∧ Sm X M X M1
    refine ⟨rfl, ⟨h.fx, f1, ⟨t, by omega, by rw [hm 35 (by decide), m28]; exact t2⟩, ⟨a + 1, g, by omega, g1, g2, g3, g4, e34, ?_⟩, by rw [hm 37 (by decide)]; exact h.s, h.bl, by rw [hm 38 (by decide)]; exact h.ins⟩, sm X fun _ _ => rfl⟩
    rw [a3, em, show min (a + 1) g = g by omega]
theorem y_perf7 {X0 G X M : Sto} {K c : Nat} {x y : Int32} (h : SR1 X0 G K c X M) (hK : K < 100000) : Pw2 (fun a b => SR X0 G (K + 1) c a.2 b.2 ∧ Sm X M a.2 b.2) (m_A_perform 7 x y X) (m_R_tell x M) := by
  unfold m_A_perform
  refine p2_wl fun M1 q1 => ?_
  rw [if_pos rfl]
  have h1 : SR X0 G K c M1 M := by rw [q1]; exact h.up12
  have hk : ∀ k, k ≠ 6 → M1 k = X k := fun k hk => by rw [q1, up2_ne _ _ _ hk]
  have tl := y_tell (x := x) h1 hK
  intro a b e1 e2
  obtain ⟨⟨r, M2⟩, g1, g2⟩ : ∃ o, m_A_keep x M1 = some o ∧ j_A_perform_21 7 x y o.2 = some a := by
    cases hh : m_A_keep x M1 with
    | none => rw [hh] at e1; cases e1
    | some o => rw [hh] at e1; exact ⟨o, rfl, e1⟩
  have t := tl _ _ g1 e2
  unfold j_A_perform_21 at g2
  rw [if_neg (by decide), cal_eq] at g2
  have g2 : some (cal 7 x y, M2) = some a := g2
  cases g2
  obtain ⟨t1, s1, s2, s3, s4, s5⟩ := t
  exact ⟨t1, by rw [← hk 30 (by decide)]; exact s1, by rw [← hk 31 (by decide)]; exact s2, by rw [← hk 32 (by decide)]; exact s3, s4, s5⟩
theorem y_perf6 {X0 G X M : Sto} {K c : Nat} {x y : Int32} (h : SR1 X0 G K c X M) (hK : K < 100000) : Pw2 (fun a b => a.1 = b.1 ∧ SR X0 G (K + 1) c a.2 b.2 ∧ Sm X M a.2 b.2) (m_A_perform 6 x y X) (m_R_ask M) := by
  unfold m_A_perform
  refine p2_wl fun M1 q1 => ?_
  rw [if_neg (by decide)]
  have h1 : SR X0 G K c M1 M := by rw [q1]; exact h.up12
  have hk : ∀ k, k ≠ 6 → M1 k = X k := fun k hk => by rw [q1, up2_ne _ _ _ hk]
  unfold j_A_perform_21 j_A_perform_40
  rw [if_pos rfl]
  intro a b e1 e2
  cases hh : m_A_nextInput M1 with
  | none => rw [hh] at e1; cases e1
  | some o =>
    rw [hh] at e1
    have e1 : some (o.1, o.2) = some a := e1
    cases e1
    obtain ⟨t0, t1, s1, s2, s3, s4, s5⟩ := y_ask h1 hK _ _ hh e2
    exact ⟨t0, t1, by rw [← hk 30 (by decide)]; exact s1, by rw [← hk 31 (by decide)]; exact s2, by rw [← hk 32 (by decide)]; exact s3, s4, s5⟩
theorem y_perf {X0 G X M : Sto} {K c : Nat} {κ x y : Int32} (h : SR1 X0 G K c X M) (h6 : κ ≠ 6) (h7 : κ ≠ 7) : Pw (fun a => a.1 = cal κ x y ∧ SR X0 G K c a.2 M ∧ a.2 30 = X 30 ∧ a.2 31 = X 31 ∧ a.2 32 = X 32) (m_A_perform κ x y X) := by
  unfold m_A_perform
  refine Pw.wrt fun M1 q1 => Pw.ite (fun z => absurd z h7) (fun _ => ?_)
  unfold j_A_perform_21 j_A_perform_40
  refine Pw.ite (fun z => absurd z h6) (fun _ => ?_)
  rw [cal_eq]
  refine Pw.some ⟨rfl, ?_, ?_, ?_, ?_⟩
  · show SR X0 G K c M1 M
    rw [q1]; exact h.up12
  · show M1 30 = _; rw [q1, up2_ne _ _ _ (by decide)]
  · show M1 31 = _; rw [q1, up2_ne _ _ _ (by decide)]
  · show M1 32 = _; rw [q1, up2_ne _ _ _ (by decide)]
theorem x_rX {κ : Int32} {M : Sto} : Pw (fun a => a.2 = M ∧ (a.1 = 0 → κ = 0 ∨ κ = 6) ∧ (a.1 ≠ 0 → κ ≠ 0 ∧ κ ≠ 6)) (m_N_readsX κ M) := by
  unfold m_N_readsX j_N_readsX_14 j_N_readsX_15
  refine Pw.ite (fun z => Pw.ite (fun _ => Pw.some ⟨rfl, fun _ => Or.inl z, fun q => absurd rfl q⟩) (fun _ => Pw.none)) (fun z0 => Pw.ite (fun z => Pw.ite (fun _ => Pw.some ⟨rfl, fun _ => Or.inr z, fun q => absurd rfl q⟩) (fun _ => Pw.none)) (fun z6 => Pw.ite (fun _ => Pw.some ⟨rfl, fun (q : (1 : Int32) = 0) => absurd q (by decide), fun _ => ⟨z0, z6⟩⟩) (fun _ => Pw.none)))
theorem x_rY {κ : Int32} {M : Sto} (hk : ∃ n, n < 8 ∧ κ = nJ n) : Pw (fun a => a.2 = M ∧ (a.1 = 0 → κ = 0 ∨ κ = 1 ∨ κ = 6 ∨ κ = 7) ∧ (a.1 ≠ 0 → κ ≠ 0 ∧ κ ≠ 1 ∧ κ ≠ 6 ∧ κ ≠ 7)) (m_N_readsY κ M) := by
  obtain ⟨n, n8, e⟩ := hk
  subst e
  unfold m_N_readsY j_N_readsY_14 j_N_readsY_15
  match n, n8 with
  | 0, _ => exact Pw.ite (fun _ => Pw.ite (fun _ => Pw.some ⟨rfl, fun _ => by decide, fun q => absurd rfl q⟩) (fun _ => Pw.none)) (fun z => absurd (by decide) z)
  | 1, _ => exact Pw.ite (fun _ => Pw.ite (fun _ => Pw.some ⟨rfl, fun _ => by decide, fun q => absurd rfl q⟩) (fun _ => Pw.none)) (fun z => absurd (by decide) z)
  | 2, _ => exact Pw.ite (fun z => absurd z (by decide)) (fun _ => Pw.ite (fun z => absurd z (by decide)) (fun _ => Pw.ite (fun _ => Pw.some ⟨rfl, fun (q : (1 : Int32) = 0) => absurd q (by decide), fun _ => by decide⟩) (fun _ => Pw.none)))
  | 3, _ => exact Pw.ite (fun z => absurd z (by decide)) (fun _ => Pw.ite (fun z => absurd z (by decide)) (fun _ => Pw.ite (fun _ => Pw.some ⟨rfl, fun (q : (1 : Int32) = 0) => absurd q (by decide), fun _ => by decide⟩) (fun _ => Pw.none)))
  | 4, _ => exact Pw.ite (fun z => absurd z (by decide)) (fun _ => Pw.ite (fun z => absurd z (by decide)) (fun _ => Pw.ite (fun _ => Pw.some ⟨rfl, fun (q : (1 : Int32) = 0) => absurd q (by decide), fun _ => by decide⟩) (fun _ => Pw.none)))
  | 5, _ => exact Pw.ite (fun z => absurd z (by decide)) (fun _ => Pw.ite (fun z => absurd z (by decide)) (fun _ => Pw.ite (fun _ => Pw.some ⟨rfl, fun (q : (1 : Int32) = 0) => absurd q (by decide), fun _ => by decide⟩) (fun _ => Pw.none)))
  | 6, _ => exact Pw.ite (fun z => absurd z (by decide)) (fun _ => Pw.ite (fun _ => Pw.ite (fun _ => Pw.some ⟨rfl, fun _ => by decide, fun q => absurd rfl q⟩) (fun _ => Pw.none)) (fun z => absurd (by decide) z))
  | 7, _ => exact Pw.ite (fun z => absurd z (by decide)) (fun _ => Pw.ite (fun _ => Pw.ite (fun _ => Pw.some ⟨rfl, fun _ => by decide, fun q => absurd rfl q⟩) (fun _ => Pw.none)) (fun z => absurd (by decide) z))
theorem x_sV {κ : Int32} {M : Sto} : Pw (fun a => a.2 = M ∧ (a.1 = 0 → κ = 7) ∧ (a.1 ≠ 0 → κ ≠ 7)) (m_N_setsVariable κ M) := by
  unfold m_N_setsVariable j_N_setsVariable_11
  exact Pw.ite (fun z => Pw.ite (fun _ => Pw.some ⟨rfl, fun _ => z, fun q => absurd rfl q⟩) (fun _ => Pw.none)) (fun z => Pw.ite (fun _ => Pw.some ⟨rfl, fun (q : (1 : Int32) = 0) => absurd q (by decide), fun _ => z⟩) (fun _ => Pw.none))
