def FCq (X M : Sto) : Prop := ∀ k, k = 6 ∨ (29 ≤ k ∧ k ≤ 33) → M k = X k
theorem FCq.rf {X : Sto} : FCq X X := fun _ _ => rfl
theorem FCq.up {X M : Sto} {k j : Nat} {v : Int32} (h : FCq X M) (hk : k ≠ 6 ∧ (k < 29 ∨ 33 < k)) : FCq X (up2 M k j v) := fun a ha => by rw [up2_ne _ _ _ (by omega)]; exact h a ha
theorem FCq.fill {X M : Sto} {k n : Nat} {v : Int32} (h : FCq X M) (hk : k ≠ 6 ∧ (k < 29 ∨ 33 < k)) : FCq X (fillA M k n v) := fun a ha => by rw [fillA_ne _ _ _ (by omega)]; exact h a ha
theorem Pw.wrFCq {X M' : Sto} {β : Type} {P : β → Prop} {f : Sto → Option β} (h : FCq X M') (k : ∀ M1, FCq X M1 → Pw P (f M1)) : Pw P (wr M' f) := k M' h
def FDq (X M : Sto) : Prop := (∀ k, 27 ≤ k → M k = X k) ∧ ∀ j, j = 32 ∨ j = 34 ∨ j = 35 ∨ j = 37 ∨ j = 38 → M 0 j = X 0 j
theorem FDq.rf {X : Sto} : FDq X X := ⟨fun _ _ => rfl, fun _ _ => rfl⟩
theorem FDq.up {X M : Sto} {k j : Nat} {v : Int32} (h : FDq X M) (hk : k ≠ 0 ∧ k < 27) : FDq X (up2 M k j v) := ⟨fun a ha => by rw [up2_ne _ _ _ (by omega)]; exact h.1 a ha, fun a ha => by rw [up2_ne _ _ _ (by omega)]; exact h.2 a ha⟩
theorem FDq.up0 {X M : Sto} {j : Nat} {v : Int32} (h : FDq X M) (hj : j ≠ 32 ∧ j ≠ 34 ∧ j ≠ 35 ∧ j ≠ 37 ∧ j ≠ 38) : FDq X (up2 M 0 j v) := ⟨fun a ha => by rw [up2_ne _ _ _ (by omega)]; exact h.1 a ha, fun a ha => by rw [up2_at, if_neg (by omega)]; exact h.2 a ha⟩
theorem Pw.wrFDq {X M' : Sto} {β : Type} {P : β → Prop} {f : Sto → Option β} (h : FDq X M') (k : ∀ M1, FDq X M1 → Pw P (f M1)) : Pw P (wr M' f) := k M' h
theorem fc_m_N_bit {X M : Sto} {x0 : Int32} (h : FCq X M) : Pw (fun a => FCq X a.2) (m_N_bit x0 M) := by
  unfold m_N_bit
  repeat' (with_reducible first | exact Pw.none | exact Pw.some (by assumption) | refine Pw.ite (fun _ => ?_) (fun _ => ?_) | refine Pw.wrFCq (by first | exact FCq.up (by assumption) (by omega) | exact FCq.fill (by assumption) (by omega)) (fun _ _ => ?_))
theorem fc_j_N_holds_14 {X M : Sto} {s0 : Int32} (h : FCq X M) : Pw (fun a => FCq X a.2) (j_N_holds_14 s0 M) := by
  unfold j_N_holds_14
  repeat' (with_reducible first | exact Pw.none | exact Pw.some (by assumption) | refine Pw.ite (fun _ => ?_) (fun _ => ?_) | refine Pw.wrFCq (by first | exact FCq.up (by assumption) (by omega) | exact FCq.fill (by assumption) (by omega)) (fun _ _ => ?_))
theorem fc_m_N_holds {X M : Sto} {x0 x1 : Int32} (h : FCq X M) : Pw (fun a => FCq X a.2) (m_N_holds x0 x1 M) := by
  unfold m_N_holds
  repeat' (with_reducible first | exact Pw.none | exact Pw.some (by assumption) | refine Pw.ite (fun _ => ?_) (fun _ => ?_) | refine Pw.wrFCq (by first | exact FCq.up (by assumption) (by omega) | exact FCq.fill (by assumption) (by omega)) (fun _ _ => ?_) | refine Pw.bind (fc_m_N_bit (by assumption)) (fun _ _ => ?_) | exact fc_m_N_bit (by assumption) | exact fc_j_N_holds_14 (by assumption))
theorem fc_j_S_comeBy_62 {X M : Sto} {g : Int32 → Int32 → Int32 → Int32 → Sto → Option (Int32 × Sto)} {k : Int32 → Int32 → Int32 → Sto → Option (Int32 × Sto)} {v1 v2 v3 v4 : Int32} (hg : ∀ y0 y1 y2 y3 M, FCq X M → Pw (fun a => FCq X a.2) (g y0 y1 y2 y3 M)) (hk : ∀ y0 y1 y2 M, FCq X M → Pw (fun a => FCq X a.2) (k y0 y1 y2 M)) (h : FCq X M) : Pw (fun a => FCq X a.2) (j_S_comeBy_62 g k v1 v2 v3 v4 M) := by
  unfold j_S_comeBy_62
  repeat' (with_reducible first | exact Pw.none | exact Pw.some (by assumption) | refine Pw.ite (fun _ => ?_) (fun _ => ?_) | refine Pw.wrFCq (by first | exact FCq.up (by assumption) (by omega) | exact FCq.fill (by assumption) (by omega)) (fun _ _ => ?_) | exact hg _ _ _ _ _ (by assumption) | exact hk _ _ _ _ (by assumption))
theorem fc_j_P_ways_32 {X M : Sto} {s0 : Int32} (h : FCq X M) : Pw (fun a => FCq X a.2) (j_P_ways_32 s0 M) := by
  unfold j_P_ways_32
  repeat' (with_reducible first | exact Pw.none | exact Pw.some (by assumption) | refine Pw.ite (fun _ => ?_) (fun _ => ?_) | refine Pw.wrFCq (by first | exact FCq.up (by assumption) (by omega) | exact FCq.fill (by assumption) (by omega)) (fun _ _ => ?_))
theorem fc_m_P_ways {X M : Sto} {x1 : Int32} (h : FCq X M) : Pw (fun a => FCq X a.2) (m_P_ways x1 M) := by
  unfold m_P_ways
  repeat' (with_reducible first | exact Pw.none | exact Pw.some (by assumption) | refine Pw.ite (fun _ => ?_) (fun _ => ?_) | refine Pw.wrFCq (by first | exact FCq.up (by assumption) (by omega) | exact FCq.fill (by assumption) (by omega)) (fun _ _ => ?_) | exact fc_j_P_ways_32 (by assumption) | refine Pw.bind (fc_m_N_bit (by assumption)) (fun _ _ => ?_) | exact fc_m_N_bit (by assumption))
theorem fc_l_S_comeBy_25 {X : Sto} {k : Int32 → Int32 → Int32 → Sto → Option (Int32 × Sto)} (hk : ∀ y0 y1 y2 M, FCq X M → Pw (fun a => FCq X a.2) (k y0 y1 y2 M)) : ∀ n y0 y1 y2 y3 M, FCq X M → Pw (fun a => FCq X a.2) (l_S_comeBy_25 k n y0 y1 y2 y3 M) := by
  intro n
  induction n with
  | zero => intro y0 y1 y2 y3 M _; exact Pw.none
  | succ n ih =>
    intro y0 y1 y2 y3 M h
    unfold l_S_comeBy_25
    repeat' (with_reducible first | exact Pw.none | exact Pw.some (by assumption) | refine Pw.ite (fun _ => ?_) (fun _ => ?_) | refine Pw.wrFCq (by first | exact FCq.up (by assumption) (by omega) | exact FCq.fill (by assumption) (by omega)) (fun _ _ => ?_) | refine Pw.bind (fc_m_N_holds (by assumption)) (fun _ _ => ?_) | exact fc_m_N_holds (by assumption) | exact fc_j_S_comeBy_62 (by assumption) (by assumption) (by assumption) | refine Pw.bind (fc_m_P_ways (by assumption)) (fun _ _ => ?_) | exact fc_m_P_ways (by assumption) | exact ih _ _ _ _ _ (by assumption) | exact hk _ _ _ _ (by assumption))
theorem fc_j_S_comeBy_68 {X M : Sto} {g : Int32 → Int32 → Int32 → Sto → Option (Int32 × Sto)} {k : Int32 → Sto → Option (Int32 × Sto)} {v1 v2 v3 : Int32} (hg : ∀ y0 y1 y2 M, FCq X M → Pw (fun a => FCq X a.2) (g y0 y1 y2 M)) (hk : ∀ y0 M, FCq X M → Pw (fun a => FCq X a.2) (k y0 M)) (h : FCq X M) : Pw (fun a => FCq X a.2) (j_S_comeBy_68 g k v1 v2 v3 M) := by
  unfold j_S_comeBy_68
  repeat' (with_reducible first | exact Pw.none | exact Pw.some (by assumption) | refine Pw.ite (fun _ => ?_) (fun _ => ?_) | refine Pw.wrFCq (by first | exact FCq.up (by assumption) (by omega) | exact FCq.fill (by assumption) (by omega)) (fun _ _ => ?_) | exact hg _ _ _ _ (by assumption) | exact hk _ _ (by assumption))
theorem fc_l_S_comeBy_11 {X : Sto} {k : Int32 → Sto → Option (Int32 × Sto)} (hk : ∀ y0 M, FCq X M → Pw (fun a => FCq X a.2) (k y0 M)) : ∀ n y0 y1 y2 M, FCq X M → Pw (fun a => FCq X a.2) (l_S_comeBy_11 k n y0 y1 y2 M) := by
  intro n
  induction n with
  | zero => intro y0 y1 y2 M _; exact Pw.none
  | succ n ih =>
    intro y0 y1 y2 M h
    unfold l_S_comeBy_11
    repeat' (with_reducible first | exact Pw.none | exact Pw.some (by assumption) | refine Pw.ite (fun _ => ?_) (fun _ => ?_) | refine Pw.wrFCq (by first | exact FCq.up (by assumption) (by omega) | exact FCq.fill (by assumption) (by omega)) (fun _ _ => ?_) | refine fc_l_S_comeBy_25 (fun _ _ _ _ _ => ?_) _ _ _ _ _ _ (by assumption) | exact fc_j_S_comeBy_68 (by assumption) (by assumption) (by assumption) | exact ih _ _ _ _ (by assumption) | exact hk _ _ (by assumption))
theorem fc_j_S_comeBy_74 {X M : Sto} {v2 : Int32} (h : FCq X M) : Pw (fun a => FCq X a.2) (j_S_comeBy_74 v2 M) := by
  unfold j_S_comeBy_74
  repeat' (with_reducible first | exact Pw.none | exact Pw.some (by assumption) | refine Pw.ite (fun _ => ?_) (fun _ => ?_) | refine Pw.wrFCq (by first | exact FCq.up (by assumption) (by omega) | exact FCq.fill (by assumption) (by omega)) (fun _ _ => ?_))
theorem fc_m_S_comeBy {X M : Sto} {x1 : Int32} (h : FCq X M) : Pw (fun a => FCq X a.2) (m_S_comeBy x1 M) := by
  unfold m_S_comeBy
  repeat' (with_reducible first | exact Pw.none | exact Pw.some (by assumption) | refine Pw.ite (fun _ => ?_) (fun _ => ?_) | refine Pw.wrFCq (by first | exact FCq.up (by assumption) (by omega) | exact FCq.fill (by assumption) (by omega)) (fun _ _ => ?_) | refine Pw.bind (fc_m_N_bit (by assumption)) (fun _ _ => ?_) | exact fc_m_N_bit (by assumption) | refine fc_l_S_comeBy_11 (fun _ _ _ => ?_) _ _ _ _ _ (by assumption) | exact fc_j_S_comeBy_74 (by assumption))
theorem fc_j_S_findBefore_48 {X M : Sto} {g : Int32 → Int32 → Int32 → Sto → Option (Int32 × Sto)} {k : Int32 → Sto → Option (Int32 × Sto)} {v1 v2 v3 : Int32} (hg : ∀ y0 y1 y2 M, FCq X M → Pw (fun a => FCq X a.2) (g y0 y1 y2 M)) (hk : ∀ y0 M, FCq X M → Pw (fun a => FCq X a.2) (k y0 M)) (h : FCq X M) : Pw (fun a => FCq X a.2) (j_S_findBefore_48 g k v1 v2 v3 M) := by
  unfold j_S_findBefore_48
  repeat' (with_reducible first | exact Pw.none | exact Pw.some (by assumption) | refine Pw.ite (fun _ => ?_) (fun _ => ?_) | refine Pw.wrFCq (by first | exact FCq.up (by assumption) (by omega) | exact FCq.fill (by assumption) (by omega)) (fun _ _ => ?_) | exact hg _ _ _ _ (by assumption) | exact hk _ _ (by assumption))
theorem fc_l_S_findBefore_4 {X : Sto} {k : Int32 → Sto → Option (Int32 × Sto)} (hk : ∀ y0 M, FCq X M → Pw (fun a => FCq X a.2) (k y0 M)) : ∀ n y0 y1 y2 M, FCq X M → Pw (fun a => FCq X a.2) (l_S_findBefore_4 k n y0 y1 y2 M) := by
  intro n
  induction n with
  | zero => intro y0 y1 y2 M _; exact Pw.none
  | succ n ih =>
    intro y0 y1 y2 M h
    unfold l_S_findBefore_4
    repeat' (with_reducible first | exact Pw.none | exact Pw.some (by assumption) | refine Pw.ite (fun _ => ?_) (fun _ => ?_) | refine Pw.wrFCq (by first | exact FCq.up (by assumption) (by omega) | exact FCq.fill (by assumption) (by omega)) (fun _ _ => ?_) | refine Pw.bind (fc_m_N_holds (by assumption)) (fun _ _ => ?_) | exact fc_m_N_holds (by assumption) | exact fc_j_S_findBefore_48 (by assumption) (by assumption) (by assumption) | refine Pw.bind (fc_m_P_ways (by assumption)) (fun _ _ => ?_) | exact fc_m_P_ways (by assumption) | refine Pw.bind (fc_m_N_bit (by assumption)) (fun _ _ => ?_) | exact fc_m_N_bit (by assumption) | exact ih _ _ _ _ (by assumption) | exact hk _ _ (by assumption))
theorem fc_j_S_findBefore_54 {X M : Sto} {v2 : Int32} (h : FCq X M) : Pw (fun a => FCq X a.2) (j_S_findBefore_54 v2 M) := by
  unfold j_S_findBefore_54
  repeat' (with_reducible first | exact Pw.none | exact Pw.some (by assumption) | refine Pw.ite (fun _ => ?_) (fun _ => ?_) | refine Pw.wrFCq (by first | exact FCq.up (by assumption) (by omega) | exact FCq.fill (by assumption) (by omega)) (fun _ _ => ?_))
theorem fc_m_S_findBefore {X M : Sto} {x1 : Int32} (h : FCq X M) : Pw (fun a => FCq X a.2) (m_S_findBefore x1 M) := by
  unfold m_S_findBefore
  repeat' (with_reducible first | exact Pw.none | exact Pw.some (by assumption) | refine Pw.ite (fun _ => ?_) (fun _ => ?_) | refine Pw.wrFCq (by first | exact FCq.up (by assumption) (by omega) | exact FCq.fill (by assumption) (by omega)) (fun _ _ => ?_) | refine fc_l_S_findBefore_4 (fun _ _ _ => ?_) _ _ _ _ _ (by assumption) | exact fc_j_S_findBefore_54 (by assumption))
theorem fc_j_S_survey_68 {X M : Sto} {g : Int32 → Sto → Option (Int32 × Sto)} {k : Sto → Option (Int32 × Sto)} {s0 s1 v1 : Int32} (hg : ∀ y0 M, FCq X M → Pw (fun a => FCq X a.2) (g y0 M)) (hk : ∀  M, FCq X M → Pw (fun a => FCq X a.2) (k  M)) (h : FCq X M) : Pw (fun a => FCq X a.2) (j_S_survey_68 g k s0 s1 v1 M) := by
  unfold j_S_survey_68
  repeat' (with_reducible first | exact Pw.none | exact Pw.some (by assumption) | refine Pw.ite (fun _ => ?_) (fun _ => ?_) | refine Pw.wrFCq (by first | exact FCq.up (by assumption) (by omega) | exact FCq.fill (by assumption) (by omega)) (fun _ _ => ?_) | exact hg _ _ (by assumption) | exact hk _ (by assumption))
theorem fc_l_S_survey_11 {X : Sto} {k : Sto → Option (Int32 × Sto)} (hk : ∀  M, FCq X M → Pw (fun a => FCq X a.2) (k  M)) : ∀ n y0 M, FCq X M → Pw (fun a => FCq X a.2) (l_S_survey_11 k n y0 M) := by
  intro n
  induction n with
  | zero => intro y0 M _; exact Pw.none
  | succ n ih =>
    intro y0 M h
    unfold l_S_survey_11
    repeat' (with_reducible first | exact Pw.none | exact Pw.some (by assumption) | refine Pw.ite (fun _ => ?_) (fun _ => ?_) | refine Pw.wrFCq (by first | exact FCq.up (by assumption) (by omega) | exact FCq.fill (by assumption) (by omega)) (fun _ _ => ?_) | refine Pw.bind (fc_m_S_findBefore (by assumption)) (fun _ _ => ?_) | exact fc_m_S_findBefore (by assumption) | refine Pw.bind (fc_m_N_holds (by assumption)) (fun _ _ => ?_) | exact fc_m_N_holds (by assumption) | exact fc_j_S_survey_68 (by assumption) (by assumption) (by assumption) | refine Pw.bind (fc_m_N_bit (by assumption)) (fun _ _ => ?_) | exact fc_m_N_bit (by assumption) | refine Pw.bind (fc_m_S_comeBy (by assumption)) (fun _ _ => ?_) | exact fc_m_S_comeBy (by assumption) | exact ih _ _ (by assumption) | exact hk _ (by assumption))
theorem fc_j_S_findParent_53 {X M : Sto} {g : Int32 → Int32 → Int32 → Sto → Option (Int32 × Sto)} {k : Int32 → Sto → Option (Int32 × Sto)} {v1 v2 v3 : Int32} (hg : ∀ y0 y1 y2 M, FCq X M → Pw (fun a => FCq X a.2) (g y0 y1 y2 M)) (hk : ∀ y0 M, FCq X M → Pw (fun a => FCq X a.2) (k y0 M)) (h : FCq X M) : Pw (fun a => FCq X a.2) (j_S_findParent_53 g k v1 v2 v3 M) := by
  unfold j_S_findParent_53
  repeat' (with_reducible first | exact Pw.none | exact Pw.some (by assumption) | refine Pw.ite (fun _ => ?_) (fun _ => ?_) | refine Pw.wrFCq (by first | exact FCq.up (by assumption) (by omega) | exact FCq.fill (by assumption) (by omega)) (fun _ _ => ?_) | exact hg _ _ _ _ (by assumption) | exact hk _ _ (by assumption))
theorem fc_j_S_findParent_51 {X M : Sto} {g : Int32 → Int32 → Int32 → Sto → Option (Int32 × Sto)} {k : Int32 → Sto → Option (Int32 × Sto)} {v1 v3 : Int32} (hg : ∀ y0 y1 y2 M, FCq X M → Pw (fun a => FCq X a.2) (g y0 y1 y2 M)) (hk : ∀ y0 M, FCq X M → Pw (fun a => FCq X a.2) (k y0 M)) (h : FCq X M) : Pw (fun a => FCq X a.2) (j_S_findParent_51 g k v1 v3 M) := by
  unfold j_S_findParent_51
  repeat' (with_reducible first | exact Pw.none | exact Pw.some (by assumption) | refine Pw.ite (fun _ => ?_) (fun _ => ?_) | refine Pw.wrFCq (by first | exact FCq.up (by assumption) (by omega) | exact FCq.fill (by assumption) (by omega)) (fun _ _ => ?_) | exact fc_j_S_findParent_53 (by assumption) (by assumption) (by assumption) | exact hg _ _ _ _ (by assumption) | exact hk _ _ (by assumption))
theorem fc_l_S_findParent_4 {X : Sto} {k : Int32 → Sto → Option (Int32 × Sto)} (hk : ∀ y0 M, FCq X M → Pw (fun a => FCq X a.2) (k y0 M)) : ∀ n y0 y1 y2 M, FCq X M → Pw (fun a => FCq X a.2) (l_S_findParent_4 k n y0 y1 y2 M) := by
  intro n
  induction n with
  | zero => intro y0 y1 y2 M _; exact Pw.none
  | succ n ih =>
    intro y0 y1 y2 M h
    unfold l_S_findParent_4
    repeat' (with_reducible first | exact Pw.none | exact Pw.some (by assumption) | refine Pw.ite (fun _ => ?_) (fun _ => ?_) | refine Pw.wrFCq (by first | exact FCq.up (by assumption) (by omega) | exact FCq.fill (by assumption) (by omega)) (fun _ _ => ?_) | exact fc_j_S_findParent_53 (by assumption) (by assumption) (by assumption) | refine Pw.bind (fc_m_N_holds (by assumption)) (fun _ _ => ?_) | exact fc_m_N_holds (by assumption) | exact fc_j_S_findParent_51 (by assumption) (by assumption) (by assumption) | exact ih _ _ _ _ (by assumption) | exact hk _ _ (by assumption))
theorem fc_j_S_findParent_59 {X M : Sto} {v2 : Int32} (h : FCq X M) : Pw (fun a => FCq X a.2) (j_S_findParent_59 v2 M) := by
  unfold j_S_findParent_59
  repeat' (with_reducible first | exact Pw.none | exact Pw.some (by assumption) | refine Pw.ite (fun _ => ?_) (fun _ => ?_) | refine Pw.wrFCq (by first | exact FCq.up (by assumption) (by omega) | exact FCq.fill (by assumption) (by omega)) (fun _ _ => ?_))
theorem fc_m_S_findParent {X M : Sto} {x1 : Int32} (h : FCq X M) : Pw (fun a => FCq X a.2) (m_S_findParent x1 M) := by
  unfold m_S_findParent
  repeat' (with_reducible first | exact Pw.none | exact Pw.some (by assumption) | refine Pw.ite (fun _ => ?_) (fun _ => ?_) | refine Pw.wrFCq (by first | exact FCq.up (by assumption) (by omega) | exact FCq.fill (by assumption) (by omega)) (fun _ _ => ?_) | refine fc_l_S_findParent_4 (fun _ _ _ => ?_) _ _ _ _ _ (by assumption) | exact fc_j_S_findParent_59 (by assumption))
theorem fc_j_S_findFrontier_68 {X M : Sto} {g : Int32 → Int32 → Int32 → Sto → Option (Int32 × Sto)} {k : Int32 → Sto → Option (Int32 × Sto)} {v1 v2 v3 : Int32} (hg : ∀ y0 y1 y2 M, FCq X M → Pw (fun a => FCq X a.2) (g y0 y1 y2 M)) (hk : ∀ y0 M, FCq X M → Pw (fun a => FCq X a.2) (k y0 M)) (h : FCq X M) : Pw (fun a => FCq X a.2) (j_S_findFrontier_68 g k v1 v2 v3 M) := by
  unfold j_S_findFrontier_68
  repeat' (with_reducible first | exact Pw.none | exact Pw.some (by assumption) | refine Pw.ite (fun _ => ?_) (fun _ => ?_) | refine Pw.wrFCq (by first | exact FCq.up (by assumption) (by omega) | exact FCq.fill (by assumption) (by omega)) (fun _ _ => ?_) | exact hg _ _ _ _ (by assumption) | exact hk _ _ (by assumption))
theorem fc_j_S_findFrontier_38 {X M : Sto} {g : Int32 → Int32 → Int32 → Sto → Option (Int32 × Sto)} {k : Int32 → Sto → Option (Int32 × Sto)} {s0 v1 v2 v3 : Int32} (hg : ∀ y0 y1 y2 M, FCq X M → Pw (fun a => FCq X a.2) (g y0 y1 y2 M)) (hk : ∀ y0 M, FCq X M → Pw (fun a => FCq X a.2) (k y0 M)) (h : FCq X M) : Pw (fun a => FCq X a.2) (j_S_findFrontier_38 g k s0 v1 v2 v3 M) := by
  unfold j_S_findFrontier_38
  repeat' (with_reducible first | exact Pw.none | exact Pw.some (by assumption) | refine Pw.ite (fun _ => ?_) (fun _ => ?_) | refine Pw.wrFCq (by first | exact FCq.up (by assumption) (by omega) | exact FCq.fill (by assumption) (by omega)) (fun _ _ => ?_) | exact fc_j_S_findFrontier_68 (by assumption) (by assumption) (by assumption) | refine Pw.bind (fc_m_N_bit (by assumption)) (fun _ _ => ?_) | exact fc_m_N_bit (by assumption) | exact hg _ _ _ _ (by assumption) | exact hk _ _ (by assumption))
theorem fc_j_S_findFrontier_33 {X M : Sto} {g : Int32 → Int32 → Int32 → Sto → Option (Int32 × Sto)} {k : Int32 → Sto → Option (Int32 × Sto)} {v1 v2 v3 : Int32} (hg : ∀ y0 y1 y2 M, FCq X M → Pw (fun a => FCq X a.2) (g y0 y1 y2 M)) (hk : ∀ y0 M, FCq X M → Pw (fun a => FCq X a.2) (k y0 M)) (h : FCq X M) : Pw (fun a => FCq X a.2) (j_S_findFrontier_33 g k v1 v2 v3 M) := by
  unfold j_S_findFrontier_33
  repeat' (with_reducible first | exact Pw.none | exact Pw.some (by assumption) | refine Pw.ite (fun _ => ?_) (fun _ => ?_) | refine Pw.wrFCq (by first | exact FCq.up (by assumption) (by omega) | exact FCq.fill (by assumption) (by omega)) (fun _ _ => ?_) | exact fc_j_S_findFrontier_38 (by assumption) (by assumption) (by assumption) | exact hg _ _ _ _ (by assumption) | exact hk _ _ (by assumption))
theorem fc_l_S_findFrontier_4 {X : Sto} {k : Int32 → Sto → Option (Int32 × Sto)} (hk : ∀ y0 M, FCq X M → Pw (fun a => FCq X a.2) (k y0 M)) : ∀ n y0 y1 y2 M, FCq X M → Pw (fun a => FCq X a.2) (l_S_findFrontier_4 k n y0 y1 y2 M) := by
  intro n
  induction n with
  | zero => intro y0 y1 y2 M _; exact Pw.none
  | succ n ih =>
    intro y0 y1 y2 M h
    unfold l_S_findFrontier_4
    repeat' (with_reducible first | exact Pw.none | exact Pw.some (by assumption) | refine Pw.ite (fun _ => ?_) (fun _ => ?_) | refine Pw.wrFCq (by first | exact FCq.up (by assumption) (by omega) | exact FCq.fill (by assumption) (by omega)) (fun _ _ => ?_) | exact fc_j_S_findFrontier_33 (by assumption) (by assumption) (by assumption) | refine Pw.bind (fc_m_N_holds (by assumption)) (fun _ _ => ?_) | exact fc_m_N_holds (by assumption) | exact fc_j_S_findFrontier_38 (by assumption) (by assumption) (by assumption) | exact ih _ _ _ _ (by assumption) | exact hk _ _ (by assumption))
theorem fc_j_S_findFrontier_74 {X M : Sto} {v2 : Int32} (h : FCq X M) : Pw (fun a => FCq X a.2) (j_S_findFrontier_74 v2 M) := by
  unfold j_S_findFrontier_74
  repeat' (with_reducible first | exact Pw.none | exact Pw.some (by assumption) | refine Pw.ite (fun _ => ?_) (fun _ => ?_) | refine Pw.wrFCq (by first | exact FCq.up (by assumption) (by omega) | exact FCq.fill (by assumption) (by omega)) (fun _ _ => ?_))
theorem fc_m_S_findFrontier {X M : Sto} {x1 : Int32} (h : FCq X M) : Pw (fun a => FCq X a.2) (m_S_findFrontier x1 M) := by
  unfold m_S_findFrontier
  repeat' (with_reducible first | exact Pw.none | exact Pw.some (by assumption) | refine Pw.ite (fun _ => ?_) (fun _ => ?_) | refine Pw.wrFCq (by first | exact FCq.up (by assumption) (by omega) | exact FCq.fill (by assumption) (by omega)) (fun _ _ => ?_) | refine fc_l_S_findFrontier_4 (fun _ _ _ => ?_) _ _ _ _ _ (by assumption) | exact fc_j_S_findFrontier_74 (by assumption))
theorem fc_l_S_survey_77 {X : Sto} {k : Sto → Option (Int32 × Sto)} (hk : ∀  M, FCq X M → Pw (fun a => FCq X a.2) (k  M)) : ∀ n y0 M, FCq X M → Pw (fun a => FCq X a.2) (l_S_survey_77 k n y0 M) := by
  intro n
  induction n with
  | zero => intro y0 M _; exact Pw.none
  | succ n ih =>
    intro y0 M h
    unfold l_S_survey_77
    repeat' (with_reducible first | exact Pw.none | exact Pw.some (by assumption) | refine Pw.ite (fun _ => ?_) (fun _ => ?_) | refine Pw.wrFCq (by first | exact FCq.up (by assumption) (by omega) | exact FCq.fill (by assumption) (by omega)) (fun _ _ => ?_) | refine Pw.bind (fc_m_S_findParent (by assumption)) (fun _ _ => ?_) | exact fc_m_S_findParent (by assumption) | refine Pw.bind (fc_m_S_findFrontier (by assumption)) (fun _ _ => ?_) | exact fc_m_S_findFrontier (by assumption) | exact ih _ _ (by assumption) | exact hk _ (by assumption))
theorem fc_j_S_putInOrder_99 {X M : Sto} {g : Int32 → Int32 → Int32 → Int32 → Sto → Option (Int32 × Sto)} {k : Int32 → Int32 → Sto → Option (Int32 × Sto)} {v1 v2 v3 v4 : Int32} (hg : ∀ y0 y1 y2 y3 M, FCq X M → Pw (fun a => FCq X a.2) (g y0 y1 y2 y3 M)) (hk : ∀ y0 y1 M, FCq X M → Pw (fun a => FCq X a.2) (k y0 y1 M)) (h : FCq X M) : Pw (fun a => FCq X a.2) (j_S_putInOrder_99 g k v1 v2 v3 v4 M) := by
  unfold j_S_putInOrder_99
  repeat' (with_reducible first | exact Pw.none | exact Pw.some (by assumption) | refine Pw.ite (fun _ => ?_) (fun _ => ?_) | refine Pw.wrFCq (by first | exact FCq.up (by assumption) (by omega) | exact FCq.fill (by assumption) (by omega)) (fun _ _ => ?_) | exact hg _ _ _ _ _ (by assumption) | exact hk _ _ _ (by assumption))
theorem fc_l_S_putInOrder_72 {X : Sto} {k : Int32 → Int32 → Sto → Option (Int32 × Sto)} (hk : ∀ y0 y1 M, FCq X M → Pw (fun a => FCq X a.2) (k y0 y1 M)) : ∀ n y0 y1 y2 y3 M, FCq X M → Pw (fun a => FCq X a.2) (l_S_putInOrder_72 k n y0 y1 y2 y3 M) := by
  intro n
  induction n with
  | zero => intro y0 y1 y2 y3 M _; exact Pw.none
  | succ n ih =>
    intro y0 y1 y2 y3 M h
    unfold l_S_putInOrder_72
    repeat' (with_reducible first | exact Pw.none | exact Pw.some (by assumption) | refine Pw.ite (fun _ => ?_) (fun _ => ?_) | refine Pw.wrFCq (by first | exact FCq.up (by assumption) (by omega) | exact FCq.fill (by assumption) (by omega)) (fun _ _ => ?_) | exact fc_j_S_putInOrder_99 (by assumption) (by assumption) (by assumption) | exact ih _ _ _ _ _ (by assumption) | exact hk _ _ _ (by assumption))
theorem fc_j_S_putInOrder_105 {X M : Sto} {g : Int32 → Int32 → Sto → Option (Int32 × Sto)} {k : Sto → Option (Int32 × Sto)} {v1 v2 : Int32} (hg : ∀ y0 y1 M, FCq X M → Pw (fun a => FCq X a.2) (g y0 y1 M)) (hk : ∀  M, FCq X M → Pw (fun a => FCq X a.2) (k  M)) (h : FCq X M) : Pw (fun a => FCq X a.2) (j_S_putInOrder_105 g k v1 v2 M) := by
  unfold j_S_putInOrder_105
  repeat' (with_reducible first | exact Pw.none | exact Pw.some (by assumption) | refine Pw.ite (fun _ => ?_) (fun _ => ?_) | refine Pw.wrFCq (by first | exact FCq.up (by assumption) (by omega) | exact FCq.fill (by assumption) (by omega)) (fun _ _ => ?_) | exact hg _ _ _ (by assumption) | exact hk _ (by assumption))
theorem fc_l_S_putInOrder_16 {X : Sto} {k : Sto → Option (Int32 × Sto)} (hk : ∀  M, FCq X M → Pw (fun a => FCq X a.2) (k  M)) : ∀ n y0 y1 M, FCq X M → Pw (fun a => FCq X a.2) (l_S_putInOrder_16 k n y0 y1 M) := by
  intro n
  induction n with
  | zero => intro y0 y1 M _; exact Pw.none
  | succ n ih =>
    intro y0 y1 M h
    unfold l_S_putInOrder_16
    repeat' (with_reducible first | exact Pw.none | exact Pw.some (by assumption) | refine Pw.ite (fun _ => ?_) (fun _ => ?_) | refine Pw.wrFCq (by first | exact FCq.up (by assumption) (by omega) | exact FCq.fill (by assumption) (by omega)) (fun _ _ => ?_) | refine fc_l_S_putInOrder_72 (fun _ _ _ _ => ?_) _ _ _ _ _ _ (by assumption) | exact fc_j_S_putInOrder_105 (by assumption) (by assumption) (by assumption) | exact ih _ _ _ (by assumption) | exact hk _ (by assumption))
theorem fc_j_S_putInOrder_111 {X M : Sto} (h : FCq X M) : Pw (fun a => FCq X a.2) (j_S_putInOrder_111  M) := by
  unfold j_S_putInOrder_111
  repeat' (with_reducible first | exact Pw.none | exact Pw.some (by assumption) | refine Pw.ite (fun _ => ?_) (fun _ => ?_) | refine Pw.wrFCq (by first | exact FCq.up (by assumption) (by omega) | exact FCq.fill (by assumption) (by omega)) (fun _ _ => ?_))
theorem fc_m_S_putInOrder {X M : Sto} (h : FCq X M) : Pw (fun a => FCq X a.2) (m_S_putInOrder  M) := by
  unfold m_S_putInOrder
  repeat' (with_reducible first | exact Pw.none | exact Pw.some (by assumption) | refine Pw.ite (fun _ => ?_) (fun _ => ?_) | refine Pw.wrFCq (by first | exact FCq.up (by assumption) (by omega) | exact FCq.fill (by assumption) (by omega)) (fun _ _ => ?_) | refine fc_l_S_putInOrder_16 (fun _ _ => ?_) _ _ _ _ (by assumption) | exact fc_j_S_putInOrder_111 (by assumption))
theorem fc_j_S_survey_116 {X M : Sto} (h : FCq X M) : Pw (fun a => FCq X a.2) (j_S_survey_116  M) := by
  unfold j_S_survey_116
  repeat' (with_reducible first | exact Pw.none | exact Pw.some (by assumption) | refine Pw.ite (fun _ => ?_) (fun _ => ?_) | refine Pw.wrFCq (by first | exact FCq.up (by assumption) (by omega) | exact FCq.fill (by assumption) (by omega)) (fun _ _ => ?_) | refine Pw.bind (fc_m_S_putInOrder (by assumption)) (fun _ _ => ?_) | exact fc_m_S_putInOrder (by assumption))
theorem fc_j_S_survey_75 {X M : Sto} (h : FCq X M) : Pw (fun a => FCq X a.2) (j_S_survey_75  M) := by
  unfold j_S_survey_75
  repeat' (with_reducible first | exact Pw.none | exact Pw.some (by assumption) | refine Pw.ite (fun _ => ?_) (fun _ => ?_) | refine Pw.wrFCq (by first | exact FCq.up (by assumption) (by omega) | exact FCq.fill (by assumption) (by omega)) (fun _ _ => ?_) | refine fc_l_S_survey_77 (fun _ _ => ?_) _ _ _ (by assumption) | exact fc_j_S_survey_116 (by assumption))
theorem fc_m_S_survey {X M : Sto} (h : FCq X M) : Pw (fun a => FCq X a.2) (m_S_survey  M) := by
  unfold m_S_survey
  repeat' (with_reducible first | exact Pw.none | exact Pw.some (by assumption) | refine Pw.ite (fun _ => ?_) (fun _ => ?_) | refine Pw.wrFCq (by first | exact FCq.up (by assumption) (by omega) | exact FCq.fill (by assumption) (by omega)) (fun _ _ => ?_) | refine Pw.bind (fc_m_S_comeBy (by assumption)) (fun _ _ => ?_) | exact fc_m_S_comeBy (by assumption) | refine fc_l_S_survey_11 (fun _ _ => ?_) _ _ _ (by assumption) | exact fc_j_S_survey_75 (by assumption))
theorem fc_j_N_setsVariable_11 {X M : Sto} {s0 : Int32} (h : FCq X M) : Pw (fun a => FCq X a.2) (j_N_setsVariable_11 s0 M) := by
  unfold j_N_setsVariable_11
  repeat' (with_reducible first | exact Pw.none | exact Pw.some (by assumption) | refine Pw.ite (fun _ => ?_) (fun _ => ?_) | refine Pw.wrFCq (by first | exact FCq.up (by assumption) (by omega) | exact FCq.fill (by assumption) (by omega)) (fun _ _ => ?_))
theorem fc_m_N_setsVariable {X M : Sto} {x0 : Int32} (h : FCq X M) : Pw (fun a => FCq X a.2) (m_N_setsVariable x0 M) := by
  unfold m_N_setsVariable
  repeat' (with_reducible first | exact Pw.none | exact Pw.some (by assumption) | refine Pw.ite (fun _ => ?_) (fun _ => ?_) | refine Pw.wrFCq (by first | exact FCq.up (by assumption) (by omega) | exact FCq.fill (by assumption) (by omega)) (fun _ _ => ?_) | exact fc_j_N_setsVariable_11 (by assumption))
theorem fc_j_G_findDefined_75 {X M : Sto} {g : Int32 → Int32 → Sto → Option (Int32 × Sto)} {k : Int32 → Sto → Option (Int32 × Sto)} {v1 v2 : Int32} (hg : ∀ y0 y1 M, FCq X M → Pw (fun a => FCq X a.2) (g y0 y1 M)) (hk : ∀ y0 M, FCq X M → Pw (fun a => FCq X a.2) (k y0 M)) (h : FCq X M) : Pw (fun a => FCq X a.2) (j_G_findDefined_75 g k v1 v2 M) := by
  unfold j_G_findDefined_75
  repeat' (with_reducible first | exact Pw.none | exact Pw.some (by assumption) | refine Pw.ite (fun _ => ?_) (fun _ => ?_) | refine Pw.wrFCq (by first | exact FCq.up (by assumption) (by omega) | exact FCq.fill (by assumption) (by omega)) (fun _ _ => ?_) | exact hg _ _ _ (by assumption) | exact hk _ _ (by assumption))
theorem fc_l_G_findDefined_22 {X : Sto} {k : Int32 → Sto → Option (Int32 × Sto)} (hk : ∀ y0 M, FCq X M → Pw (fun a => FCq X a.2) (k y0 M)) : ∀ n y0 y1 M, FCq X M → Pw (fun a => FCq X a.2) (l_G_findDefined_22 k n y0 y1 M) := by
  intro n
  induction n with
  | zero => intro y0 y1 M _; exact Pw.none
  | succ n ih =>
    intro y0 y1 M h
    unfold l_G_findDefined_22
    repeat' (with_reducible first | exact Pw.none | exact Pw.some (by assumption) | refine Pw.ite (fun _ => ?_) (fun _ => ?_) | refine Pw.wrFCq (by first | exact FCq.up (by assumption) (by omega) | exact FCq.fill (by assumption) (by omega)) (fun _ _ => ?_) | refine Pw.bind (fc_m_N_setsVariable (by assumption)) (fun _ _ => ?_) | exact fc_m_N_setsVariable (by assumption) | exact fc_j_G_findDefined_75 (by assumption) (by assumption) (by assumption) | refine Pw.bind (fc_m_N_bit (by assumption)) (fun _ _ => ?_) | exact fc_m_N_bit (by assumption) | exact ih _ _ _ (by assumption) | exact hk _ _ (by assumption))
theorem fc_j_G_findDefined_81 {X M : Sto} {g : Int32 → Sto → Option (Int32 × Sto)} {k : Sto → Option (Int32 × Sto)} {v1 : Int32} (hg : ∀ y0 M, FCq X M → Pw (fun a => FCq X a.2) (g y0 M)) (hk : ∀  M, FCq X M → Pw (fun a => FCq X a.2) (k  M)) (h : FCq X M) : Pw (fun a => FCq X a.2) (j_G_findDefined_81 g k v1 M) := by
  unfold j_G_findDefined_81
  repeat' (with_reducible first | exact Pw.none | exact Pw.some (by assumption) | refine Pw.ite (fun _ => ?_) (fun _ => ?_) | refine Pw.wrFCq (by first | exact FCq.up (by assumption) (by omega) | exact FCq.fill (by assumption) (by omega)) (fun _ _ => ?_) | exact hg _ _ (by assumption) | exact hk _ (by assumption))
theorem fc_l_G_findDefined_2 {X : Sto} {k : Sto → Option (Int32 × Sto)} (hk : ∀  M, FCq X M → Pw (fun a => FCq X a.2) (k  M)) : ∀ n y0 M, FCq X M → Pw (fun a => FCq X a.2) (l_G_findDefined_2 k n y0 M) := by
  intro n
  induction n with
  | zero => intro y0 M _; exact Pw.none
  | succ n ih =>
    intro y0 M h
    unfold l_G_findDefined_2
    repeat' (with_reducible first | exact Pw.none | exact Pw.some (by assumption) | refine Pw.ite (fun _ => ?_) (fun _ => ?_) | refine Pw.wrFCq (by first | exact FCq.up (by assumption) (by omega) | exact FCq.fill (by assumption) (by omega)) (fun _ _ => ?_) | refine fc_l_G_findDefined_22 (fun _ _ _ => ?_) _ _ _ _ (by assumption) | exact fc_j_G_findDefined_81 (by assumption) (by assumption) (by assumption) | exact ih _ _ (by assumption) | exact hk _ (by assumption))
theorem fc_j_G_findDefined_87 {X M : Sto} (h : FCq X M) : Pw (fun a => FCq X a.2) (j_G_findDefined_87  M) := by
  unfold j_G_findDefined_87
  repeat' (with_reducible first | exact Pw.none | exact Pw.some (by assumption) | refine Pw.ite (fun _ => ?_) (fun _ => ?_) | refine Pw.wrFCq (by first | exact FCq.up (by assumption) (by omega) | exact FCq.fill (by assumption) (by omega)) (fun _ _ => ?_))
theorem fc_m_G_findDefined {X M : Sto} (h : FCq X M) : Pw (fun a => FCq X a.2) (m_G_findDefined  M) := by
  unfold m_G_findDefined
  repeat' (with_reducible first | exact Pw.none | exact Pw.some (by assumption) | refine Pw.ite (fun _ => ?_) (fun _ => ?_) | refine Pw.wrFCq (by first | exact FCq.up (by assumption) (by omega) | exact FCq.fill (by assumption) (by omega)) (fun _ _ => ?_) | refine fc_l_G_findDefined_2 (fun _ _ => ?_) _ _ _ (by assumption) | exact fc_j_G_findDefined_87 (by assumption))
theorem fc_j_G_spread_53 {X M : Sto} {g : Int32 → Int32 → Int32 → Int32 → Sto → Option (Int32 × Sto)} {k : Int32 → Sto → Option (Int32 × Sto)} {v1 v2 v3 v4 : Int32} (hg : ∀ y0 y1 y2 y3 M, FCq X M → Pw (fun a => FCq X a.2) (g y0 y1 y2 y3 M)) (hk : ∀ y0 M, FCq X M → Pw (fun a => FCq X a.2) (k y0 M)) (h : FCq X M) : Pw (fun a => FCq X a.2) (j_G_spread_53 g k v1 v2 v3 v4 M) := by
  unfold j_G_spread_53
  repeat' (with_reducible first | exact Pw.none | exact Pw.some (by assumption) | refine Pw.ite (fun _ => ?_) (fun _ => ?_) | refine Pw.wrFCq (by first | exact FCq.up (by assumption) (by omega) | exact FCq.fill (by assumption) (by omega)) (fun _ _ => ?_) | exact hg _ _ _ _ _ (by assumption) | exact hk _ _ (by assumption))
theorem fc_l_G_spread_5 {X : Sto} {k : Int32 → Sto → Option (Int32 × Sto)} (hk : ∀ y0 M, FCq X M → Pw (fun a => FCq X a.2) (k y0 M)) : ∀ n y0 y1 y2 y3 M, FCq X M → Pw (fun a => FCq X a.2) (l_G_spread_5 k n y0 y1 y2 y3 M) := by
  intro n
  induction n with
  | zero => intro y0 y1 y2 y3 M _; exact Pw.none
  | succ n ih =>
    intro y0 y1 y2 y3 M h
    unfold l_G_spread_5
    repeat' (with_reducible first | exact Pw.none | exact Pw.some (by assumption) | refine Pw.ite (fun _ => ?_) (fun _ => ?_) | refine Pw.wrFCq (by first | exact FCq.up (by assumption) (by omega) | exact FCq.fill (by assumption) (by omega)) (fun _ _ => ?_) | refine Pw.bind (fc_m_N_holds (by assumption)) (fun _ _ => ?_) | exact fc_m_N_holds (by assumption) | exact fc_j_G_spread_53 (by assumption) (by assumption) (by assumption) | exact ih _ _ _ _ _ (by assumption) | exact hk _ _ (by assumption))
theorem fc_j_G_spread_59 {X M : Sto} {v3 : Int32} (h : FCq X M) : Pw (fun a => FCq X a.2) (j_G_spread_59 v3 M) := by
  unfold j_G_spread_59
  repeat' (with_reducible first | exact Pw.none | exact Pw.some (by assumption) | refine Pw.ite (fun _ => ?_) (fun _ => ?_) | refine Pw.wrFCq (by first | exact FCq.up (by assumption) (by omega) | exact FCq.fill (by assumption) (by omega)) (fun _ _ => ?_))
theorem fc_m_G_spread {X M : Sto} {x1 x2 : Int32} (h : FCq X M) : Pw (fun a => FCq X a.2) (m_G_spread x1 x2 M) := by
  unfold m_G_spread
  repeat' (with_reducible first | exact Pw.none | exact Pw.some (by assumption) | refine Pw.ite (fun _ => ?_) (fun _ => ?_) | refine Pw.wrFCq (by first | exact FCq.up (by assumption) (by omega) | exact FCq.fill (by assumption) (by omega)) (fun _ _ => ?_) | refine fc_l_G_spread_5 (fun _ _ _ => ?_) _ _ _ _ _ _ (by assumption) | exact fc_j_G_spread_59 (by assumption))
theorem fc_j_G_placePhis_69 {X M : Sto} {g : Int32 → Int32 → Int32 → Sto → Option (Int32 × Sto)} {k : Int32 → Int32 → Sto → Option (Int32 × Sto)} {v1 v2 v3 : Int32} (hg : ∀ y0 y1 y2 M, FCq X M → Pw (fun a => FCq X a.2) (g y0 y1 y2 M)) (hk : ∀ y0 y1 M, FCq X M → Pw (fun a => FCq X a.2) (k y0 y1 M)) (h : FCq X M) : Pw (fun a => FCq X a.2) (j_G_placePhis_69 g k v1 v2 v3 M) := by
  unfold j_G_placePhis_69
  repeat' (with_reducible first | exact Pw.none | exact Pw.some (by assumption) | refine Pw.ite (fun _ => ?_) (fun _ => ?_) | refine Pw.wrFCq (by first | exact FCq.up (by assumption) (by omega) | exact FCq.fill (by assumption) (by omega)) (fun _ _ => ?_) | exact hg _ _ _ _ (by assumption) | exact hk _ _ _ (by assumption))
theorem fc_l_G_placePhis_27 {X : Sto} {k : Int32 → Int32 → Sto → Option (Int32 × Sto)} (hk : ∀ y0 y1 M, FCq X M → Pw (fun a => FCq X a.2) (k y0 y1 M)) : ∀ n y0 y1 y2 M, FCq X M → Pw (fun a => FCq X a.2) (l_G_placePhis_27 k n y0 y1 y2 M) := by
  intro n
  induction n with
  | zero => intro y0 y1 y2 M _; exact Pw.none
  | succ n ih =>
    intro y0 y1 y2 M h
    unfold l_G_placePhis_27
    repeat' (with_reducible first | exact Pw.none | exact Pw.some (by assumption) | refine Pw.ite (fun _ => ?_) (fun _ => ?_) | refine Pw.wrFCq (by first | exact FCq.up (by assumption) (by omega) | exact FCq.fill (by assumption) (by omega)) (fun _ _ => ?_) | refine Pw.bind (fc_m_G_spread (by assumption)) (fun _ _ => ?_) | exact fc_m_G_spread (by assumption) | exact fc_j_G_placePhis_69 (by assumption) (by assumption) (by assumption) | exact ih _ _ _ _ (by assumption) | exact hk _ _ _ (by assumption))
theorem fc_j_G_placePhis_75 {X M : Sto} {g : Int32 → Int32 → Sto → Option (Int32 × Sto)} {k : Sto → Option (Int32 × Sto)} {v1 v2 : Int32} (hg : ∀ y0 y1 M, FCq X M → Pw (fun a => FCq X a.2) (g y0 y1 M)) (hk : ∀  M, FCq X M → Pw (fun a => FCq X a.2) (k  M)) (h : FCq X M) : Pw (fun a => FCq X a.2) (j_G_placePhis_75 g k v1 v2 M) := by
  unfold j_G_placePhis_75
  repeat' (with_reducible first | exact Pw.none | exact Pw.some (by assumption) | refine Pw.ite (fun _ => ?_) (fun _ => ?_) | refine Pw.wrFCq (by first | exact FCq.up (by assumption) (by omega) | exact FCq.fill (by assumption) (by omega)) (fun _ _ => ?_) | exact hg _ _ _ (by assumption) | exact hk _ (by assumption))
theorem fc_l_G_placePhis_12 {X : Sto} {k : Sto → Option (Int32 × Sto)} (hk : ∀  M, FCq X M → Pw (fun a => FCq X a.2) (k  M)) : ∀ n y0 y1 M, FCq X M → Pw (fun a => FCq X a.2) (l_G_placePhis_12 k n y0 y1 M) := by
  intro n
  induction n with
  | zero => intro y0 y1 M _; exact Pw.none
  | succ n ih =>
    intro y0 y1 M h
    unfold l_G_placePhis_12
    repeat' (with_reducible first | exact Pw.none | exact Pw.some (by assumption) | refine Pw.ite (fun _ => ?_) (fun _ => ?_) | refine Pw.wrFCq (by first | exact FCq.up (by assumption) (by omega) | exact FCq.fill (by assumption) (by omega)) (fun _ _ => ?_) | refine fc_l_G_placePhis_27 (fun _ _ _ _ => ?_) _ _ _ _ _ (by assumption) | exact fc_j_G_placePhis_75 (by assumption) (by assumption) (by assumption) | exact ih _ _ _ (by assumption) | exact hk _ (by assumption))
theorem fc_j_G_placePhis_81 {X M : Sto} (h : FCq X M) : Pw (fun a => FCq X a.2) (j_G_placePhis_81  M) := by
  unfold j_G_placePhis_81
  repeat' (with_reducible first | exact Pw.none | exact Pw.some (by assumption) | refine Pw.ite (fun _ => ?_) (fun _ => ?_) | refine Pw.wrFCq (by first | exact FCq.up (by assumption) (by omega) | exact FCq.fill (by assumption) (by omega)) (fun _ _ => ?_))
theorem fc_m_G_placePhis {X M : Sto} (h : FCq X M) : Pw (fun a => FCq X a.2) (m_G_placePhis  M) := by
  unfold m_G_placePhis
  repeat' (with_reducible first | exact Pw.none | exact Pw.some (by assumption) | refine Pw.ite (fun _ => ?_) (fun _ => ?_) | refine Pw.wrFCq (by first | exact FCq.up (by assumption) (by omega) | exact FCq.fill (by assumption) (by omega)) (fun _ _ => ?_) | refine fc_l_G_placePhis_12 (fun _ _ => ?_) _ _ _ _ (by assumption) | exact fc_j_G_placePhis_81 (by assumption))
theorem fc_m_G_newName {X M : Sto} {x1 x2 x3 : Int32} (h : FCq X M) : Pw (fun a => FCq X a.2) (m_G_newName x1 x2 x3 M) := by
  unfold m_G_newName
  repeat' (with_reducible first | exact Pw.none | exact Pw.some (by assumption) | refine Pw.ite (fun _ => ?_) (fun _ => ?_) | refine Pw.wrFCq (by first | exact FCq.up (by assumption) (by omega) | exact FCq.fill (by assumption) (by omega)) (fun _ _ => ?_))
theorem fc_l_G_nameAll_23 {X : Sto} {k : Sto → Option (Int32 × Sto)} (hk : ∀  M, FCq X M → Pw (fun a => FCq X a.2) (k  M)) : ∀ n y0 M, FCq X M → Pw (fun a => FCq X a.2) (l_G_nameAll_23 k n y0 M) := by
  intro n
  induction n with
  | zero => intro y0 M _; exact Pw.none
  | succ n ih =>
    intro y0 M h
    unfold l_G_nameAll_23
    repeat' (with_reducible first | exact Pw.none | exact Pw.some (by assumption) | refine Pw.ite (fun _ => ?_) (fun _ => ?_) | refine Pw.wrFCq (by first | exact FCq.up (by assumption) (by omega) | exact FCq.fill (by assumption) (by omega)) (fun _ _ => ?_) | refine Pw.bind (fc_m_G_newName (by assumption)) (fun _ _ => ?_) | exact fc_m_G_newName (by assumption) | exact ih _ _ (by assumption) | exact hk _ (by assumption))
theorem fc_j_G_nameBlock_49 {X M : Sto} {g : Int32 → Int32 → Int32 → Int32 → Sto → Option (Int32 × Sto)} {k : Int32 → Int32 → Sto → Option (Int32 × Sto)} {s0 s1 s2 v1 v2 v3 v4 : Int32} (hg : ∀ y0 y1 y2 y3 M, FCq X M → Pw (fun a => FCq X a.2) (g y0 y1 y2 y3 M)) (hk : ∀ y0 y1 M, FCq X M → Pw (fun a => FCq X a.2) (k y0 y1 M)) (h : FCq X M) : Pw (fun a => FCq X a.2) (j_G_nameBlock_49 g k s0 s1 s2 v1 v2 v3 v4 M) := by
  unfold j_G_nameBlock_49
  repeat' (with_reducible first | exact Pw.none | exact Pw.some (by assumption) | refine Pw.ite (fun _ => ?_) (fun _ => ?_) | refine Pw.wrFCq (by first | exact FCq.up (by assumption) (by omega) | exact FCq.fill (by assumption) (by omega)) (fun _ _ => ?_) | exact hg _ _ _ _ _ (by assumption) | exact hk _ _ _ (by assumption))
theorem fc_l_G_nameBlock_20 {X : Sto} {k : Int32 → Int32 → Sto → Option (Int32 × Sto)} (hk : ∀ y0 y1 M, FCq X M → Pw (fun a => FCq X a.2) (k y0 y1 M)) : ∀ n y0 y1 y2 y3 M, FCq X M → Pw (fun a => FCq X a.2) (l_G_nameBlock_20 k n y0 y1 y2 y3 M) := by
  intro n
  induction n with
  | zero => intro y0 y1 y2 y3 M _; exact Pw.none
  | succ n ih =>
    intro y0 y1 y2 y3 M h
    unfold l_G_nameBlock_20
    repeat' (with_reducible first | exact Pw.none | exact Pw.some (by assumption) | refine Pw.ite (fun _ => ?_) (fun _ => ?_) | refine Pw.wrFCq (by first | exact FCq.up (by assumption) (by omega) | exact FCq.fill (by assumption) (by omega)) (fun _ _ => ?_) | exact fc_j_G_nameBlock_49 (by assumption) (by assumption) (by assumption) | exact ih _ _ _ _ _ (by assumption) | exact hk _ _ _ (by assumption))
theorem fc_j_G_nameBlock_105 {X M : Sto} {g : Int32 → Int32 → Int32 → Sto → Option (Int32 × Sto)} {k : Int32 → Int32 → Sto → Option (Int32 × Sto)} {v1 v2 v4 : Int32} (hg : ∀ y0 y1 y2 M, FCq X M → Pw (fun a => FCq X a.2) (g y0 y1 y2 M)) (hk : ∀ y0 y1 M, FCq X M → Pw (fun a => FCq X a.2) (k y0 y1 M)) (h : FCq X M) : Pw (fun a => FCq X a.2) (j_G_nameBlock_105 g k v1 v2 v4 M) := by
  unfold j_G_nameBlock_105
  repeat' (with_reducible first | exact Pw.none | exact Pw.some (by assumption) | refine Pw.ite (fun _ => ?_) (fun _ => ?_) | refine Pw.wrFCq (by first | exact FCq.up (by assumption) (by omega) | exact FCq.fill (by assumption) (by omega)) (fun _ _ => ?_) | exact hg _ _ _ _ (by assumption) | exact hk _ _ _ (by assumption))
theorem fc_l_G_nameBlock_59 {X : Sto} {k : Int32 → Int32 → Sto → Option (Int32 × Sto)} (hk : ∀ y0 y1 M, FCq X M → Pw (fun a => FCq X a.2) (k y0 y1 M)) : ∀ n y0 y1 y2 M, FCq X M → Pw (fun a => FCq X a.2) (l_G_nameBlock_59 k n y0 y1 y2 M) := by
  intro n
  induction n with
  | zero => intro y0 y1 y2 M _; exact Pw.none
  | succ n ih =>
    intro y0 y1 y2 M h
    unfold l_G_nameBlock_59
    repeat' (with_reducible first | exact Pw.none | exact Pw.some (by assumption) | refine Pw.ite (fun _ => ?_) (fun _ => ?_) | refine Pw.wrFCq (by first | exact FCq.up (by assumption) (by omega) | exact FCq.fill (by assumption) (by omega)) (fun _ _ => ?_) | refine Pw.bind (fc_m_N_holds (by assumption)) (fun _ _ => ?_) | exact fc_m_N_holds (by assumption) | exact fc_j_G_nameBlock_105 (by assumption) (by assumption) (by assumption) | refine Pw.bind (fc_m_G_newName (by assumption)) (fun _ _ => ?_) | exact fc_m_G_newName (by assumption) | exact ih _ _ _ _ (by assumption) | exact hk _ _ _ (by assumption))
theorem fc_j_N_readsX_15 {X M : Sto} {s0 : Int32} (h : FCq X M) : Pw (fun a => FCq X a.2) (j_N_readsX_15 s0 M) := by
  unfold j_N_readsX_15
  repeat' (with_reducible first | exact Pw.none | exact Pw.some (by assumption) | refine Pw.ite (fun _ => ?_) (fun _ => ?_) | refine Pw.wrFCq (by first | exact FCq.up (by assumption) (by omega) | exact FCq.fill (by assumption) (by omega)) (fun _ _ => ?_))
theorem fc_j_N_readsX_14 {X M : Sto} (h : FCq X M) : Pw (fun a => FCq X a.2) (j_N_readsX_14  M) := by
  unfold j_N_readsX_14
  repeat' (with_reducible first | exact Pw.none | exact Pw.some (by assumption) | refine Pw.ite (fun _ => ?_) (fun _ => ?_) | refine Pw.wrFCq (by first | exact FCq.up (by assumption) (by omega) | exact FCq.fill (by assumption) (by omega)) (fun _ _ => ?_) | exact fc_j_N_readsX_15 (by assumption))
theorem fc_m_N_readsX {X M : Sto} {x0 : Int32} (h : FCq X M) : Pw (fun a => FCq X a.2) (m_N_readsX x0 M) := by
  unfold m_N_readsX
  repeat' (with_reducible first | exact Pw.none | exact Pw.some (by assumption) | refine Pw.ite (fun _ => ?_) (fun _ => ?_) | refine Pw.wrFCq (by first | exact FCq.up (by assumption) (by omega) | exact FCq.fill (by assumption) (by omega)) (fun _ _ => ?_) | exact fc_j_N_readsX_14 (by assumption) | exact fc_j_N_readsX_15 (by assumption))
theorem fc_j_N_readsY_15 {X M : Sto} {s0 : Int32} (h : FCq X M) : Pw (fun a => FCq X a.2) (j_N_readsY_15 s0 M) := by
  unfold j_N_readsY_15
  repeat' (with_reducible first | exact Pw.none | exact Pw.some (by assumption) | refine Pw.ite (fun _ => ?_) (fun _ => ?_) | refine Pw.wrFCq (by first | exact FCq.up (by assumption) (by omega) | exact FCq.fill (by assumption) (by omega)) (fun _ _ => ?_))
theorem fc_j_N_readsY_14 {X M : Sto} (h : FCq X M) : Pw (fun a => FCq X a.2) (j_N_readsY_14  M) := by
  unfold j_N_readsY_14
  repeat' (with_reducible first | exact Pw.none | exact Pw.some (by assumption) | refine Pw.ite (fun _ => ?_) (fun _ => ?_) | refine Pw.wrFCq (by first | exact FCq.up (by assumption) (by omega) | exact FCq.fill (by assumption) (by omega)) (fun _ _ => ?_) | exact fc_j_N_readsY_15 (by assumption))
theorem fc_m_N_readsY {X M : Sto} {x0 : Int32} (h : FCq X M) : Pw (fun a => FCq X a.2) (m_N_readsY x0 M) := by
  unfold m_N_readsY
  repeat' (with_reducible first | exact Pw.none | exact Pw.some (by assumption) | refine Pw.ite (fun _ => ?_) (fun _ => ?_) | refine Pw.wrFCq (by first | exact FCq.up (by assumption) (by omega) | exact FCq.fill (by assumption) (by omega)) (fun _ _ => ?_) | exact fc_j_N_readsY_14 (by assumption) | exact fc_j_N_readsY_15 (by assumption))
theorem fc_j_G_nameInstruction_133 {X M : Sto} (h : FCq X M) : Pw (fun a => FCq X a.2) (j_G_nameInstruction_133  M) := by
  unfold j_G_nameInstruction_133
  repeat' (with_reducible first | exact Pw.none | exact Pw.some (by assumption) | refine Pw.ite (fun _ => ?_) (fun _ => ?_) | refine Pw.wrFCq (by first | exact FCq.up (by assumption) (by omega) | exact FCq.fill (by assumption) (by omega)) (fun _ _ => ?_))
theorem fc_j_G_nameInstruction_78 {X M : Sto} {s0 s1 s2 v1 v2 v3 v4 : Int32} (h : FCq X M) : Pw (fun a => FCq X a.2) (j_G_nameInstruction_78 s0 s1 s2 v1 v2 v3 v4 M) := by
  unfold j_G_nameInstruction_78
  repeat' (with_reducible first | exact Pw.none | exact Pw.some (by assumption) | refine Pw.ite (fun _ => ?_) (fun _ => ?_) | refine Pw.wrFCq (by first | exact FCq.up (by assumption) (by omega) | exact FCq.fill (by assumption) (by omega)) (fun _ _ => ?_) | refine Pw.bind (fc_m_N_setsVariable (by assumption)) (fun _ _ => ?_) | exact fc_m_N_setsVariable (by assumption) | exact fc_j_G_nameInstruction_133 (by assumption) | refine Pw.bind (fc_m_G_newName (by assumption)) (fun _ _ => ?_) | exact fc_m_G_newName (by assumption))
theorem fc_j_G_nameInstruction_45 {X M : Sto} {s0 s1 s2 v1 v2 v3 v4 : Int32} (h : FCq X M) : Pw (fun a => FCq X a.2) (j_G_nameInstruction_45 s0 s1 s2 v1 v2 v3 v4 M) := by
  unfold j_G_nameInstruction_45
  repeat' (with_reducible first | exact Pw.none | exact Pw.some (by assumption) | refine Pw.ite (fun _ => ?_) (fun _ => ?_) | refine Pw.wrFCq (by first | exact FCq.up (by assumption) (by omega) | exact FCq.fill (by assumption) (by omega)) (fun _ _ => ?_) | refine Pw.bind (fc_m_N_readsY (by assumption)) (fun _ _ => ?_) | exact fc_m_N_readsY (by assumption) | exact fc_j_G_nameInstruction_78 (by assumption))
theorem fc_m_G_nameInstruction {X M : Sto} {x1 x2 x3 : Int32} (h : FCq X M) : Pw (fun a => FCq X a.2) (m_G_nameInstruction x1 x2 x3 M) := by
  unfold m_G_nameInstruction
  repeat' (with_reducible first | exact Pw.none | exact Pw.some (by assumption) | refine Pw.ite (fun _ => ?_) (fun _ => ?_) | refine Pw.wrFCq (by first | exact FCq.up (by assumption) (by omega) | exact FCq.fill (by assumption) (by omega)) (fun _ _ => ?_) | refine Pw.bind (fc_m_N_readsX (by assumption)) (fun _ _ => ?_) | exact fc_m_N_readsX (by assumption) | exact fc_j_G_nameInstruction_45 (by assumption))
theorem fc_l_G_nameBlock_114 {X : Sto} {k : Int32 → Int32 → Sto → Option (Int32 × Sto)} (hk : ∀ y0 y1 M, FCq X M → Pw (fun a => FCq X a.2) (k y0 y1 M)) : ∀ n y0 y1 y2 M, FCq X M → Pw (fun a => FCq X a.2) (l_G_nameBlock_114 k n y0 y1 y2 M) := by
  intro n
  induction n with
  | zero => intro y0 y1 y2 M _; exact Pw.none
  | succ n ih =>
    intro y0 y1 y2 M h
    unfold l_G_nameBlock_114
    repeat' (with_reducible first | exact Pw.none | exact Pw.some (by assumption) | refine Pw.ite (fun _ => ?_) (fun _ => ?_) | refine Pw.wrFCq (by first | exact FCq.up (by assumption) (by omega) | exact FCq.fill (by assumption) (by omega)) (fun _ _ => ?_) | refine Pw.bind (fc_m_G_nameInstruction (by assumption)) (fun _ _ => ?_) | exact fc_m_G_nameInstruction (by assumption) | exact ih _ _ _ _ (by assumption) | exact hk _ _ _ (by assumption))
theorem fc_j_G_nameBlock_172 {X M : Sto} (h : FCq X M) : Pw (fun a => FCq X a.2) (j_G_nameBlock_172  M) := by
  unfold j_G_nameBlock_172
  repeat' (with_reducible first | exact Pw.none | exact Pw.some (by assumption) | refine Pw.ite (fun _ => ?_) (fun _ => ?_) | refine Pw.wrFCq (by first | exact FCq.up (by assumption) (by omega) | exact FCq.fill (by assumption) (by omega)) (fun _ _ => ?_))
theorem fc_j_G_nameBlock_142 {X M : Sto} {v1 v2 : Int32} (h : FCq X M) : Pw (fun a => FCq X a.2) (j_G_nameBlock_142 v1 v2 M) := by
  unfold j_G_nameBlock_142
  repeat' (with_reducible first | exact Pw.none | exact Pw.some (by assumption) | refine Pw.ite (fun _ => ?_) (fun _ => ?_) | refine Pw.wrFCq (by first | exact FCq.up (by assumption) (by omega) | exact FCq.fill (by assumption) (by omega)) (fun _ _ => ?_) | exact fc_j_G_nameBlock_172 (by assumption))
theorem fc_j_G_nameBlock_111 {X M : Sto} {v1 v2 : Int32} (h : FCq X M) : Pw (fun a => FCq X a.2) (j_G_nameBlock_111 v1 v2 M) := by
  unfold j_G_nameBlock_111
  repeat' (with_reducible first | exact Pw.none | exact Pw.some (by assumption) | refine Pw.ite (fun _ => ?_) (fun _ => ?_) | refine Pw.wrFCq (by first | exact FCq.up (by assumption) (by omega) | exact FCq.fill (by assumption) (by omega)) (fun _ _ => ?_) | refine fc_l_G_nameBlock_114 (fun _ _ _ _ => ?_) _ _ _ _ _ (by assumption) | exact fc_j_G_nameBlock_142 (by assumption))
theorem fc_j_G_nameBlock_56 {X M : Sto} {v1 v2 : Int32} (h : FCq X M) : Pw (fun a => FCq X a.2) (j_G_nameBlock_56 v1 v2 M) := by
  unfold j_G_nameBlock_56
  repeat' (with_reducible first | exact Pw.none | exact Pw.some (by assumption) | refine Pw.ite (fun _ => ?_) (fun _ => ?_) | refine Pw.wrFCq (by first | exact FCq.up (by assumption) (by omega) | exact FCq.fill (by assumption) (by omega)) (fun _ _ => ?_) | refine fc_l_G_nameBlock_59 (fun _ _ _ _ => ?_) _ _ _ _ _ (by assumption) | exact fc_j_G_nameBlock_111 (by assumption))
theorem fc_m_G_nameBlock {X M : Sto} {x1 : Int32} (h : FCq X M) : Pw (fun a => FCq X a.2) (m_G_nameBlock x1 M) := by
  unfold m_G_nameBlock
  repeat' (with_reducible first | exact Pw.none | exact Pw.some (by assumption) | refine Pw.ite (fun _ => ?_) (fun _ => ?_) | refine Pw.wrFCq (by first | exact FCq.up (by assumption) (by omega) | exact FCq.fill (by assumption) (by omega)) (fun _ _ => ?_) | refine fc_l_G_nameBlock_20 (fun _ _ _ _ => ?_) _ _ _ _ _ _ (by assumption) | exact fc_j_G_nameBlock_56 (by assumption))
theorem fc_l_G_nameAll_45 {X : Sto} {k : Sto → Option (Int32 × Sto)} (hk : ∀  M, FCq X M → Pw (fun a => FCq X a.2) (k  M)) : ∀ n y0 M, FCq X M → Pw (fun a => FCq X a.2) (l_G_nameAll_45 k n y0 M) := by
  intro n
  induction n with
  | zero => intro y0 M _; exact Pw.none
  | succ n ih =>
    intro y0 M h
    unfold l_G_nameAll_45
    repeat' (with_reducible first | exact Pw.none | exact Pw.some (by assumption) | refine Pw.ite (fun _ => ?_) (fun _ => ?_) | refine Pw.wrFCq (by first | exact FCq.up (by assumption) (by omega) | exact FCq.fill (by assumption) (by omega)) (fun _ _ => ?_) | refine Pw.bind (fc_m_G_nameBlock (by assumption)) (fun _ _ => ?_) | exact fc_m_G_nameBlock (by assumption) | exact ih _ _ (by assumption) | exact hk _ (by assumption))
theorem fc_j_G_nameAll_75 {X M : Sto} (h : FCq X M) : Pw (fun a => FCq X a.2) (j_G_nameAll_75  M) := by
  unfold j_G_nameAll_75
  repeat' (with_reducible first | exact Pw.none | exact Pw.some (by assumption) | refine Pw.ite (fun _ => ?_) (fun _ => ?_) | refine Pw.wrFCq (by first | exact FCq.up (by assumption) (by omega) | exact FCq.fill (by assumption) (by omega)) (fun _ _ => ?_))
theorem fc_j_G_nameAll_43 {X M : Sto} (h : FCq X M) : Pw (fun a => FCq X a.2) (j_G_nameAll_43  M) := by
  unfold j_G_nameAll_43
  repeat' (with_reducible first | exact Pw.none | exact Pw.some (by assumption) | refine Pw.ite (fun _ => ?_) (fun _ => ?_) | refine Pw.wrFCq (by first | exact FCq.up (by assumption) (by omega) | exact FCq.fill (by assumption) (by omega)) (fun _ _ => ?_) | refine fc_l_G_nameAll_45 (fun _ _ => ?_) _ _ _ (by assumption) | exact fc_j_G_nameAll_75 (by assumption))
theorem fc_m_G_nameAll {X M : Sto} (h : FCq X M) : Pw (fun a => FCq X a.2) (m_G_nameAll  M) := by
  unfold m_G_nameAll
  repeat' (with_reducible first | exact Pw.none | exact Pw.some (by assumption) | refine Pw.ite (fun _ => ?_) (fun _ => ?_) | refine Pw.wrFCq (by first | exact FCq.up (by assumption) (by omega) | exact FCq.fill (by assumption) (by omega)) (fun _ _ => ?_) | refine Pw.bind (fc_m_G_findDefined (by assumption)) (fun _ _ => ?_) | exact fc_m_G_findDefined (by assumption) | refine Pw.bind (fc_m_G_placePhis (by assumption)) (fun _ _ => ?_) | exact fc_m_G_placePhis (by assumption) | refine fc_l_G_nameAll_23 (fun _ _ => ?_) _ _ _ (by assumption) | exact fc_j_G_nameAll_43 (by assumption))
theorem fc_l_K_settle_26 {X : Sto} {k : Sto → Option (Int32 × Sto)} (hk : ∀  M, FCq X M → Pw (fun a => FCq X a.2) (k  M)) : ∀ n y0 M, FCq X M → Pw (fun a => FCq X a.2) (l_K_settle_26 k n y0 M) := by
  intro n
  induction n with
  | zero => intro y0 M _; exact Pw.none
  | succ n ih =>
    intro y0 M h
    unfold l_K_settle_26
    repeat' (with_reducible first | exact Pw.none | exact Pw.some (by assumption) | refine Pw.ite (fun _ => ?_) (fun _ => ?_) | refine Pw.wrFCq (by first | exact FCq.up (by assumption) (by omega) | exact FCq.fill (by assumption) (by omega)) (fun _ _ => ?_) | exact ih _ _ (by assumption) | exact hk _ (by assumption))
theorem fc_j_K_settle_124 {X M : Sto} {g : Int32 → Int32 → Sto → Option (Int32 × Sto)} {k : Int32 → Sto → Option (Int32 × Sto)} {v1 v2 : Int32} (hg : ∀ y0 y1 M, FCq X M → Pw (fun a => FCq X a.2) (g y0 y1 M)) (hk : ∀ y0 M, FCq X M → Pw (fun a => FCq X a.2) (k y0 M)) (h : FCq X M) : Pw (fun a => FCq X a.2) (j_K_settle_124 g k v1 v2 M) := by
  unfold j_K_settle_124
  repeat' (with_reducible first | exact Pw.none | exact Pw.some (by assumption) | refine Pw.ite (fun _ => ?_) (fun _ => ?_) | refine Pw.wrFCq (by first | exact FCq.up (by assumption) (by omega) | exact FCq.fill (by assumption) (by omega)) (fun _ _ => ?_) | exact hg _ _ _ (by assumption) | exact hk _ _ (by assumption))
theorem fc_j_K_passBlock_30 {X M : Sto} {g : Int32 → Int32 → Sto → Option (Int32 × Sto)} {k : Int32 → Sto → Option (Int32 × Sto)} {v1 v2 : Int32} (hg : ∀ y0 y1 M, FCq X M → Pw (fun a => FCq X a.2) (g y0 y1 M)) (hk : ∀ y0 M, FCq X M → Pw (fun a => FCq X a.2) (k y0 M)) (h : FCq X M) : Pw (fun a => FCq X a.2) (j_K_passBlock_30 g k v1 v2 M) := by
  unfold j_K_passBlock_30
  repeat' (with_reducible first | exact Pw.none | exact Pw.some (by assumption) | refine Pw.ite (fun _ => ?_) (fun _ => ?_) | refine Pw.wrFCq (by first | exact FCq.up (by assumption) (by omega) | exact FCq.fill (by assumption) (by omega)) (fun _ _ => ?_) | exact hg _ _ _ (by assumption) | exact hk _ _ (by assumption))
theorem fc_m_K_isWayTaken {X M : Sto} {x1 x2 : Int32} (h : FCq X M) : Pw (fun a => FCq X a.2) (m_K_isWayTaken x1 x2 M) := by
  unfold m_K_isWayTaken
  repeat' (with_reducible first | exact Pw.none | exact Pw.some (by assumption) | refine Pw.ite (fun _ => ?_) (fun _ => ?_) | refine Pw.wrFCq (by first | exact FCq.up (by assumption) (by omega) | exact FCq.fill (by assumption) (by omega)) (fun _ _ => ?_) | refine Pw.bind (fc_m_N_holds (by assumption)) (fun _ _ => ?_) | exact fc_m_N_holds (by assumption))
theorem fc_j_K_passPhi_64 {X M : Sto} {g : Int32 → Int32 → Int32 → Sto → Option (Int32 × Sto)} {k : Sto → Option (Int32 × Sto)} {v1 v2 v3 : Int32} (hg : ∀ y0 y1 y2 M, FCq X M → Pw (fun a => FCq X a.2) (g y0 y1 y2 M)) (hk : ∀  M, FCq X M → Pw (fun a => FCq X a.2) (k  M)) (h : FCq X M) : Pw (fun a => FCq X a.2) (j_K_passPhi_64 g k v1 v2 v3 M) := by
  unfold j_K_passPhi_64
  repeat' (with_reducible first | exact Pw.none | exact Pw.some (by assumption) | refine Pw.ite (fun _ => ?_) (fun _ => ?_) | refine Pw.wrFCq (by first | exact FCq.up (by assumption) (by omega) | exact FCq.fill (by assumption) (by omega)) (fun _ _ => ?_) | exact hg _ _ _ _ (by assumption) | exact hk _ (by assumption))
theorem fc_j_K_raise_14 {X M : Sto} (h : FCq X M) : Pw (fun a => FCq X a.2) (j_K_raise_14  M) := by
  unfold j_K_raise_14
  repeat' (with_reducible first | exact Pw.none | exact Pw.some (by assumption) | refine Pw.ite (fun _ => ?_) (fun _ => ?_) | refine Pw.wrFCq (by first | exact FCq.up (by assumption) (by omega) | exact FCq.fill (by assumption) (by omega)) (fun _ _ => ?_))
theorem fc_j_K_raise_80 {X M : Sto} (h : FCq X M) : Pw (fun a => FCq X a.2) (j_K_raise_80  M) := by
  unfold j_K_raise_80
  repeat' (with_reducible first | exact Pw.none | exact Pw.some (by assumption) | refine Pw.ite (fun _ => ?_) (fun _ => ?_) | refine Pw.wrFCq (by first | exact FCq.up (by assumption) (by omega) | exact FCq.fill (by assumption) (by omega)) (fun _ _ => ?_))
theorem fc_j_K_raise_61 {X M : Sto} {v1 : Int32} (h : FCq X M) : Pw (fun a => FCq X a.2) (j_K_raise_61 v1 M) := by
  unfold j_K_raise_61
  repeat' (with_reducible first | exact Pw.none | exact Pw.some (by assumption) | refine Pw.ite (fun _ => ?_) (fun _ => ?_) | refine Pw.wrFCq (by first | exact FCq.up (by assumption) (by omega) | exact FCq.fill (by assumption) (by omega)) (fun _ _ => ?_) | exact fc_j_K_raise_80 (by assumption))
theorem fc_m_K_raise {X M : Sto} {x1 x2 x3 : Int32} (h : FCq X M) : Pw (fun a => FCq X a.2) (m_K_raise x1 x2 x3 M) := by
  unfold m_K_raise
  repeat' (with_reducible first | exact Pw.none | exact Pw.some (by assumption) | refine Pw.ite (fun _ => ?_) (fun _ => ?_) | refine Pw.wrFCq (by first | exact FCq.up (by assumption) (by omega) | exact FCq.fill (by assumption) (by omega)) (fun _ _ => ?_) | exact fc_j_K_raise_14 (by assumption) | exact fc_j_K_raise_80 (by assumption) | exact fc_j_K_raise_61 (by assumption))
theorem fc_l_K_passPhi_2 {X : Sto} {k : Sto → Option (Int32 × Sto)} (hk : ∀  M, FCq X M → Pw (fun a => FCq X a.2) (k  M)) : ∀ n y0 y1 y2 M, FCq X M → Pw (fun a => FCq X a.2) (l_K_passPhi_2 k n y0 y1 y2 M) := by
  intro n
  induction n with
  | zero => intro y0 y1 y2 M _; exact Pw.none
  | succ n ih =>
    intro y0 y1 y2 M h
    unfold l_K_passPhi_2
    repeat' (with_reducible first | exact Pw.none | exact Pw.some (by assumption) | refine Pw.ite (fun _ => ?_) (fun _ => ?_) | refine Pw.wrFCq (by first | exact FCq.up (by assumption) (by omega) | exact FCq.fill (by assumption) (by omega)) (fun _ _ => ?_) | refine Pw.bind (fc_m_K_isWayTaken (by assumption)) (fun _ _ => ?_) | exact fc_m_K_isWayTaken (by assumption) | exact fc_j_K_passPhi_64 (by assumption) (by assumption) (by assumption) | refine Pw.bind (fc_m_K_raise (by assumption)) (fun _ _ => ?_) | exact fc_m_K_raise (by assumption) | exact ih _ _ _ _ (by assumption) | exact hk _ (by assumption))
theorem fc_j_K_passPhi_70 {X M : Sto} (h : FCq X M) : Pw (fun a => FCq X a.2) (j_K_passPhi_70  M) := by
  unfold j_K_passPhi_70
  repeat' (with_reducible first | exact Pw.none | exact Pw.some (by assumption) | refine Pw.ite (fun _ => ?_) (fun _ => ?_) | refine Pw.wrFCq (by first | exact FCq.up (by assumption) (by omega) | exact FCq.fill (by assumption) (by omega)) (fun _ _ => ?_))
theorem fc_m_K_passPhi {X M : Sto} {x1 x2 : Int32} (h : FCq X M) : Pw (fun a => FCq X a.2) (m_K_passPhi x1 x2 M) := by
  unfold m_K_passPhi
  repeat' (with_reducible first | exact Pw.none | exact Pw.some (by assumption) | refine Pw.ite (fun _ => ?_) (fun _ => ?_) | refine Pw.wrFCq (by first | exact FCq.up (by assumption) (by omega) | exact FCq.fill (by assumption) (by omega)) (fun _ _ => ?_) | refine fc_l_K_passPhi_2 (fun _ _ => ?_) _ _ _ _ _ (by assumption) | exact fc_j_K_passPhi_70 (by assumption))
theorem fc_l_K_passBlock_2 {X : Sto} {k : Int32 → Sto → Option (Int32 × Sto)} (hk : ∀ y0 M, FCq X M → Pw (fun a => FCq X a.2) (k y0 M)) : ∀ n y0 y1 M, FCq X M → Pw (fun a => FCq X a.2) (l_K_passBlock_2 k n y0 y1 M) := by
  intro n
  induction n with
  | zero => intro y0 y1 M _; exact Pw.none
  | succ n ih =>
    intro y0 y1 M h
    unfold l_K_passBlock_2
    repeat' (with_reducible first | exact Pw.none | exact Pw.some (by assumption) | refine Pw.ite (fun _ => ?_) (fun _ => ?_) | refine Pw.wrFCq (by first | exact FCq.up (by assumption) (by omega) | exact FCq.fill (by assumption) (by omega)) (fun _ _ => ?_) | refine Pw.bind (fc_m_N_holds (by assumption)) (fun _ _ => ?_) | exact fc_m_N_holds (by assumption) | exact fc_j_K_passBlock_30 (by assumption) (by assumption) (by assumption) | refine Pw.bind (fc_m_K_passPhi (by assumption)) (fun _ _ => ?_) | exact fc_m_K_passPhi (by assumption) | exact ih _ _ _ (by assumption) | exact hk _ _ (by assumption))
theorem fc_j_K_passBlock_72 {X M : Sto} {g : Int32 → Int32 → Sto → Option (Int32 × Sto)} {k : Int32 → Sto → Option (Int32 × Sto)} {v1 v2 : Int32} (hg : ∀ y0 y1 M, FCq X M → Pw (fun a => FCq X a.2) (g y0 y1 M)) (hk : ∀ y0 M, FCq X M → Pw (fun a => FCq X a.2) (k y0 M)) (h : FCq X M) : Pw (fun a => FCq X a.2) (j_K_passBlock_72 g k v1 v2 M) := by
  unfold j_K_passBlock_72
  repeat' (with_reducible first | exact Pw.none | exact Pw.some (by assumption) | refine Pw.ite (fun _ => ?_) (fun _ => ?_) | refine Pw.wrFCq (by first | exact FCq.up (by assumption) (by omega) | exact FCq.fill (by assumption) (by omega)) (fun _ _ => ?_) | exact hg _ _ _ (by assumption) | exact hk _ _ (by assumption))
theorem fc_j_K_passInstruction_193 {X M : Sto} (h : FCq X M) : Pw (fun a => FCq X a.2) (j_K_passInstruction_193  M) := by
  unfold j_K_passInstruction_193
  repeat' (with_reducible first | exact Pw.none | exact Pw.some (by assumption) | refine Pw.ite (fun _ => ?_) (fun _ => ?_) | refine Pw.wrFCq (by first | exact FCq.up (by assumption) (by omega) | exact FCq.fill (by assumption) (by omega)) (fun _ _ => ?_))
theorem fc_j_K_passInstruction_107 {X M : Sto} {v8 : Int32} (h : FCq X M) : Pw (fun a => FCq X a.2) (j_K_passInstruction_107 v8 M) := by
  unfold j_K_passInstruction_107
  repeat' (with_reducible first | exact Pw.none | exact Pw.some (by assumption) | refine Pw.ite (fun _ => ?_) (fun _ => ?_) | refine Pw.wrFCq (by first | exact FCq.up (by assumption) (by omega) | exact FCq.fill (by assumption) (by omega)) (fun _ _ => ?_) | refine Pw.bind (fc_m_K_raise (by assumption)) (fun _ _ => ?_) | exact fc_m_K_raise (by assumption) | exact fc_j_K_passInstruction_193 (by assumption))
theorem fc_j_N_calculate_64 {X M : Sto} {s0 : Int32} (h : FCq X M) : Pw (fun a => FCq X a.2) (j_N_calculate_64 s0 M) := by
  unfold j_N_calculate_64
  repeat' (with_reducible first | exact Pw.none | exact Pw.some (by assumption) | refine Pw.ite (fun _ => ?_) (fun _ => ?_) | refine Pw.wrFCq (by first | exact FCq.up (by assumption) (by omega) | exact FCq.fill (by assumption) (by omega)) (fun _ _ => ?_))
theorem fc_m_N_calculate {X M : Sto} {x0 x1 x2 : Int32} (h : FCq X M) : Pw (fun a => FCq X a.2) (m_N_calculate x0 x1 x2 M) := by
  unfold m_N_calculate
  repeat' (with_reducible first | exact Pw.none | exact Pw.some (by assumption) | refine Pw.ite (fun _ => ?_) (fun _ => ?_) | refine Pw.wrFCq (by first | exact FCq.up (by assumption) (by omega) | exact FCq.fill (by assumption) (by omega)) (fun _ _ => ?_) | exact fc_j_N_calculate_64 (by assumption))
theorem fc_j_K_passInstruction_176 {X M : Sto} {s0 v3 v8 v9 : Int32} (h : FCq X M) : Pw (fun a => FCq X a.2) (j_K_passInstruction_176 s0 v3 v8 v9 M) := by
  unfold j_K_passInstruction_176
  repeat' (with_reducible first | exact Pw.none | exact Pw.some (by assumption) | refine Pw.ite (fun _ => ?_) (fun _ => ?_) | refine Pw.wrFCq (by first | exact FCq.up (by assumption) (by omega) | exact FCq.fill (by assumption) (by omega)) (fun _ _ => ?_) | refine Pw.bind (fc_m_N_calculate (by assumption)) (fun _ _ => ?_) | exact fc_m_N_calculate (by assumption) | refine Pw.bind (fc_m_K_raise (by assumption)) (fun _ _ => ?_) | exact fc_m_K_raise (by assumption) | exact fc_j_K_passInstruction_193 (by assumption))
theorem fc_j_K_passInstruction_157 {X M : Sto} {s0 v3 v5 v8 : Int32} (h : FCq X M) : Pw (fun a => FCq X a.2) (j_K_passInstruction_157 s0 v3 v5 v8 M) := by
  unfold j_K_passInstruction_157
  repeat' (with_reducible first | exact Pw.none | exact Pw.some (by assumption) | refine Pw.ite (fun _ => ?_) (fun _ => ?_) | refine Pw.wrFCq (by first | exact FCq.up (by assumption) (by omega) | exact FCq.fill (by assumption) (by omega)) (fun _ _ => ?_) | exact fc_j_K_passInstruction_176 (by assumption))
theorem fc_j_K_passInstruction_74 {X M : Sto} {s0 v1 v2 v3 v4 v5 v6 : Int32} (h : FCq X M) : Pw (fun a => FCq X a.2) (j_K_passInstruction_74 s0 v1 v2 v3 v4 v5 v6 M) := by
  unfold j_K_passInstruction_74
  repeat' (with_reducible first | exact Pw.none | exact Pw.some (by assumption) | refine Pw.ite (fun _ => ?_) (fun _ => ?_) | refine Pw.wrFCq (by first | exact FCq.up (by assumption) (by omega) | exact FCq.fill (by assumption) (by omega)) (fun _ _ => ?_) | exact fc_j_K_passInstruction_107 (by assumption) | exact fc_j_K_passInstruction_157 (by assumption) | exact fc_j_K_passInstruction_193 (by assumption))
theorem fc_j_K_passInstruction_55 {X M : Sto} {s0 v1 v2 v3 v4 v5 : Int32} (h : FCq X M) : Pw (fun a => FCq X a.2) (j_K_passInstruction_55 s0 v1 v2 v3 v4 v5 M) := by
  unfold j_K_passInstruction_55
  repeat' (with_reducible first | exact Pw.none | exact Pw.some (by assumption) | refine Pw.ite (fun _ => ?_) (fun _ => ?_) | refine Pw.wrFCq (by first | exact FCq.up (by assumption) (by omega) | exact FCq.fill (by assumption) (by omega)) (fun _ _ => ?_) | exact fc_j_K_passInstruction_74 (by assumption))
theorem fc_m_K_passInstruction {X M : Sto} {x1 x2 : Int32} (h : FCq X M) : Pw (fun a => FCq X a.2) (m_K_passInstruction x1 x2 M) := by
  unfold m_K_passInstruction
  repeat' (with_reducible first | exact Pw.none | exact Pw.some (by assumption) | refine Pw.ite (fun _ => ?_) (fun _ => ?_) | refine Pw.wrFCq (by first | exact FCq.up (by assumption) (by omega) | exact FCq.fill (by assumption) (by omega)) (fun _ _ => ?_) | exact fc_j_K_passInstruction_55 (by assumption))
theorem fc_l_K_passBlock_38 {X : Sto} {k : Int32 → Sto → Option (Int32 × Sto)} (hk : ∀ y0 M, FCq X M → Pw (fun a => FCq X a.2) (k y0 M)) : ∀ n y0 y1 M, FCq X M → Pw (fun a => FCq X a.2) (l_K_passBlock_38 k n y0 y1 M) := by
  intro n
  induction n with
  | zero => intro y0 y1 M _; exact Pw.none
  | succ n ih =>
    intro y0 y1 M h
    unfold l_K_passBlock_38
    repeat' (with_reducible first | exact Pw.none | exact Pw.some (by assumption) | refine Pw.ite (fun _ => ?_) (fun _ => ?_) | refine Pw.wrFCq (by first | exact FCq.up (by assumption) (by omega) | exact FCq.fill (by assumption) (by omega)) (fun _ _ => ?_) | exact fc_j_K_passBlock_72 (by assumption) (by assumption) (by assumption) | refine Pw.bind (fc_m_K_passInstruction (by assumption)) (fun _ _ => ?_) | exact fc_m_K_passInstruction (by assumption) | exact ih _ _ _ (by assumption) | exact hk _ _ (by assumption))
theorem fc_j_K_waysTaken_25 {X M : Sto} {v1 : Int32} (h : FCq X M) : Pw (fun a => FCq X a.2) (j_K_waysTaken_25 v1 M) := by
  unfold j_K_waysTaken_25
  repeat' (with_reducible first | exact Pw.none | exact Pw.some (by assumption) | refine Pw.ite (fun _ => ?_) (fun _ => ?_) | refine Pw.wrFCq (by first | exact FCq.up (by assumption) (by omega) | exact FCq.fill (by assumption) (by omega)) (fun _ _ => ?_) | refine Pw.bind (fc_m_P_ways (by assumption)) (fun _ _ => ?_) | exact fc_m_P_ways (by assumption))
theorem fc_j_K_waysTaken_75 {X M : Sto} {s0 : Int32} (h : FCq X M) : Pw (fun a => FCq X a.2) (j_K_waysTaken_75 s0 M) := by
  unfold j_K_waysTaken_75
  repeat' (with_reducible first | exact Pw.none | exact Pw.some (by assumption) | refine Pw.ite (fun _ => ?_) (fun _ => ?_) | refine Pw.wrFCq (by first | exact FCq.up (by assumption) (by omega) | exact FCq.fill (by assumption) (by omega)) (fun _ _ => ?_) | refine Pw.bind (fc_m_N_bit (by assumption)) (fun _ _ => ?_) | exact fc_m_N_bit (by assumption))
theorem fc_m_K_waysTaken {X M : Sto} {x1 : Int32} (h : FCq X M) : Pw (fun a => FCq X a.2) (m_K_waysTaken x1 M) := by
  unfold m_K_waysTaken
  repeat' (with_reducible first | exact Pw.none | exact Pw.some (by assumption) | refine Pw.ite (fun _ => ?_) (fun _ => ?_) | refine Pw.wrFCq (by first | exact FCq.up (by assumption) (by omega) | exact FCq.fill (by assumption) (by omega)) (fun _ _ => ?_) | exact fc_j_K_waysTaken_25 (by assumption) | exact fc_j_K_waysTaken_75 (by assumption))
theorem fc_j_K_passEnd_45 {X M : Sto} (h : FCq X M) : Pw (fun a => FCq X a.2) (j_K_passEnd_45  M) := by
  unfold j_K_passEnd_45
  repeat' (with_reducible first | exact Pw.none | exact Pw.some (by assumption) | refine Pw.ite (fun _ => ?_) (fun _ => ?_) | refine Pw.wrFCq (by first | exact FCq.up (by assumption) (by omega) | exact FCq.fill (by assumption) (by omega)) (fun _ _ => ?_))
theorem fc_m_K_passEnd {X M : Sto} {x1 : Int32} (h : FCq X M) : Pw (fun a => FCq X a.2) (m_K_passEnd x1 M) := by
  unfold m_K_passEnd
  repeat' (with_reducible first | exact Pw.none | exact Pw.some (by assumption) | refine Pw.ite (fun _ => ?_) (fun _ => ?_) | refine Pw.wrFCq (by first | exact FCq.up (by assumption) (by omega) | exact FCq.fill (by assumption) (by omega)) (fun _ _ => ?_) | refine Pw.bind (fc_m_K_waysTaken (by assumption)) (fun _ _ => ?_) | exact fc_m_K_waysTaken (by assumption) | exact fc_j_K_passEnd_45 (by assumption))
theorem fc_j_K_passBlock_78 {X M : Sto} {v1 : Int32} (h : FCq X M) : Pw (fun a => FCq X a.2) (j_K_passBlock_78 v1 M) := by
  unfold j_K_passBlock_78
  repeat' (with_reducible first | exact Pw.none | exact Pw.some (by assumption) | refine Pw.ite (fun _ => ?_) (fun _ => ?_) | refine Pw.wrFCq (by first | exact FCq.up (by assumption) (by omega) | exact FCq.fill (by assumption) (by omega)) (fun _ _ => ?_) | refine Pw.bind (fc_m_K_passEnd (by assumption)) (fun _ _ => ?_) | exact fc_m_K_passEnd (by assumption))
theorem fc_j_K_passBlock_36 {X M : Sto} {v1 : Int32} (h : FCq X M) : Pw (fun a => FCq X a.2) (j_K_passBlock_36 v1 M) := by
  unfold j_K_passBlock_36
  repeat' (with_reducible first | exact Pw.none | exact Pw.some (by assumption) | refine Pw.ite (fun _ => ?_) (fun _ => ?_) | refine Pw.wrFCq (by first | exact FCq.up (by assumption) (by omega) | exact FCq.fill (by assumption) (by omega)) (fun _ _ => ?_) | refine fc_l_K_passBlock_38 (fun _ _ _ => ?_) _ _ _ _ (by assumption) | exact fc_j_K_passBlock_78 (by assumption))
theorem fc_m_K_passBlock {X M : Sto} {x1 : Int32} (h : FCq X M) : Pw (fun a => FCq X a.2) (m_K_passBlock x1 M) := by
  unfold m_K_passBlock
  repeat' (with_reducible first | exact Pw.none | exact Pw.some (by assumption) | refine Pw.ite (fun _ => ?_) (fun _ => ?_) | refine Pw.wrFCq (by first | exact FCq.up (by assumption) (by omega) | exact FCq.fill (by assumption) (by omega)) (fun _ _ => ?_) | refine fc_l_K_passBlock_2 (fun _ _ _ => ?_) _ _ _ _ (by assumption) | exact fc_j_K_passBlock_36 (by assumption))
theorem fc_l_K_settle_81 {X : Sto} {k : Int32 → Sto → Option (Int32 × Sto)} (hk : ∀ y0 M, FCq X M → Pw (fun a => FCq X a.2) (k y0 M)) : ∀ n y0 y1 M, FCq X M → Pw (fun a => FCq X a.2) (l_K_settle_81 k n y0 y1 M) := by
  intro n
  induction n with
  | zero => intro y0 y1 M _; exact Pw.none
  | succ n ih =>
    intro y0 y1 M h
    unfold l_K_settle_81
    repeat' (with_reducible first | exact Pw.none | exact Pw.some (by assumption) | refine Pw.ite (fun _ => ?_) (fun _ => ?_) | refine Pw.wrFCq (by first | exact FCq.up (by assumption) (by omega) | exact FCq.fill (by assumption) (by omega)) (fun _ _ => ?_) | refine Pw.bind (fc_m_N_holds (by assumption)) (fun _ _ => ?_) | exact fc_m_N_holds (by assumption) | exact fc_j_K_settle_124 (by assumption) (by assumption) (by assumption) | refine Pw.bind (fc_m_K_passBlock (by assumption)) (fun _ _ => ?_) | exact fc_m_K_passBlock (by assumption) | exact ih _ _ _ (by assumption) | exact hk _ _ (by assumption))
theorem fc_j_K_settle_130 {X M : Sto} {g : Int32 → Sto → Option (Int32 × Sto)} {k : Sto → Option (Int32 × Sto)} {v1 : Int32} (hg : ∀ y0 M, FCq X M → Pw (fun a => FCq X a.2) (g y0 M)) (hk : ∀  M, FCq X M → Pw (fun a => FCq X a.2) (k  M)) (h : FCq X M) : Pw (fun a => FCq X a.2) (j_K_settle_130 g k v1 M) := by
  unfold j_K_settle_130
  repeat' (with_reducible first | exact Pw.none | exact Pw.some (by assumption) | refine Pw.ite (fun _ => ?_) (fun _ => ?_) | refine Pw.wrFCq (by first | exact FCq.up (by assumption) (by omega) | exact FCq.fill (by assumption) (by omega)) (fun _ _ => ?_) | exact hg _ _ (by assumption) | exact hk _ (by assumption))
theorem fc_l_K_settle_60 {X : Sto} {k : Sto → Option (Int32 × Sto)} (hk : ∀  M, FCq X M → Pw (fun a => FCq X a.2) (k  M)) : ∀ n y0 M, FCq X M → Pw (fun a => FCq X a.2) (l_K_settle_60 k n y0 M) := by
  intro n
  induction n with
  | zero => intro y0 M _; exact Pw.none
  | succ n ih =>
    intro y0 M h
    unfold l_K_settle_60
    repeat' (with_reducible first | exact Pw.none | exact Pw.some (by assumption) | refine Pw.ite (fun _ => ?_) (fun _ => ?_) | refine Pw.wrFCq (by first | exact FCq.up (by assumption) (by omega) | exact FCq.fill (by assumption) (by omega)) (fun _ _ => ?_) | refine fc_l_K_settle_81 (fun _ _ _ => ?_) _ _ _ _ (by assumption) | exact fc_j_K_settle_130 (by assumption) (by assumption) (by assumption) | exact ih _ _ (by assumption) | exact hk _ (by assumption))
theorem fc_j_K_settle_136 {X M : Sto} (h : FCq X M) : Pw (fun a => FCq X a.2) (j_K_settle_136  M) := by
  unfold j_K_settle_136
  repeat' (with_reducible first | exact Pw.none | exact Pw.some (by assumption) | refine Pw.ite (fun _ => ?_) (fun _ => ?_) | refine Pw.wrFCq (by first | exact FCq.up (by assumption) (by omega) | exact FCq.fill (by assumption) (by omega)) (fun _ _ => ?_))
theorem fc_j_K_settle_45 {X M : Sto} (h : FCq X M) : Pw (fun a => FCq X a.2) (j_K_settle_45  M) := by
  unfold j_K_settle_45
  repeat' (with_reducible first | exact Pw.none | exact Pw.some (by assumption) | refine Pw.ite (fun _ => ?_) (fun _ => ?_) | refine Pw.wrFCq (by first | exact FCq.up (by assumption) (by omega) | exact FCq.fill (by assumption) (by omega)) (fun _ _ => ?_) | refine Pw.bind (fc_m_N_bit (by assumption)) (fun _ _ => ?_) | exact fc_m_N_bit (by assumption) | refine fc_l_K_settle_60 (fun _ _ => ?_) _ _ _ (by assumption) | exact fc_j_K_settle_136 (by assumption))
theorem fc_m_K_settle {X M : Sto} (h : FCq X M) : Pw (fun a => FCq X a.2) (m_K_settle  M) := by
  unfold m_K_settle
  repeat' (with_reducible first | exact Pw.none | exact Pw.some (by assumption) | refine Pw.ite (fun _ => ?_) (fun _ => ?_) | refine Pw.wrFCq (by first | exact FCq.up (by assumption) (by omega) | exact FCq.fill (by assumption) (by omega)) (fun _ _ => ?_) | refine fc_l_K_settle_26 (fun _ _ => ?_) _ _ _ (by assumption) | exact fc_j_K_settle_45 (by assumption))
theorem fc_l_D_collect_7 {X : Sto} {k : Sto → Option (Int32 × Sto)} (hk : ∀  M, FCq X M → Pw (fun a => FCq X a.2) (k  M)) : ∀ n y0 M, FCq X M → Pw (fun a => FCq X a.2) (l_D_collect_7 k n y0 M) := by
  intro n
  induction n with
  | zero => intro y0 M _; exact Pw.none
  | succ n ih =>
    intro y0 M h
    unfold l_D_collect_7
    repeat' (with_reducible first | exact Pw.none | exact Pw.some (by assumption) | refine Pw.ite (fun _ => ?_) (fun _ => ?_) | refine Pw.wrFCq (by first | exact FCq.up (by assumption) (by omega) | exact FCq.fill (by assumption) (by omega)) (fun _ _ => ?_) | exact ih _ _ (by assumption) | exact hk _ (by assumption))
theorem fc_j_D_collect_58 {X M : Sto} {g : Int32 → Sto → Option (Int32 × Sto)} {k : Sto → Option (Int32 × Sto)} {v1 : Int32} (hg : ∀ y0 M, FCq X M → Pw (fun a => FCq X a.2) (g y0 M)) (hk : ∀  M, FCq X M → Pw (fun a => FCq X a.2) (k  M)) (h : FCq X M) : Pw (fun a => FCq X a.2) (j_D_collect_58 g k v1 M) := by
  unfold j_D_collect_58
  repeat' (with_reducible first | exact Pw.none | exact Pw.some (by assumption) | refine Pw.ite (fun _ => ?_) (fun _ => ?_) | refine Pw.wrFCq (by first | exact FCq.up (by assumption) (by omega) | exact FCq.fill (by assumption) (by omega)) (fun _ _ => ?_) | exact hg _ _ (by assumption) | exact hk _ (by assumption))
theorem fc_j_D_need_41 {X M : Sto} (h : FCq X M) : Pw (fun a => FCq X a.2) (j_D_need_41  M) := by
  unfold j_D_need_41
  repeat' (with_reducible first | exact Pw.none | exact Pw.some (by assumption) | refine Pw.ite (fun _ => ?_) (fun _ => ?_) | refine Pw.wrFCq (by first | exact FCq.up (by assumption) (by omega) | exact FCq.fill (by assumption) (by omega)) (fun _ _ => ?_))
theorem fc_m_D_need {X M : Sto} {x1 : Int32} (h : FCq X M) : Pw (fun a => FCq X a.2) (m_D_need x1 M) := by
  unfold m_D_need
  repeat' (with_reducible first | exact Pw.none | exact Pw.some (by assumption) | refine Pw.ite (fun _ => ?_) (fun _ => ?_) | refine Pw.wrFCq (by first | exact FCq.up (by assumption) (by omega) | exact FCq.fill (by assumption) (by omega)) (fun _ _ => ?_) | exact fc_j_D_need_41 (by assumption))
theorem fc_j_D_needByBlock_72 {X M : Sto} {g : Int32 → Int32 → Sto → Option (Int32 × Sto)} {k : Int32 → Sto → Option (Int32 × Sto)} {v1 v2 : Int32} (hg : ∀ y0 y1 M, FCq X M → Pw (fun a => FCq X a.2) (g y0 y1 M)) (hk : ∀ y0 M, FCq X M → Pw (fun a => FCq X a.2) (k y0 M)) (h : FCq X M) : Pw (fun a => FCq X a.2) (j_D_needByBlock_72 g k v1 v2 M) := by
  unfold j_D_needByBlock_72
  repeat' (with_reducible first | exact Pw.none | exact Pw.some (by assumption) | refine Pw.ite (fun _ => ?_) (fun _ => ?_) | refine Pw.wrFCq (by first | exact FCq.up (by assumption) (by omega) | exact FCq.fill (by assumption) (by omega)) (fun _ _ => ?_) | exact hg _ _ _ (by assumption) | exact hk _ _ (by assumption))
theorem fc_l_D_needByBlock_2 {X : Sto} {k : Int32 → Sto → Option (Int32 × Sto)} (hk : ∀ y0 M, FCq X M → Pw (fun a => FCq X a.2) (k y0 M)) : ∀ n y0 y1 M, FCq X M → Pw (fun a => FCq X a.2) (l_D_needByBlock_2 k n y0 y1 M) := by
  intro n
  induction n with
  | zero => intro y0 y1 M _; exact Pw.none
  | succ n ih =>
    intro y0 y1 M h
    unfold l_D_needByBlock_2
    repeat' (with_reducible first | exact Pw.none | exact Pw.some (by assumption) | refine Pw.ite (fun _ => ?_) (fun _ => ?_) | refine Pw.wrFCq (by first | exact FCq.up (by assumption) (by omega) | exact FCq.fill (by assumption) (by omega)) (fun _ _ => ?_) | refine Pw.bind (fc_m_D_need (by assumption)) (fun _ _ => ?_) | exact fc_m_D_need (by assumption) | exact fc_j_D_needByBlock_72 (by assumption) (by assumption) (by assumption) | exact ih _ _ _ (by assumption) | exact hk _ _ (by assumption))
theorem fc_j_D_needByBlock_111 {X M : Sto} (h : FCq X M) : Pw (fun a => FCq X a.2) (j_D_needByBlock_111  M) := by
  unfold j_D_needByBlock_111
  repeat' (with_reducible first | exact Pw.none | exact Pw.some (by assumption) | refine Pw.ite (fun _ => ?_) (fun _ => ?_) | refine Pw.wrFCq (by first | exact FCq.up (by assumption) (by omega) | exact FCq.fill (by assumption) (by omega)) (fun _ _ => ?_))
theorem fc_j_D_needByBlock_78 {X M : Sto} {v1 : Int32} (h : FCq X M) : Pw (fun a => FCq X a.2) (j_D_needByBlock_78 v1 M) := by
  unfold j_D_needByBlock_78
  repeat' (with_reducible first | exact Pw.none | exact Pw.some (by assumption) | refine Pw.ite (fun _ => ?_) (fun _ => ?_) | refine Pw.wrFCq (by first | exact FCq.up (by assumption) (by omega) | exact FCq.fill (by assumption) (by omega)) (fun _ _ => ?_) | exact fc_j_D_needByBlock_111 (by assumption) | refine Pw.bind (fc_m_D_need (by assumption)) (fun _ _ => ?_) | exact fc_m_D_need (by assumption))
theorem fc_m_D_needByBlock {X M : Sto} {x1 : Int32} (h : FCq X M) : Pw (fun a => FCq X a.2) (m_D_needByBlock x1 M) := by
  unfold m_D_needByBlock
  repeat' (with_reducible first | exact Pw.none | exact Pw.some (by assumption) | refine Pw.ite (fun _ => ?_) (fun _ => ?_) | refine Pw.wrFCq (by first | exact FCq.up (by assumption) (by omega) | exact FCq.fill (by assumption) (by omega)) (fun _ _ => ?_) | refine fc_l_D_needByBlock_2 (fun _ _ _ => ?_) _ _ _ _ (by assumption) | exact fc_j_D_needByBlock_78 (by assumption))
theorem fc_l_D_collect_28 {X : Sto} {k : Sto → Option (Int32 × Sto)} (hk : ∀  M, FCq X M → Pw (fun a => FCq X a.2) (k  M)) : ∀ n y0 M, FCq X M → Pw (fun a => FCq X a.2) (l_D_collect_28 k n y0 M) := by
  intro n
  induction n with
  | zero => intro y0 M _; exact Pw.none
  | succ n ih =>
    intro y0 M h
    unfold l_D_collect_28
    repeat' (with_reducible first | exact Pw.none | exact Pw.some (by assumption) | refine Pw.ite (fun _ => ?_) (fun _ => ?_) | refine Pw.wrFCq (by first | exact FCq.up (by assumption) (by omega) | exact FCq.fill (by assumption) (by omega)) (fun _ _ => ?_) | refine Pw.bind (fc_m_N_holds (by assumption)) (fun _ _ => ?_) | exact fc_m_N_holds (by assumption) | exact fc_j_D_collect_58 (by assumption) (by assumption) (by assumption) | refine Pw.bind (fc_m_D_needByBlock (by assumption)) (fun _ _ => ?_) | exact fc_m_D_needByBlock (by assumption) | exact ih _ _ (by assumption) | exact hk _ (by assumption))
theorem fc_j_D_collect_108 {X M : Sto} {g : Int32 → Sto → Option (Int32 × Sto)} {k : Sto → Option (Int32 × Sto)} {v1 : Int32} (hg : ∀ y0 M, FCq X M → Pw (fun a => FCq X a.2) (g y0 M)) (hk : ∀  M, FCq X M → Pw (fun a => FCq X a.2) (k  M)) (h : FCq X M) : Pw (fun a => FCq X a.2) (j_D_collect_108 g k v1 M) := by
  unfold j_D_collect_108
  repeat' (with_reducible first | exact Pw.none | exact Pw.some (by assumption) | refine Pw.ite (fun _ => ?_) (fun _ => ?_) | refine Pw.wrFCq (by first | exact FCq.up (by assumption) (by omega) | exact FCq.fill (by assumption) (by omega)) (fun _ _ => ?_) | exact hg _ _ (by assumption) | exact hk _ (by assumption))
theorem fc_j_D_needPartsOfPhi_40 {X M : Sto} {g : Int32 → Int32 → Int32 → Sto → Option (Int32 × Sto)} {k : Sto → Option (Int32 × Sto)} {v1 v2 v3 : Int32} (hg : ∀ y0 y1 y2 M, FCq X M → Pw (fun a => FCq X a.2) (g y0 y1 y2 M)) (hk : ∀  M, FCq X M → Pw (fun a => FCq X a.2) (k  M)) (h : FCq X M) : Pw (fun a => FCq X a.2) (j_D_needPartsOfPhi_40 g k v1 v2 v3 M) := by
  unfold j_D_needPartsOfPhi_40
  repeat' (with_reducible first | exact Pw.none | exact Pw.some (by assumption) | refine Pw.ite (fun _ => ?_) (fun _ => ?_) | refine Pw.wrFCq (by first | exact FCq.up (by assumption) (by omega) | exact FCq.fill (by assumption) (by omega)) (fun _ _ => ?_) | exact hg _ _ _ _ (by assumption) | exact hk _ (by assumption))
theorem fc_l_D_needPartsOfPhi_2 {X : Sto} {k : Sto → Option (Int32 × Sto)} (hk : ∀  M, FCq X M → Pw (fun a => FCq X a.2) (k  M)) : ∀ n y0 y1 y2 M, FCq X M → Pw (fun a => FCq X a.2) (l_D_needPartsOfPhi_2 k n y0 y1 y2 M) := by
  intro n
  induction n with
  | zero => intro y0 y1 y2 M _; exact Pw.none
  | succ n ih =>
    intro y0 y1 y2 M h
    unfold l_D_needPartsOfPhi_2
    repeat' (with_reducible first | exact Pw.none | exact Pw.some (by assumption) | refine Pw.ite (fun _ => ?_) (fun _ => ?_) | refine Pw.wrFCq (by first | exact FCq.up (by assumption) (by omega) | exact FCq.fill (by assumption) (by omega)) (fun _ _ => ?_) | refine Pw.bind (fc_m_K_isWayTaken (by assumption)) (fun _ _ => ?_) | exact fc_m_K_isWayTaken (by assumption) | exact fc_j_D_needPartsOfPhi_40 (by assumption) (by assumption) (by assumption) | refine Pw.bind (fc_m_D_need (by assumption)) (fun _ _ => ?_) | exact fc_m_D_need (by assumption) | exact ih _ _ _ _ (by assumption) | exact hk _ (by assumption))
theorem fc_j_D_needPartsOfPhi_46 {X M : Sto} (h : FCq X M) : Pw (fun a => FCq X a.2) (j_D_needPartsOfPhi_46  M) := by
  unfold j_D_needPartsOfPhi_46
  repeat' (with_reducible first | exact Pw.none | exact Pw.some (by assumption) | refine Pw.ite (fun _ => ?_) (fun _ => ?_) | refine Pw.wrFCq (by first | exact FCq.up (by assumption) (by omega) | exact FCq.fill (by assumption) (by omega)) (fun _ _ => ?_))
theorem fc_m_D_needPartsOfPhi {X M : Sto} {x1 x2 : Int32} (h : FCq X M) : Pw (fun a => FCq X a.2) (m_D_needPartsOfPhi x1 x2 M) := by
  unfold m_D_needPartsOfPhi
  repeat' (with_reducible first | exact Pw.none | exact Pw.some (by assumption) | refine Pw.ite (fun _ => ?_) (fun _ => ?_) | refine Pw.wrFCq (by first | exact FCq.up (by assumption) (by omega) | exact FCq.fill (by assumption) (by omega)) (fun _ _ => ?_) | refine fc_l_D_needPartsOfPhi_2 (fun _ _ => ?_) _ _ _ _ _ (by assumption) | exact fc_j_D_needPartsOfPhi_46 (by assumption))
theorem fc_j_D_needPartsOf_78 {X M : Sto} (h : FCq X M) : Pw (fun a => FCq X a.2) (j_D_needPartsOf_78  M) := by
  unfold j_D_needPartsOf_78
  repeat' (with_reducible first | exact Pw.none | exact Pw.some (by assumption) | refine Pw.ite (fun _ => ?_) (fun _ => ?_) | refine Pw.wrFCq (by first | exact FCq.up (by assumption) (by omega) | exact FCq.fill (by assumption) (by omega)) (fun _ _ => ?_))
theorem fc_m_D_needPartsOf {X M : Sto} {x1 : Int32} (h : FCq X M) : Pw (fun a => FCq X a.2) (m_D_needPartsOf x1 M) := by
  unfold m_D_needPartsOf
  repeat' (with_reducible first | exact Pw.none | exact Pw.some (by assumption) | refine Pw.ite (fun _ => ?_) (fun _ => ?_) | refine Pw.wrFCq (by first | exact FCq.up (by assumption) (by omega) | exact FCq.fill (by assumption) (by omega)) (fun _ _ => ?_) | refine Pw.bind (fc_m_D_needPartsOfPhi (by assumption)) (fun _ _ => ?_) | exact fc_m_D_needPartsOfPhi (by assumption) | exact fc_j_D_needPartsOf_78 (by assumption) | refine Pw.bind (fc_m_D_need (by assumption)) (fun _ _ => ?_) | exact fc_m_D_need (by assumption))
theorem fc_l_D_collect_66 {X : Sto} {k : Sto → Option (Int32 × Sto)} (hk : ∀  M, FCq X M → Pw (fun a => FCq X a.2) (k  M)) : ∀ n y0 M, FCq X M → Pw (fun a => FCq X a.2) (l_D_collect_66 k n y0 M) := by
  intro n
  induction n with
  | zero => intro y0 M _; exact Pw.none
  | succ n ih =>
    intro y0 M h
    unfold l_D_collect_66
    repeat' (with_reducible first | exact Pw.none | exact Pw.some (by assumption) | refine Pw.ite (fun _ => ?_) (fun _ => ?_) | refine Pw.wrFCq (by first | exact FCq.up (by assumption) (by omega) | exact FCq.fill (by assumption) (by omega)) (fun _ _ => ?_) | exact fc_j_D_collect_108 (by assumption) (by assumption) (by assumption) | refine Pw.bind (fc_m_D_needPartsOf (by assumption)) (fun _ _ => ?_) | exact fc_m_D_needPartsOf (by assumption) | exact ih _ _ (by assumption) | exact hk _ (by assumption))
theorem fc_j_D_collect_114 {X M : Sto} (h : FCq X M) : Pw (fun a => FCq X a.2) (j_D_collect_114  M) := by
  unfold j_D_collect_114
  repeat' (with_reducible first | exact Pw.none | exact Pw.some (by assumption) | refine Pw.ite (fun _ => ?_) (fun _ => ?_) | refine Pw.wrFCq (by first | exact FCq.up (by assumption) (by omega) | exact FCq.fill (by assumption) (by omega)) (fun _ _ => ?_))
theorem fc_j_D_collect_64 {X M : Sto} (h : FCq X M) : Pw (fun a => FCq X a.2) (j_D_collect_64  M) := by
  unfold j_D_collect_64
  repeat' (with_reducible first | exact Pw.none | exact Pw.some (by assumption) | refine Pw.ite (fun _ => ?_) (fun _ => ?_) | refine Pw.wrFCq (by first | exact FCq.up (by assumption) (by omega) | exact FCq.fill (by assumption) (by omega)) (fun _ _ => ?_) | refine fc_l_D_collect_66 (fun _ _ => ?_) _ _ _ (by assumption) | exact fc_j_D_collect_114 (by assumption))
theorem fc_j_D_collect_26 {X M : Sto} (h : FCq X M) : Pw (fun a => FCq X a.2) (j_D_collect_26  M) := by
  unfold j_D_collect_26
  repeat' (with_reducible first | exact Pw.none | exact Pw.some (by assumption) | refine Pw.ite (fun _ => ?_) (fun _ => ?_) | refine Pw.wrFCq (by first | exact FCq.up (by assumption) (by omega) | exact FCq.fill (by assumption) (by omega)) (fun _ _ => ?_) | refine fc_l_D_collect_28 (fun _ _ => ?_) _ _ _ (by assumption) | exact fc_j_D_collect_64 (by assumption))
theorem fc_m_D_collect {X M : Sto} (h : FCq X M) : Pw (fun a => FCq X a.2) (m_D_collect  M) := by
  unfold m_D_collect
  repeat' (with_reducible first | exact Pw.none | exact Pw.some (by assumption) | refine Pw.ite (fun _ => ?_) (fun _ => ?_) | refine Pw.wrFCq (by first | exact FCq.up (by assumption) (by omega) | exact FCq.fill (by assumption) (by omega)) (fun _ _ => ?_) | refine fc_l_D_collect_7 (fun _ _ => ?_) _ _ _ (by assumption) | exact fc_j_D_collect_26 (by assumption))
theorem fd_j_R_fails_10 {X M : Sto} {s0 v1 : Int32} (h : FDq X M) : Pw (fun a => FDq X a.2) (j_R_fails_10 s0 v1 M) := by
  unfold j_R_fails_10
  repeat' (with_reducible first | exact Pw.none | exact Pw.some (by assumption) | refine Pw.ite (fun _ => ?_) (fun _ => ?_) | refine Pw.wrFDq (by first | exact FDq.up (by assumption) (by omega) | exact FDq.up0 (by assumption) (by decide)) (fun _ _ => ?_))
theorem fd_m_R_fails {X M : Sto} {x1 x2 : Int32} (h : FDq X M) : Pw (fun a => FDq X a.2) (m_R_fails x1 x2 M) := by
  unfold m_R_fails
  repeat' (with_reducible first | exact Pw.none | exact Pw.some (by assumption) | refine Pw.ite (fun _ => ?_) (fun _ => ?_) | refine Pw.wrFDq (by first | exact FDq.up (by assumption) (by omega) | exact FDq.up0 (by assumption) (by decide)) (fun _ _ => ?_) | exact fd_j_R_fails_10 (by assumption))
theorem fd_j_R_has_14 {X M : Sto} {s0 : Int32} (h : FDq X M) : Pw (fun a => FDq X a.2) (j_R_has_14 s0 M) := by
  unfold j_R_has_14
  repeat' (with_reducible first | exact Pw.none | exact Pw.some (by assumption) | refine Pw.ite (fun _ => ?_) (fun _ => ?_) | refine Pw.wrFDq (by first | exact FDq.up (by assumption) (by omega) | exact FDq.up0 (by assumption) (by decide)) (fun _ _ => ?_))
theorem fd_m_R_has {X M : Sto} {x0 x1 : Int32} (h : FDq X M) : Pw (fun a => FDq X a.2) (m_R_has x0 x1 M) := by
  unfold m_R_has
  repeat' (with_reducible first | exact Pw.none | exact Pw.some (by assumption) | refine Pw.ite (fun _ => ?_) (fun _ => ?_) | refine Pw.wrFDq (by first | exact FDq.up (by assumption) (by omega) | exact FDq.up0 (by assumption) (by decide)) (fun _ _ => ?_) | exact fd_j_R_has_14 (by assumption))
theorem fd_j_R_reaches_48 {X M : Sto} {g : Int32 → Int32 → Sto → Option (Int32 × Sto)} {k : Int32 → Sto → Option (Int32 × Sto)} {v1 v2 : Int32} (hg : ∀ y0 y1 M, FDq X M → Pw (fun a => FDq X a.2) (g y0 y1 M)) (hk : ∀ y0 M, FDq X M → Pw (fun a => FDq X a.2) (k y0 M)) (h : FDq X M) : Pw (fun a => FDq X a.2) (j_R_reaches_48 g k v1 v2 M) := by
  unfold j_R_reaches_48
  repeat' (with_reducible first | exact Pw.none | exact Pw.some (by assumption) | refine Pw.ite (fun _ => ?_) (fun _ => ?_) | refine Pw.wrFDq (by first | exact FDq.up (by assumption) (by omega) | exact FDq.up0 (by assumption) (by decide)) (fun _ _ => ?_) | exact hg _ _ _ (by assumption) | exact hk _ _ (by assumption))
theorem fd_j_R_leadsTo_51 {X M : Sto} {s0 : Int32} (h : FDq X M) : Pw (fun a => FDq X a.2) (j_R_leadsTo_51 s0 M) := by
  unfold j_R_leadsTo_51
  repeat' (with_reducible first | exact Pw.none | exact Pw.some (by assumption) | refine Pw.ite (fun _ => ?_) (fun _ => ?_) | refine Pw.wrFDq (by first | exact FDq.up (by assumption) (by omega) | exact FDq.up0 (by assumption) (by decide)) (fun _ _ => ?_))
theorem fd_m_R_leadsTo {X M : Sto} {x1 : Int32} (h : FDq X M) : Pw (fun a => FDq X a.2) (m_R_leadsTo x1 M) := by
  unfold m_R_leadsTo
  repeat' (with_reducible first | exact Pw.none | exact Pw.some (by assumption) | refine Pw.ite (fun _ => ?_) (fun _ => ?_) | refine Pw.wrFDq (by first | exact FDq.up (by assumption) (by omega) | exact FDq.up0 (by assumption) (by decide)) (fun _ _ => ?_) | exact fd_j_R_leadsTo_51 (by assumption))
theorem fd_l_R_reaches_15 {X : Sto} {k : Int32 → Sto → Option (Int32 × Sto)} (hk : ∀ y0 M, FDq X M → Pw (fun a => FDq X a.2) (k y0 M)) : ∀ n y0 y1 M, FDq X M → Pw (fun a => FDq X a.2) (l_R_reaches_15 k n y0 y1 M) := by
  intro n
  induction n with
  | zero => intro y0 y1 M _; exact Pw.none
  | succ n ih =>
    intro y0 y1 M h
    unfold l_R_reaches_15
    repeat' (with_reducible first | exact Pw.none | exact Pw.some (by assumption) | refine Pw.ite (fun _ => ?_) (fun _ => ?_) | refine Pw.wrFDq (by first | exact FDq.up (by assumption) (by omega) | exact FDq.up0 (by assumption) (by decide)) (fun _ _ => ?_) | refine Pw.bind (fd_m_R_has (by assumption)) (fun _ _ => ?_) | exact fd_m_R_has (by assumption) | exact fd_j_R_reaches_48 (by assumption) (by assumption) (by assumption) | refine Pw.bind (fd_m_R_leadsTo (by assumption)) (fun _ _ => ?_) | exact fd_m_R_leadsTo (by assumption) | exact ih _ _ _ (by assumption) | exact hk _ _ (by assumption))
theorem fd_j_R_reaches_54 {X M : Sto} {g : Int32 → Sto → Option (Int32 × Sto)} {k : Sto → Option (Int32 × Sto)} {v1 : Int32} (hg : ∀ y0 M, FDq X M → Pw (fun a => FDq X a.2) (g y0 M)) (hk : ∀  M, FDq X M → Pw (fun a => FDq X a.2) (k  M)) (h : FDq X M) : Pw (fun a => FDq X a.2) (j_R_reaches_54 g k v1 M) := by
  unfold j_R_reaches_54
  repeat' (with_reducible first | exact Pw.none | exact Pw.some (by assumption) | refine Pw.ite (fun _ => ?_) (fun _ => ?_) | refine Pw.wrFDq (by first | exact FDq.up (by assumption) (by omega) | exact FDq.up0 (by assumption) (by decide)) (fun _ _ => ?_) | exact hg _ _ (by assumption) | exact hk _ (by assumption))
theorem fd_l_R_reaches_7 {X : Sto} {k : Sto → Option (Int32 × Sto)} (hk : ∀  M, FDq X M → Pw (fun a => FDq X a.2) (k  M)) : ∀ n y0 M, FDq X M → Pw (fun a => FDq X a.2) (l_R_reaches_7 k n y0 M) := by
  intro n
  induction n with
  | zero => intro y0 M _; exact Pw.none
  | succ n ih =>
    intro y0 M h
    unfold l_R_reaches_7
    repeat' (with_reducible first | exact Pw.none | exact Pw.some (by assumption) | refine Pw.ite (fun _ => ?_) (fun _ => ?_) | refine Pw.wrFDq (by first | exact FDq.up (by assumption) (by omega) | exact FDq.up0 (by assumption) (by decide)) (fun _ _ => ?_) | refine fd_l_R_reaches_15 (fun _ _ _ => ?_) _ _ _ _ (by assumption) | exact fd_j_R_reaches_54 (by assumption) (by assumption) (by assumption) | exact ih _ _ (by assumption) | exact hk _ (by assumption))
theorem fd_j_R_reaches_122 {X M : Sto} {g : Int32 → Int32 → Sto → Option (Int32 × Sto)} {k : Int32 → Sto → Option (Int32 × Sto)} {v1 v2 : Int32} (hg : ∀ y0 y1 M, FDq X M → Pw (fun a => FDq X a.2) (g y0 y1 M)) (hk : ∀ y0 M, FDq X M → Pw (fun a => FDq X a.2) (k y0 M)) (h : FDq X M) : Pw (fun a => FDq X a.2) (j_R_reaches_122 g k v1 v2 M) := by
  unfold j_R_reaches_122
  repeat' (with_reducible first | exact Pw.none | exact Pw.some (by assumption) | refine Pw.ite (fun _ => ?_) (fun _ => ?_) | refine Pw.wrFDq (by first | exact FDq.up (by assumption) (by omega) | exact FDq.up0 (by assumption) (by decide)) (fun _ _ => ?_) | exact hg _ _ _ (by assumption) | exact hk _ _ (by assumption))
theorem fd_l_R_reaches_79 {X : Sto} {k : Int32 → Sto → Option (Int32 × Sto)} (hk : ∀ y0 M, FDq X M → Pw (fun a => FDq X a.2) (k y0 M)) : ∀ n y0 y1 M, FDq X M → Pw (fun a => FDq X a.2) (l_R_reaches_79 k n y0 y1 M) := by
  intro n
  induction n with
  | zero => intro y0 y1 M _; exact Pw.none
  | succ n ih =>
    intro y0 y1 M h
    unfold l_R_reaches_79
    repeat' (with_reducible first | exact Pw.none | exact Pw.some (by assumption) | refine Pw.ite (fun _ => ?_) (fun _ => ?_) | refine Pw.wrFDq (by first | exact FDq.up (by assumption) (by omega) | exact FDq.up0 (by assumption) (by decide)) (fun _ _ => ?_) | refine Pw.bind (fd_m_R_has (by assumption)) (fun _ _ => ?_) | exact fd_m_R_has (by assumption) | exact fd_j_R_reaches_122 (by assumption) (by assumption) (by assumption) | refine Pw.bind (fd_m_R_leadsTo (by assumption)) (fun _ _ => ?_) | exact fd_m_R_leadsTo (by assumption) | exact ih _ _ _ (by assumption) | exact hk _ _ (by assumption))
theorem fd_j_R_reaches_128 {X M : Sto} {g : Int32 → Sto → Option (Int32 × Sto)} {k : Sto → Option (Int32 × Sto)} {v1 : Int32} (hg : ∀ y0 M, FDq X M → Pw (fun a => FDq X a.2) (g y0 M)) (hk : ∀  M, FDq X M → Pw (fun a => FDq X a.2) (k  M)) (h : FDq X M) : Pw (fun a => FDq X a.2) (j_R_reaches_128 g k v1 M) := by
  unfold j_R_reaches_128
  repeat' (with_reducible first | exact Pw.none | exact Pw.some (by assumption) | refine Pw.ite (fun _ => ?_) (fun _ => ?_) | refine Pw.wrFDq (by first | exact FDq.up (by assumption) (by omega) | exact FDq.up0 (by assumption) (by decide)) (fun _ _ => ?_) | exact hg _ _ (by assumption) | exact hk _ (by assumption))
theorem fd_l_R_reaches_62 {X : Sto} {k : Sto → Option (Int32 × Sto)} (hk : ∀  M, FDq X M → Pw (fun a => FDq X a.2) (k  M)) : ∀ n y0 M, FDq X M → Pw (fun a => FDq X a.2) (l_R_reaches_62 k n y0 M) := by
  intro n
  induction n with
  | zero => intro y0 M _; exact Pw.none
  | succ n ih =>
    intro y0 M h
    unfold l_R_reaches_62
    repeat' (with_reducible first | exact Pw.none | exact Pw.some (by assumption) | refine Pw.ite (fun _ => ?_) (fun _ => ?_) | refine Pw.wrFDq (by first | exact FDq.up (by assumption) (by omega) | exact FDq.up0 (by assumption) (by decide)) (fun _ _ => ?_) | refine fd_l_R_reaches_79 (fun _ _ _ => ?_) _ _ _ _ (by assumption) | exact fd_j_R_reaches_128 (by assumption) (by assumption) (by assumption) | exact ih _ _ (by assumption) | exact hk _ (by assumption))
theorem fd_j_R_reaches_134 {X M : Sto} (h : FDq X M) : Pw (fun a => FDq X a.2) (j_R_reaches_134  M) := by
  unfold j_R_reaches_134
  repeat' (with_reducible first | exact Pw.none | exact Pw.some (by assumption) | refine Pw.ite (fun _ => ?_) (fun _ => ?_) | refine Pw.wrFDq (by first | exact FDq.up (by assumption) (by omega) | exact FDq.up0 (by assumption) (by decide)) (fun _ _ => ?_))
theorem fd_j_R_reaches_60 {X M : Sto} (h : FDq X M) : Pw (fun a => FDq X a.2) (j_R_reaches_60  M) := by
  unfold j_R_reaches_60
  repeat' (with_reducible first | exact Pw.none | exact Pw.some (by assumption) | refine Pw.ite (fun _ => ?_) (fun _ => ?_) | refine Pw.wrFDq (by first | exact FDq.up (by assumption) (by omega) | exact FDq.up0 (by assumption) (by decide)) (fun _ _ => ?_) | refine fd_l_R_reaches_62 (fun _ _ => ?_) _ _ _ (by assumption) | exact fd_j_R_reaches_134 (by assumption))
theorem fd_m_R_reaches {X M : Sto} (h : FDq X M) : Pw (fun a => FDq X a.2) (m_R_reaches  M) := by
  unfold m_R_reaches
  repeat' (with_reducible first | exact Pw.none | exact Pw.some (by assumption) | refine Pw.ite (fun _ => ?_) (fun _ => ?_) | refine Pw.wrFDq (by first | exact FDq.up (by assumption) (by omega) | exact FDq.up0 (by assumption) (by decide)) (fun _ _ => ?_) | refine fd_l_R_reaches_7 (fun _ _ => ?_) _ _ _ (by assumption) | exact fd_j_R_reaches_60 (by assumption))
theorem fd_j_R_dominates_27 {X M : Sto} {g : Int32 → Sto → Option (Int32 × Sto)} {k : Sto → Option (Int32 × Sto)} {s0 s1 v1 : Int32} (hg : ∀ y0 M, FDq X M → Pw (fun a => FDq X a.2) (g y0 M)) (hk : ∀  M, FDq X M → Pw (fun a => FDq X a.2) (k  M)) (h : FDq X M) : Pw (fun a => FDq X a.2) (j_R_dominates_27 g k s0 s1 v1 M) := by
  unfold j_R_dominates_27
  repeat' (with_reducible first | exact Pw.none | exact Pw.some (by assumption) | refine Pw.ite (fun _ => ?_) (fun _ => ?_) | refine Pw.wrFDq (by first | exact FDq.up (by assumption) (by omega) | exact FDq.up0 (by assumption) (by decide)) (fun _ _ => ?_) | exact hg _ _ (by assumption) | exact hk _ (by assumption))
theorem fd_l_R_dominates_2 {X : Sto} {k : Sto → Option (Int32 × Sto)} (hk : ∀  M, FDq X M → Pw (fun a => FDq X a.2) (k  M)) : ∀ n y0 M, FDq X M → Pw (fun a => FDq X a.2) (l_R_dominates_2 k n y0 M) := by
  intro n
  induction n with
  | zero => intro y0 M _; exact Pw.none
  | succ n ih =>
    intro y0 M h
    unfold l_R_dominates_2
    repeat' (with_reducible first | exact Pw.none | exact Pw.some (by assumption) | refine Pw.ite (fun _ => ?_) (fun _ => ?_) | refine Pw.wrFDq (by first | exact FDq.up (by assumption) (by omega) | exact FDq.up0 (by assumption) (by decide)) (fun _ _ => ?_) | exact fd_j_R_dominates_27 (by assumption) (by assumption) (by assumption) | exact ih _ _ (by assumption) | exact hk _ (by assumption))
theorem fd_j_R_dominates_124 {X M : Sto} {g : Int32 → Int32 → Sto → Option (Int32 × Sto)} {k : Int32 → Sto → Option (Int32 × Sto)} {v1 v2 : Int32} (hg : ∀ y0 y1 M, FDq X M → Pw (fun a => FDq X a.2) (g y0 y1 M)) (hk : ∀ y0 M, FDq X M → Pw (fun a => FDq X a.2) (k y0 M)) (h : FDq X M) : Pw (fun a => FDq X a.2) (j_R_dominates_124 g k v1 v2 M) := by
  unfold j_R_dominates_124
  repeat' (with_reducible first | exact Pw.none | exact Pw.some (by assumption) | refine Pw.ite (fun _ => ?_) (fun _ => ?_) | refine Pw.wrFDq (by first | exact FDq.up (by assumption) (by omega) | exact FDq.up0 (by assumption) (by decide)) (fun _ _ => ?_) | exact hg _ _ _ (by assumption) | exact hk _ _ (by assumption))
theorem fd_j_R_dominates_107 {X M : Sto} {g : Int32 → Int32 → Int32 → Int32 → Sto → Option (Int32 × Sto)} {k : Int32 → Int32 → Int32 → Sto → Option (Int32 × Sto)} {v1 v2 v3 v4 : Int32} (hg : ∀ y0 y1 y2 y3 M, FDq X M → Pw (fun a => FDq X a.2) (g y0 y1 y2 y3 M)) (hk : ∀ y0 y1 y2 M, FDq X M → Pw (fun a => FDq X a.2) (k y0 y1 y2 M)) (h : FDq X M) : Pw (fun a => FDq X a.2) (j_R_dominates_107 g k v1 v2 v3 v4 M) := by
  unfold j_R_dominates_107
  repeat' (with_reducible first | exact Pw.none | exact Pw.some (by assumption) | refine Pw.ite (fun _ => ?_) (fun _ => ?_) | refine Pw.wrFDq (by first | exact FDq.up (by assumption) (by omega) | exact FDq.up0 (by assumption) (by decide)) (fun _ _ => ?_) | exact hg _ _ _ _ _ (by assumption) | exact hk _ _ _ _ (by assumption))
theorem fd_l_R_dominates_74 {X : Sto} {k : Int32 → Int32 → Int32 → Sto → Option (Int32 × Sto)} (hk : ∀ y0 y1 y2 M, FDq X M → Pw (fun a => FDq X a.2) (k y0 y1 y2 M)) : ∀ n y0 y1 y2 y3 M, FDq X M → Pw (fun a => FDq X a.2) (l_R_dominates_74 k n y0 y1 y2 y3 M) := by
  intro n
  induction n with
  | zero => intro y0 y1 y2 y3 M _; exact Pw.none
  | succ n ih =>
    intro y0 y1 y2 y3 M h
    unfold l_R_dominates_74
    repeat' (with_reducible first | exact Pw.none | exact Pw.some (by assumption) | refine Pw.ite (fun _ => ?_) (fun _ => ?_) | refine Pw.wrFDq (by first | exact FDq.up (by assumption) (by omega) | exact FDq.up0 (by assumption) (by decide)) (fun _ _ => ?_) | refine Pw.bind (fd_m_R_has (by assumption)) (fun _ _ => ?_) | exact fd_m_R_has (by assumption) | exact fd_j_R_dominates_107 (by assumption) (by assumption) (by assumption) | exact ih _ _ _ _ _ (by assumption) | exact hk _ _ _ _ (by assumption))
theorem fd_j_R_dominates_113 {X M : Sto} {g : Int32 → Int32 → Sto → Option (Int32 × Sto)} {k : Int32 → Sto → Option (Int32 × Sto)} {v1 v2 v3 : Int32} (hg : ∀ y0 y1 M, FDq X M → Pw (fun a => FDq X a.2) (g y0 y1 M)) (hk : ∀ y0 M, FDq X M → Pw (fun a => FDq X a.2) (k y0 M)) (h : FDq X M) : Pw (fun a => FDq X a.2) (j_R_dominates_113 g k v1 v2 v3 M) := by
  unfold j_R_dominates_113
  repeat' (with_reducible first | exact Pw.none | exact Pw.some (by assumption) | refine Pw.ite (fun _ => ?_) (fun _ => ?_) | refine Pw.wrFDq (by first | exact FDq.up (by assumption) (by omega) | exact FDq.up0 (by assumption) (by decide)) (fun _ _ => ?_) | exact fd_j_R_dominates_124 (by assumption) (by assumption) (by assumption) | exact hg _ _ _ (by assumption) | exact hk _ _ (by assumption))
theorem fd_l_R_dominates_44 {X : Sto} {k : Int32 → Sto → Option (Int32 × Sto)} (hk : ∀ y0 M, FDq X M → Pw (fun a => FDq X a.2) (k y0 M)) : ∀ n y0 y1 M, FDq X M → Pw (fun a => FDq X a.2) (l_R_dominates_44 k n y0 y1 M) := by
  intro n
  induction n with
  | zero => intro y0 y1 M _; exact Pw.none
  | succ n ih =>
    intro y0 y1 M h
    unfold l_R_dominates_44
    repeat' (with_reducible first | exact Pw.none | exact Pw.some (by assumption) | refine Pw.ite (fun _ => ?_) (fun _ => ?_) | refine Pw.wrFDq (by first | exact FDq.up (by assumption) (by omega) | exact FDq.up0 (by assumption) (by decide)) (fun _ _ => ?_) | refine Pw.bind (fd_m_R_has (by assumption)) (fun _ _ => ?_) | exact fd_m_R_has (by assumption) | exact fd_j_R_dominates_124 (by assumption) (by assumption) (by assumption) | refine fd_l_R_dominates_74 (fun _ _ _ _ _ => ?_) _ _ _ _ _ _ (by assumption) | exact fd_j_R_dominates_113 (by assumption) (by assumption) (by assumption) | exact ih _ _ _ (by assumption) | exact hk _ _ (by assumption))
theorem fd_j_R_dominates_130 {X M : Sto} {g : Int32 → Sto → Option (Int32 × Sto)} {k : Sto → Option (Int32 × Sto)} {v1 : Int32} (hg : ∀ y0 M, FDq X M → Pw (fun a => FDq X a.2) (g y0 M)) (hk : ∀  M, FDq X M → Pw (fun a => FDq X a.2) (k  M)) (h : FDq X M) : Pw (fun a => FDq X a.2) (j_R_dominates_130 g k v1 M) := by
  unfold j_R_dominates_130
  repeat' (with_reducible first | exact Pw.none | exact Pw.some (by assumption) | refine Pw.ite (fun _ => ?_) (fun _ => ?_) | refine Pw.wrFDq (by first | exact FDq.up (by assumption) (by omega) | exact FDq.up0 (by assumption) (by decide)) (fun _ _ => ?_) | exact hg _ _ (by assumption) | exact hk _ (by assumption))
theorem fd_l_R_dominates_36 {X : Sto} {k : Sto → Option (Int32 × Sto)} (hk : ∀  M, FDq X M → Pw (fun a => FDq X a.2) (k  M)) : ∀ n y0 M, FDq X M → Pw (fun a => FDq X a.2) (l_R_dominates_36 k n y0 M) := by
  intro n
  induction n with
  | zero => intro y0 M _; exact Pw.none
  | succ n ih =>
    intro y0 M h
    unfold l_R_dominates_36
    repeat' (with_reducible first | exact Pw.none | exact Pw.some (by assumption) | refine Pw.ite (fun _ => ?_) (fun _ => ?_) | refine Pw.wrFDq (by first | exact FDq.up (by assumption) (by omega) | exact FDq.up0 (by assumption) (by decide)) (fun _ _ => ?_) | refine fd_l_R_dominates_44 (fun _ _ _ => ?_) _ _ _ _ (by assumption) | exact fd_j_R_dominates_130 (by assumption) (by assumption) (by assumption) | exact ih _ _ (by assumption) | exact hk _ (by assumption))
theorem fd_j_R_dominates_238 {X M : Sto} {g : Int32 → Int32 → Sto → Option (Int32 × Sto)} {k : Int32 → Sto → Option (Int32 × Sto)} {v1 v2 : Int32} (hg : ∀ y0 y1 M, FDq X M → Pw (fun a => FDq X a.2) (g y0 y1 M)) (hk : ∀ y0 M, FDq X M → Pw (fun a => FDq X a.2) (k y0 M)) (h : FDq X M) : Pw (fun a => FDq X a.2) (j_R_dominates_238 g k v1 v2 M) := by
  unfold j_R_dominates_238
  repeat' (with_reducible first | exact Pw.none | exact Pw.some (by assumption) | refine Pw.ite (fun _ => ?_) (fun _ => ?_) | refine Pw.wrFDq (by first | exact FDq.up (by assumption) (by omega) | exact FDq.up0 (by assumption) (by decide)) (fun _ _ => ?_) | exact hg _ _ _ (by assumption) | exact hk _ _ (by assumption))
theorem fd_j_R_dominates_231 {X M : Sto} {g : Int32 → Int32 → Sto → Option (Int32 × Sto)} {k : Int32 → Sto → Option (Int32 × Sto)} {v1 v2 : Int32} (hg : ∀ y0 y1 M, FDq X M → Pw (fun a => FDq X a.2) (g y0 y1 M)) (hk : ∀ y0 M, FDq X M → Pw (fun a => FDq X a.2) (k y0 M)) (h : FDq X M) : Pw (fun a => FDq X a.2) (j_R_dominates_231 g k v1 v2 M) := by
  unfold j_R_dominates_231
  repeat' (with_reducible first | exact Pw.none | exact Pw.some (by assumption) | refine Pw.ite (fun _ => ?_) (fun _ => ?_) | refine Pw.wrFDq (by first | exact FDq.up (by assumption) (by omega) | exact FDq.up0 (by assumption) (by decide)) (fun _ _ => ?_) | exact fd_j_R_dominates_238 (by assumption) (by assumption) (by assumption) | exact hg _ _ _ (by assumption) | exact hk _ _ (by assumption))
theorem fd_l_R_ones_4 {X : Sto} {k : Int32 → Sto → Option (Int32 × Sto)} (hk : ∀ y0 M, FDq X M → Pw (fun a => FDq X a.2) (k y0 M)) : ∀ n y0 y1 y2 M, FDq X M → Pw (fun a => FDq X a.2) (l_R_ones_4 k n y0 y1 y2 M) := by
  intro n
  induction n with
  | zero => intro y0 y1 y2 M _; exact Pw.none
  | succ n ih =>
    intro y0 y1 y2 M h
    unfold l_R_ones_4
    repeat' (with_reducible first | exact Pw.none | exact Pw.some (by assumption) | refine Pw.ite (fun _ => ?_) (fun _ => ?_) | refine Pw.wrFDq (by first | exact FDq.up (by assumption) (by omega) | exact FDq.up0 (by assumption) (by decide)) (fun _ _ => ?_) | exact ih _ _ _ _ (by assumption) | exact hk _ _ (by assumption))
theorem fd_j_R_ones_24 {X M : Sto} {v1 : Int32} (h : FDq X M) : Pw (fun a => FDq X a.2) (j_R_ones_24 v1 M) := by
  unfold j_R_ones_24
  repeat' (with_reducible first | exact Pw.none | exact Pw.some (by assumption) | refine Pw.ite (fun _ => ?_) (fun _ => ?_) | refine Pw.wrFDq (by first | exact FDq.up (by assumption) (by omega) | exact FDq.up0 (by assumption) (by decide)) (fun _ _ => ?_))
theorem fd_m_R_ones {X M : Sto} {x0 : Int32} (h : FDq X M) : Pw (fun a => FDq X a.2) (m_R_ones x0 M) := by
  unfold m_R_ones
  repeat' (with_reducible first | exact Pw.none | exact Pw.some (by assumption) | refine Pw.ite (fun _ => ?_) (fun _ => ?_) | refine Pw.wrFDq (by first | exact FDq.up (by assumption) (by omega) | exact FDq.up0 (by assumption) (by decide)) (fun _ _ => ?_) | refine fd_l_R_ones_4 (fun _ _ _ => ?_) _ _ _ _ _ (by assumption) | exact fd_j_R_ones_24 (by assumption))
theorem fd_l_R_dominates_155 {X : Sto} {k : Int32 → Sto → Option (Int32 × Sto)} (hk : ∀ y0 M, FDq X M → Pw (fun a => FDq X a.2) (k y0 M)) : ∀ n y0 y1 M, FDq X M → Pw (fun a => FDq X a.2) (l_R_dominates_155 k n y0 y1 M) := by
  intro n
  induction n with
  | zero => intro y0 y1 M _; exact Pw.none
  | succ n ih =>
    intro y0 y1 M h
    unfold l_R_dominates_155
    repeat' (with_reducible first | exact Pw.none | exact Pw.some (by assumption) | refine Pw.ite (fun _ => ?_) (fun _ => ?_) | refine Pw.wrFDq (by first | exact FDq.up (by assumption) (by omega) | exact FDq.up0 (by assumption) (by decide)) (fun _ _ => ?_) | exact fd_j_R_dominates_238 (by assumption) (by assumption) (by assumption) | refine Pw.bind (fd_m_R_has (by assumption)) (fun _ _ => ?_) | exact fd_m_R_has (by assumption) | exact fd_j_R_dominates_231 (by assumption) (by assumption) (by assumption) | refine Pw.bind (fd_m_R_ones (by assumption)) (fun _ _ => ?_) | exact fd_m_R_ones (by assumption) | exact ih _ _ _ (by assumption) | exact hk _ _ (by assumption))
theorem fd_j_R_dominates_244 {X M : Sto} {g : Int32 → Sto → Option (Int32 × Sto)} {k : Sto → Option (Int32 × Sto)} {v1 : Int32} (hg : ∀ y0 M, FDq X M → Pw (fun a => FDq X a.2) (g y0 M)) (hk : ∀  M, FDq X M → Pw (fun a => FDq X a.2) (k  M)) (h : FDq X M) : Pw (fun a => FDq X a.2) (j_R_dominates_244 g k v1 M) := by
  unfold j_R_dominates_244
  repeat' (with_reducible first | exact Pw.none | exact Pw.some (by assumption) | refine Pw.ite (fun _ => ?_) (fun _ => ?_) | refine Pw.wrFDq (by first | exact FDq.up (by assumption) (by omega) | exact FDq.up0 (by assumption) (by decide)) (fun _ _ => ?_) | exact hg _ _ (by assumption) | exact hk _ (by assumption))
theorem fd_l_R_dominates_138 {X : Sto} {k : Sto → Option (Int32 × Sto)} (hk : ∀  M, FDq X M → Pw (fun a => FDq X a.2) (k  M)) : ∀ n y0 M, FDq X M → Pw (fun a => FDq X a.2) (l_R_dominates_138 k n y0 M) := by
  intro n
  induction n with
  | zero => intro y0 M _; exact Pw.none
  | succ n ih =>
    intro y0 M h
    unfold l_R_dominates_138
    repeat' (with_reducible first | exact Pw.none | exact Pw.some (by assumption) | refine Pw.ite (fun _ => ?_) (fun _ => ?_) | refine Pw.wrFDq (by first | exact FDq.up (by assumption) (by omega) | exact FDq.up0 (by assumption) (by decide)) (fun _ _ => ?_) | refine fd_l_R_dominates_155 (fun _ _ _ => ?_) _ _ _ _ (by assumption) | exact fd_j_R_dominates_244 (by assumption) (by assumption) (by assumption) | exact ih _ _ (by assumption) | exact hk _ (by assumption))
theorem fd_j_R_dominates_250 {X M : Sto} (h : FDq X M) : Pw (fun a => FDq X a.2) (j_R_dominates_250  M) := by
  unfold j_R_dominates_250
  repeat' (with_reducible first | exact Pw.none | exact Pw.some (by assumption) | refine Pw.ite (fun _ => ?_) (fun _ => ?_) | refine Pw.wrFDq (by first | exact FDq.up (by assumption) (by omega) | exact FDq.up0 (by assumption) (by decide)) (fun _ _ => ?_))
theorem fd_j_R_dominates_136 {X M : Sto} (h : FDq X M) : Pw (fun a => FDq X a.2) (j_R_dominates_136  M) := by
  unfold j_R_dominates_136
  repeat' (with_reducible first | exact Pw.none | exact Pw.some (by assumption) | refine Pw.ite (fun _ => ?_) (fun _ => ?_) | refine Pw.wrFDq (by first | exact FDq.up (by assumption) (by omega) | exact FDq.up0 (by assumption) (by decide)) (fun _ _ => ?_) | refine fd_l_R_dominates_138 (fun _ _ => ?_) _ _ _ (by assumption) | exact fd_j_R_dominates_250 (by assumption))
theorem fd_j_R_dominates_34 {X M : Sto} (h : FDq X M) : Pw (fun a => FDq X a.2) (j_R_dominates_34  M) := by
  unfold j_R_dominates_34
  repeat' (with_reducible first | exact Pw.none | exact Pw.some (by assumption) | refine Pw.ite (fun _ => ?_) (fun _ => ?_) | refine Pw.wrFDq (by first | exact FDq.up (by assumption) (by omega) | exact FDq.up0 (by assumption) (by decide)) (fun _ _ => ?_) | refine fd_l_R_dominates_36 (fun _ _ => ?_) _ _ _ (by assumption) | exact fd_j_R_dominates_136 (by assumption))
theorem fd_m_R_dominates {X M : Sto} (h : FDq X M) : Pw (fun a => FDq X a.2) (m_R_dominates  M) := by
  unfold m_R_dominates
  repeat' (with_reducible first | exact Pw.none | exact Pw.some (by assumption) | refine Pw.ite (fun _ => ?_) (fun _ => ?_) | refine Pw.wrFDq (by first | exact FDq.up (by assumption) (by omega) | exact FDq.up0 (by assumption) (by decide)) (fun _ _ => ?_) | refine fd_l_R_dominates_2 (fun _ _ => ?_) _ _ _ (by assumption) | exact fd_j_R_dominates_34 (by assumption))
theorem fd_l_R_placePhis_2 {X : Sto} {k : Sto → Option (Int32 × Sto)} (hk : ∀  M, FDq X M → Pw (fun a => FDq X a.2) (k  M)) : ∀ n y0 M, FDq X M → Pw (fun a => FDq X a.2) (l_R_placePhis_2 k n y0 M) := by
  intro n
  induction n with
  | zero => intro y0 M _; exact Pw.none
  | succ n ih =>
    intro y0 M h
    unfold l_R_placePhis_2
    repeat' (with_reducible first | exact Pw.none | exact Pw.some (by assumption) | refine Pw.ite (fun _ => ?_) (fun _ => ?_) | refine Pw.wrFDq (by first | exact FDq.up (by assumption) (by omega) | exact FDq.up0 (by assumption) (by decide)) (fun _ _ => ?_) | exact ih _ _ (by assumption) | exact hk _ (by assumption))
theorem fd_j_R_placePhis_126 {X M : Sto} {g : Int32 → Int32 → Int32 → Sto → Option (Int32 × Sto)} {k : Int32 → Int32 → Sto → Option (Int32 × Sto)} {v1 v2 v3 : Int32} (hg : ∀ y0 y1 y2 M, FDq X M → Pw (fun a => FDq X a.2) (g y0 y1 y2 M)) (hk : ∀ y0 y1 M, FDq X M → Pw (fun a => FDq X a.2) (k y0 y1 M)) (h : FDq X M) : Pw (fun a => FDq X a.2) (j_R_placePhis_126 g k v1 v2 v3 M) := by
  unfold j_R_placePhis_126
  repeat' (with_reducible first | exact Pw.none | exact Pw.some (by assumption) | refine Pw.ite (fun _ => ?_) (fun _ => ?_) | refine Pw.wrFDq (by first | exact FDq.up (by assumption) (by omega) | exact FDq.up0 (by assumption) (by decide)) (fun _ _ => ?_) | exact hg _ _ _ _ (by assumption) | exact hk _ _ _ (by assumption))
theorem fd_j_R_isInFrontier_71 {X M : Sto} {g : Int32 → Int32 → Int32 → Int32 → Sto → Option (Int32 × Sto)} {k : Int32 → Sto → Option (Int32 × Sto)} {s0 v1 v2 v4 : Int32} (hg : ∀ y0 y1 y2 y3 M, FDq X M → Pw (fun a => FDq X a.2) (g y0 y1 y2 y3 M)) (hk : ∀ y0 M, FDq X M → Pw (fun a => FDq X a.2) (k y0 M)) (h : FDq X M) : Pw (fun a => FDq X a.2) (j_R_isInFrontier_71 g k s0 v1 v2 v4 M) := by
  unfold j_R_isInFrontier_71
  repeat' (with_reducible first | exact Pw.none | exact Pw.some (by assumption) | refine Pw.ite (fun _ => ?_) (fun _ => ?_) | refine Pw.wrFDq (by first | exact FDq.up (by assumption) (by omega) | exact FDq.up0 (by assumption) (by decide)) (fun _ _ => ?_) | exact hg _ _ _ _ _ (by assumption) | exact hk _ _ (by assumption))
theorem fd_j_R_isInFrontier_70 {X M : Sto} {g : Int32 → Int32 → Int32 → Int32 → Sto → Option (Int32 × Sto)} {k : Int32 → Sto → Option (Int32 × Sto)} {v1 v2 v4 : Int32} (hg : ∀ y0 y1 y2 y3 M, FDq X M → Pw (fun a => FDq X a.2) (g y0 y1 y2 y3 M)) (hk : ∀ y0 M, FDq X M → Pw (fun a => FDq X a.2) (k y0 M)) (h : FDq X M) : Pw (fun a => FDq X a.2) (j_R_isInFrontier_70 g k v1 v2 v4 M) := by
  unfold j_R_isInFrontier_70
  repeat' (with_reducible first | exact Pw.none | exact Pw.some (by assumption) | refine Pw.ite (fun _ => ?_) (fun _ => ?_) | refine Pw.wrFDq (by first | exact FDq.up (by assumption) (by omega) | exact FDq.up0 (by assumption) (by decide)) (fun _ _ => ?_) | exact fd_j_R_isInFrontier_71 (by assumption) (by assumption) (by assumption) | exact hg _ _ _ _ _ (by assumption) | exact hk _ _ (by assumption))
theorem fd_j_R_isInFrontier_66 {X M : Sto} {g : Int32 → Int32 → Int32 → Int32 → Sto → Option (Int32 × Sto)} {k : Int32 → Sto → Option (Int32 × Sto)} {v1 v2 v4 : Int32} (hg : ∀ y0 y1 y2 y3 M, FDq X M → Pw (fun a => FDq X a.2) (g y0 y1 y2 y3 M)) (hk : ∀ y0 M, FDq X M → Pw (fun a => FDq X a.2) (k y0 M)) (h : FDq X M) : Pw (fun a => FDq X a.2) (j_R_isInFrontier_66 g k v1 v2 v4 M) := by
  unfold j_R_isInFrontier_66
  repeat' (with_reducible first | exact Pw.none | exact Pw.some (by assumption) | refine Pw.ite (fun _ => ?_) (fun _ => ?_) | refine Pw.wrFDq (by first | exact FDq.up (by assumption) (by omega) | exact FDq.up0 (by assumption) (by decide)) (fun _ _ => ?_) | exact fd_j_R_isInFrontier_71 (by assumption) (by assumption) (by assumption) | exact hg _ _ _ _ _ (by assumption) | exact hk _ _ (by assumption))
theorem fd_l_R_isInFrontier_25 {X : Sto} {k : Int32 → Sto → Option (Int32 × Sto)} (hk : ∀ y0 M, FDq X M → Pw (fun a => FDq X a.2) (k y0 M)) : ∀ n y0 y1 y2 y3 M, FDq X M → Pw (fun a => FDq X a.2) (l_R_isInFrontier_25 k n y0 y1 y2 y3 M) := by
  intro n
  induction n with
  | zero => intro y0 y1 y2 y3 M _; exact Pw.none
  | succ n ih =>
    intro y0 y1 y2 y3 M h
    unfold l_R_isInFrontier_25
    repeat' (with_reducible first | exact Pw.none | exact Pw.some (by assumption) | refine Pw.ite (fun _ => ?_) (fun _ => ?_) | refine Pw.wrFDq (by first | exact FDq.up (by assumption) (by omega) | exact FDq.up0 (by assumption) (by decide)) (fun _ _ => ?_) | refine Pw.bind (fd_m_R_has (by assumption)) (fun _ _ => ?_) | exact fd_m_R_has (by assumption) | exact fd_j_R_isInFrontier_70 (by assumption) (by assumption) (by assumption) | exact fd_j_R_isInFrontier_66 (by assumption) (by assumption) (by assumption) | exact ih _ _ _ _ _ (by assumption) | exact hk _ _ (by assumption))
theorem fd_j_R_isInFrontier_78 {X M : Sto} {v3 : Int32} (h : FDq X M) : Pw (fun a => FDq X a.2) (j_R_isInFrontier_78 v3 M) := by
  unfold j_R_isInFrontier_78
  repeat' (with_reducible first | exact Pw.none | exact Pw.some (by assumption) | refine Pw.ite (fun _ => ?_) (fun _ => ?_) | refine Pw.wrFDq (by first | exact FDq.up (by assumption) (by omega) | exact FDq.up0 (by assumption) (by decide)) (fun _ _ => ?_))
theorem fd_j_R_isInFrontier_20 {X M : Sto} {v1 v2 : Int32} (h : FDq X M) : Pw (fun a => FDq X a.2) (j_R_isInFrontier_20 v1 v2 M) := by
  unfold j_R_isInFrontier_20
  repeat' (with_reducible first | exact Pw.none | exact Pw.some (by assumption) | refine Pw.ite (fun _ => ?_) (fun _ => ?_) | refine Pw.wrFDq (by first | exact FDq.up (by assumption) (by omega) | exact FDq.up0 (by assumption) (by decide)) (fun _ _ => ?_) | refine fd_l_R_isInFrontier_25 (fun _ _ _ => ?_) _ _ _ _ _ _ (by assumption) | exact fd_j_R_isInFrontier_78 (by assumption))
theorem fd_m_R_isInFrontier {X M : Sto} {x1 x2 : Int32} (h : FDq X M) : Pw (fun a => FDq X a.2) (m_R_isInFrontier x1 x2 M) := by
  unfold m_R_isInFrontier
  repeat' (with_reducible first | exact Pw.none | exact Pw.some (by assumption) | refine Pw.ite (fun _ => ?_) (fun _ => ?_) | refine Pw.wrFDq (by first | exact FDq.up (by assumption) (by omega) | exact FDq.up0 (by assumption) (by decide)) (fun _ _ => ?_) | refine Pw.bind (fd_m_R_has (by assumption)) (fun _ _ => ?_) | exact fd_m_R_has (by assumption) | exact fd_j_R_isInFrontier_20 (by assumption))
theorem fd_j_R_setsOne_11 {X M : Sto} {s0 : Int32} (h : FDq X M) : Pw (fun a => FDq X a.2) (j_R_setsOne_11 s0 M) := by
  unfold j_R_setsOne_11
  repeat' (with_reducible first | exact Pw.none | exact Pw.some (by assumption) | refine Pw.ite (fun _ => ?_) (fun _ => ?_) | refine Pw.wrFDq (by first | exact FDq.up (by assumption) (by omega) | exact FDq.up0 (by assumption) (by decide)) (fun _ _ => ?_))
theorem fd_m_R_setsOne {X M : Sto} {x0 : Int32} (h : FDq X M) : Pw (fun a => FDq X a.2) (m_R_setsOne x0 M) := by
  unfold m_R_setsOne
  repeat' (with_reducible first | exact Pw.none | exact Pw.some (by assumption) | refine Pw.ite (fun _ => ?_) (fun _ => ?_) | refine Pw.wrFDq (by first | exact FDq.up (by assumption) (by omega) | exact FDq.up0 (by assumption) (by decide)) (fun _ _ => ?_) | exact fd_j_R_setsOne_11 (by assumption))
theorem fd_j_R_defined_50 {X M : Sto} {g : Int32 → Int32 → Int32 → Sto → Option (Int32 × Sto)} {k : Int32 → Sto → Option (Int32 × Sto)} {v1 v2 v3 : Int32} (hg : ∀ y0 y1 y2 M, FDq X M → Pw (fun a => FDq X a.2) (g y0 y1 y2 M)) (hk : ∀ y0 M, FDq X M → Pw (fun a => FDq X a.2) (k y0 M)) (h : FDq X M) : Pw (fun a => FDq X a.2) (j_R_defined_50 g k v1 v2 v3 M) := by
  unfold j_R_defined_50
  repeat' (with_reducible first | exact Pw.none | exact Pw.some (by assumption) | refine Pw.ite (fun _ => ?_) (fun _ => ?_) | refine Pw.wrFDq (by first | exact FDq.up (by assumption) (by omega) | exact FDq.up0 (by assumption) (by decide)) (fun _ _ => ?_) | exact hg _ _ _ _ (by assumption) | exact hk _ _ (by assumption))
theorem fd_l_R_defined_12 {X : Sto} {k : Int32 → Sto → Option (Int32 × Sto)} (hk : ∀ y0 M, FDq X M → Pw (fun a => FDq X a.2) (k y0 M)) : ∀ n y0 y1 y2 M, FDq X M → Pw (fun a => FDq X a.2) (l_R_defined_12 k n y0 y1 y2 M) := by
  intro n
  induction n with
  | zero => intro y0 y1 y2 M _; exact Pw.none
  | succ n ih =>
    intro y0 y1 y2 M h
    unfold l_R_defined_12
    repeat' (with_reducible first | exact Pw.none | exact Pw.some (by assumption) | refine Pw.ite (fun _ => ?_) (fun _ => ?_) | refine Pw.wrFDq (by first | exact FDq.up (by assumption) (by omega) | exact FDq.up0 (by assumption) (by decide)) (fun _ _ => ?_) | refine Pw.bind (fd_m_R_setsOne (by assumption)) (fun _ _ => ?_) | exact fd_m_R_setsOne (by assumption) | exact fd_j_R_defined_50 (by assumption) (by assumption) (by assumption) | exact ih _ _ _ _ (by assumption) | exact hk _ _ (by assumption))
theorem fd_j_R_defined_56 {X M : Sto} {v2 : Int32} (h : FDq X M) : Pw (fun a => FDq X a.2) (j_R_defined_56 v2 M) := by
  unfold j_R_defined_56
  repeat' (with_reducible first | exact Pw.none | exact Pw.some (by assumption) | refine Pw.ite (fun _ => ?_) (fun _ => ?_) | refine Pw.wrFDq (by first | exact FDq.up (by assumption) (by omega) | exact FDq.up0 (by assumption) (by decide)) (fun _ _ => ?_))
theorem fd_m_R_defined {X M : Sto} {x1 : Int32} (h : FDq X M) : Pw (fun a => FDq X a.2) (m_R_defined x1 M) := by
  unfold m_R_defined
  repeat' (with_reducible first | exact Pw.none | exact Pw.some (by assumption) | refine Pw.ite (fun _ => ?_) (fun _ => ?_) | refine Pw.wrFDq (by first | exact FDq.up (by assumption) (by omega) | exact FDq.up0 (by assumption) (by decide)) (fun _ _ => ?_) | refine fd_l_R_defined_12 (fun _ _ _ => ?_) _ _ _ _ _ (by assumption) | exact fd_j_R_defined_56 (by assumption))
theorem fd_j_R_placePhis_117 {X M : Sto} {g : Int32 → Int32 → Int32 → Sto → Option (Int32 × Sto)} {k : Int32 → Int32 → Sto → Option (Int32 × Sto)} {s0 v2 v3 v4 : Int32} (hg : ∀ y0 y1 y2 M, FDq X M → Pw (fun a => FDq X a.2) (g y0 y1 y2 M)) (hk : ∀ y0 y1 M, FDq X M → Pw (fun a => FDq X a.2) (k y0 y1 M)) (h : FDq X M) : Pw (fun a => FDq X a.2) (j_R_placePhis_117 g k s0 v2 v3 v4 M) := by
  unfold j_R_placePhis_117
  repeat' (with_reducible first | exact Pw.none | exact Pw.some (by assumption) | refine Pw.ite (fun _ => ?_) (fun _ => ?_) | refine Pw.wrFDq (by first | exact FDq.up (by assumption) (by omega) | exact FDq.up0 (by assumption) (by decide)) (fun _ _ => ?_) | exact fd_j_R_placePhis_126 (by assumption) (by assumption) (by assumption) | exact hg _ _ _ _ (by assumption) | exact hk _ _ _ (by assumption))
theorem fd_j_R_placePhis_112 {X M : Sto} {g : Int32 → Int32 → Int32 → Sto → Option (Int32 × Sto)} {k : Int32 → Int32 → Sto → Option (Int32 × Sto)} {v2 v3 v4 : Int32} (hg : ∀ y0 y1 y2 M, FDq X M → Pw (fun a => FDq X a.2) (g y0 y1 y2 M)) (hk : ∀ y0 y1 M, FDq X M → Pw (fun a => FDq X a.2) (k y0 y1 M)) (h : FDq X M) : Pw (fun a => FDq X a.2) (j_R_placePhis_112 g k v2 v3 v4 M) := by
  unfold j_R_placePhis_112
  repeat' (with_reducible first | exact Pw.none | exact Pw.some (by assumption) | refine Pw.ite (fun _ => ?_) (fun _ => ?_) | refine Pw.wrFDq (by first | exact FDq.up (by assumption) (by omega) | exact FDq.up0 (by assumption) (by decide)) (fun _ _ => ?_) | exact fd_j_R_placePhis_117 (by assumption) (by assumption) (by assumption) | exact hg _ _ _ _ (by assumption) | exact hk _ _ _ (by assumption))
theorem fd_l_R_placePhis_41 {X : Sto} {k : Int32 → Int32 → Sto → Option (Int32 × Sto)} (hk : ∀ y0 y1 M, FDq X M → Pw (fun a => FDq X a.2) (k y0 y1 M)) : ∀ n y0 y1 y2 M, FDq X M → Pw (fun a => FDq X a.2) (l_R_placePhis_41 k n y0 y1 y2 M) := by
  intro n
  induction n with
  | zero => intro y0 y1 y2 M _; exact Pw.none
  | succ n ih =>
    intro y0 y1 y2 M h
    unfold l_R_placePhis_41
    repeat' (with_reducible first | exact Pw.none | exact Pw.some (by assumption) | refine Pw.ite (fun _ => ?_) (fun _ => ?_) | refine Pw.wrFDq (by first | exact FDq.up (by assumption) (by omega) | exact FDq.up0 (by assumption) (by decide)) (fun _ _ => ?_) | refine Pw.bind (fd_m_R_has (by assumption)) (fun _ _ => ?_) | exact fd_m_R_has (by assumption) | exact fd_j_R_placePhis_126 (by assumption) (by assumption) (by assumption) | refine Pw.bind (fd_m_R_isInFrontier (by assumption)) (fun _ _ => ?_) | exact fd_m_R_isInFrontier (by assumption) | refine Pw.bind (fd_m_R_defined (by assumption)) (fun _ _ => ?_) | exact fd_m_R_defined (by assumption) | exact fd_j_R_placePhis_117 (by assumption) (by assumption) (by assumption) | exact fd_j_R_placePhis_112 (by assumption) (by assumption) (by assumption) | exact ih _ _ _ _ (by assumption) | exact hk _ _ _ (by assumption))
theorem fd_j_R_placePhis_132 {X M : Sto} {g : Int32 → Int32 → Sto → Option (Int32 × Sto)} {k : Int32 → Sto → Option (Int32 × Sto)} {v1 v2 : Int32} (hg : ∀ y0 y1 M, FDq X M → Pw (fun a => FDq X a.2) (g y0 y1 M)) (hk : ∀ y0 M, FDq X M → Pw (fun a => FDq X a.2) (k y0 M)) (h : FDq X M) : Pw (fun a => FDq X a.2) (j_R_placePhis_132 g k v1 v2 M) := by
  unfold j_R_placePhis_132
  repeat' (with_reducible first | exact Pw.none | exact Pw.some (by assumption) | refine Pw.ite (fun _ => ?_) (fun _ => ?_) | refine Pw.wrFDq (by first | exact FDq.up (by assumption) (by omega) | exact FDq.up0 (by assumption) (by decide)) (fun _ _ => ?_) | exact hg _ _ _ (by assumption) | exact hk _ _ (by assumption))
theorem fd_l_R_placePhis_31 {X : Sto} {k : Int32 → Sto → Option (Int32 × Sto)} (hk : ∀ y0 M, FDq X M → Pw (fun a => FDq X a.2) (k y0 M)) : ∀ n y0 y1 M, FDq X M → Pw (fun a => FDq X a.2) (l_R_placePhis_31 k n y0 y1 M) := by
  intro n
  induction n with
  | zero => intro y0 y1 M _; exact Pw.none
  | succ n ih =>
    intro y0 y1 M h
    unfold l_R_placePhis_31
    repeat' (with_reducible first | exact Pw.none | exact Pw.some (by assumption) | refine Pw.ite (fun _ => ?_) (fun _ => ?_) | refine Pw.wrFDq (by first | exact FDq.up (by assumption) (by omega) | exact FDq.up0 (by assumption) (by decide)) (fun _ _ => ?_) | refine fd_l_R_placePhis_41 (fun _ _ _ _ => ?_) _ _ _ _ _ (by assumption) | exact fd_j_R_placePhis_132 (by assumption) (by assumption) (by assumption) | exact ih _ _ _ (by assumption) | exact hk _ _ (by assumption))
theorem fd_j_R_placePhis_138 {X M : Sto} {g : Int32 → Sto → Option (Int32 × Sto)} {k : Sto → Option (Int32 × Sto)} {v1 : Int32} (hg : ∀ y0 M, FDq X M → Pw (fun a => FDq X a.2) (g y0 M)) (hk : ∀  M, FDq X M → Pw (fun a => FDq X a.2) (k  M)) (h : FDq X M) : Pw (fun a => FDq X a.2) (j_R_placePhis_138 g k v1 M) := by
  unfold j_R_placePhis_138
  repeat' (with_reducible first | exact Pw.none | exact Pw.some (by assumption) | refine Pw.ite (fun _ => ?_) (fun _ => ?_) | refine Pw.wrFDq (by first | exact FDq.up (by assumption) (by omega) | exact FDq.up0 (by assumption) (by decide)) (fun _ _ => ?_) | exact hg _ _ (by assumption) | exact hk _ (by assumption))
theorem fd_l_R_placePhis_23 {X : Sto} {k : Sto → Option (Int32 × Sto)} (hk : ∀  M, FDq X M → Pw (fun a => FDq X a.2) (k  M)) : ∀ n y0 M, FDq X M → Pw (fun a => FDq X a.2) (l_R_placePhis_23 k n y0 M) := by
  intro n
  induction n with
  | zero => intro y0 M _; exact Pw.none
  | succ n ih =>
    intro y0 M h
    unfold l_R_placePhis_23
    repeat' (with_reducible first | exact Pw.none | exact Pw.some (by assumption) | refine Pw.ite (fun _ => ?_) (fun _ => ?_) | refine Pw.wrFDq (by first | exact FDq.up (by assumption) (by omega) | exact FDq.up0 (by assumption) (by decide)) (fun _ _ => ?_) | refine fd_l_R_placePhis_31 (fun _ _ _ => ?_) _ _ _ _ (by assumption) | exact fd_j_R_placePhis_138 (by assumption) (by assumption) (by assumption) | exact ih _ _ (by assumption) | exact hk _ (by assumption))
theorem fd_j_R_placePhis_141 {X M : Sto} (h : FDq X M) : Pw (fun a => FDq X a.2) (j_R_placePhis_141  M) := by
  unfold j_R_placePhis_141
  repeat' (with_reducible first | exact Pw.none | exact Pw.some (by assumption) | refine Pw.ite (fun _ => ?_) (fun _ => ?_) | refine Pw.wrFDq (by first | exact FDq.up (by assumption) (by omega) | exact FDq.up0 (by assumption) (by decide)) (fun _ _ => ?_))
theorem fd_j_R_placePhis_21 {X M : Sto} (h : FDq X M) : Pw (fun a => FDq X a.2) (j_R_placePhis_21  M) := by
  unfold j_R_placePhis_21
  repeat' (with_reducible first | exact Pw.none | exact Pw.some (by assumption) | refine Pw.ite (fun _ => ?_) (fun _ => ?_) | refine Pw.wrFDq (by first | exact FDq.up (by assumption) (by omega) | exact FDq.up0 (by assumption) (by decide)) (fun _ _ => ?_) | refine fd_l_R_placePhis_23 (fun _ _ => ?_) _ _ _ (by assumption) | exact fd_j_R_placePhis_141 (by assumption))
theorem fd_m_R_placePhis {X M : Sto} (h : FDq X M) : Pw (fun a => FDq X a.2) (m_R_placePhis  M) := by
  unfold m_R_placePhis
  repeat' (with_reducible first | exact Pw.none | exact Pw.some (by assumption) | refine Pw.ite (fun _ => ?_) (fun _ => ?_) | refine Pw.wrFDq (by first | exact FDq.up (by assumption) (by omega) | exact FDq.up0 (by assumption) (by decide)) (fun _ _ => ?_) | refine fd_l_R_placePhis_2 (fun _ _ => ?_) _ _ _ (by assumption) | exact fd_j_R_placePhis_21 (by assumption))
theorem fd_l_R_nameAll_8 {X : Sto} {k : Sto → Option (Int32 × Sto)} (hk : ∀  M, FDq X M → Pw (fun a => FDq X a.2) (k  M)) : ∀ n y0 M, FDq X M → Pw (fun a => FDq X a.2) (l_R_nameAll_8 k n y0 M) := by
  intro n
  induction n with
  | zero => intro y0 M _; exact Pw.none
  | succ n ih =>
    intro y0 M h
    unfold l_R_nameAll_8
    repeat' (with_reducible first | exact Pw.none | exact Pw.some (by assumption) | refine Pw.ite (fun _ => ?_) (fun _ => ?_) | refine Pw.wrFDq (by first | exact FDq.up (by assumption) (by omega) | exact FDq.up0 (by assumption) (by decide)) (fun _ _ => ?_) | exact ih _ _ (by assumption) | exact hk _ (by assumption))
theorem fd_j_R_nameBlock_92 {X M : Sto} {g : Int32 → Int32 → Int32 → Sto → Option (Int32 × Sto)} {k : Int32 → Int32 → Sto → Option (Int32 × Sto)} {v1 v2 v3 : Int32} (hg : ∀ y0 y1 y2 M, FDq X M → Pw (fun a => FDq X a.2) (g y0 y1 y2 M)) (hk : ∀ y0 y1 M, FDq X M → Pw (fun a => FDq X a.2) (k y0 y1 M)) (h : FDq X M) : Pw (fun a => FDq X a.2) (j_R_nameBlock_92 g k v1 v2 v3 M) := by
  unfold j_R_nameBlock_92
  repeat' (with_reducible first | exact Pw.none | exact Pw.some (by assumption) | refine Pw.ite (fun _ => ?_) (fun _ => ?_) | refine Pw.wrFDq (by first | exact FDq.up (by assumption) (by omega) | exact FDq.up0 (by assumption) (by decide)) (fun _ _ => ?_) | exact hg _ _ _ _ (by assumption) | exact hk _ _ _ (by assumption))
theorem fd_m_R_named {X M : Sto} {x1 x2 : Int32} (h : FDq X M) : Pw (fun a => FDq X a.2) (m_R_named x1 x2 M) := by
  unfold m_R_named
  repeat' (with_reducible first | exact Pw.none | exact Pw.some (by assumption) | refine Pw.ite (fun _ => ?_) (fun _ => ?_) | refine Pw.wrFDq (by first | exact FDq.up (by assumption) (by omega) | exact FDq.up0 (by assumption) (by decide)) (fun _ _ => ?_))
theorem fd_j_R_nameBlock_44 {X M : Sto} {g : Int32 → Int32 → Int32 → Sto → Option (Int32 × Sto)} {k : Int32 → Int32 → Sto → Option (Int32 × Sto)} {s0 s1 v1 v2 v3 : Int32} (hg : ∀ y0 y1 y2 M, FDq X M → Pw (fun a => FDq X a.2) (g y0 y1 y2 M)) (hk : ∀ y0 y1 M, FDq X M → Pw (fun a => FDq X a.2) (k y0 y1 M)) (h : FDq X M) : Pw (fun a => FDq X a.2) (j_R_nameBlock_44 g k s0 s1 v1 v2 v3 M) := by
  unfold j_R_nameBlock_44
  repeat' (with_reducible first | exact Pw.none | exact Pw.some (by assumption) | refine Pw.ite (fun _ => ?_) (fun _ => ?_) | refine Pw.wrFDq (by first | exact FDq.up (by assumption) (by omega) | exact FDq.up0 (by assumption) (by decide)) (fun _ _ => ?_) | refine Pw.bind (fd_m_R_has (by assumption)) (fun _ _ => ?_) | exact fd_m_R_has (by assumption) | exact fd_j_R_nameBlock_92 (by assumption) (by assumption) (by assumption) | refine Pw.bind (fd_m_R_named (by assumption)) (fun _ _ => ?_) | exact fd_m_R_named (by assumption) | exact hg _ _ _ _ (by assumption) | exact hk _ _ _ (by assumption))
theorem fd_l_R_nameBlock_7 {X : Sto} {k : Int32 → Int32 → Sto → Option (Int32 × Sto)} (hk : ∀ y0 y1 M, FDq X M → Pw (fun a => FDq X a.2) (k y0 y1 M)) : ∀ n y0 y1 y2 M, FDq X M → Pw (fun a => FDq X a.2) (l_R_nameBlock_7 k n y0 y1 y2 M) := by
  intro n
  induction n with
  | zero => intro y0 y1 y2 M _; exact Pw.none
  | succ n ih =>
    intro y0 y1 y2 M h
    unfold l_R_nameBlock_7
    repeat' (with_reducible first | exact Pw.none | exact Pw.some (by assumption) | refine Pw.ite (fun _ => ?_) (fun _ => ?_) | refine Pw.wrFDq (by first | exact FDq.up (by assumption) (by omega) | exact FDq.up0 (by assumption) (by decide)) (fun _ _ => ?_) | exact fd_j_R_nameBlock_44 (by assumption) (by assumption) (by assumption) | exact ih _ _ _ _ (by assumption) | exact hk _ _ _ (by assumption))
theorem fd_j_R_usesFirst_15 {X M : Sto} {s0 : Int32} (h : FDq X M) : Pw (fun a => FDq X a.2) (j_R_usesFirst_15 s0 M) := by
  unfold j_R_usesFirst_15
  repeat' (with_reducible first | exact Pw.none | exact Pw.some (by assumption) | refine Pw.ite (fun _ => ?_) (fun _ => ?_) | refine Pw.wrFDq (by first | exact FDq.up (by assumption) (by omega) | exact FDq.up0 (by assumption) (by decide)) (fun _ _ => ?_))
theorem fd_j_R_usesFirst_14 {X M : Sto} (h : FDq X M) : Pw (fun a => FDq X a.2) (j_R_usesFirst_14  M) := by
  unfold j_R_usesFirst_14
  repeat' (with_reducible first | exact Pw.none | exact Pw.some (by assumption) | refine Pw.ite (fun _ => ?_) (fun _ => ?_) | refine Pw.wrFDq (by first | exact FDq.up (by assumption) (by omega) | exact FDq.up0 (by assumption) (by decide)) (fun _ _ => ?_) | exact fd_j_R_usesFirst_15 (by assumption))
theorem fd_m_R_usesFirst {X M : Sto} {x0 : Int32} (h : FDq X M) : Pw (fun a => FDq X a.2) (m_R_usesFirst x0 M) := by
  unfold m_R_usesFirst
  repeat' (with_reducible first | exact Pw.none | exact Pw.some (by assumption) | refine Pw.ite (fun _ => ?_) (fun _ => ?_) | refine Pw.wrFDq (by first | exact FDq.up (by assumption) (by omega) | exact FDq.up0 (by assumption) (by decide)) (fun _ _ => ?_) | exact fd_j_R_usesFirst_14 (by assumption) | exact fd_j_R_usesFirst_15 (by assumption))
theorem fd_j_R_usesSecond_16 {X M : Sto} {s0 : Int32} (h : FDq X M) : Pw (fun a => FDq X a.2) (j_R_usesSecond_16 s0 M) := by
  unfold j_R_usesSecond_16
  repeat' (with_reducible first | exact Pw.none | exact Pw.some (by assumption) | refine Pw.ite (fun _ => ?_) (fun _ => ?_) | refine Pw.wrFDq (by first | exact FDq.up (by assumption) (by omega) | exact FDq.up0 (by assumption) (by decide)) (fun _ _ => ?_))
theorem fd_j_R_usesSecond_15 {X M : Sto} (h : FDq X M) : Pw (fun a => FDq X a.2) (j_R_usesSecond_15  M) := by
  unfold j_R_usesSecond_15
  repeat' (with_reducible first | exact Pw.none | exact Pw.some (by assumption) | refine Pw.ite (fun _ => ?_) (fun _ => ?_) | refine Pw.wrFDq (by first | exact FDq.up (by assumption) (by omega) | exact FDq.up0 (by assumption) (by decide)) (fun _ _ => ?_) | exact fd_j_R_usesSecond_16 (by assumption))
theorem fd_m_R_usesSecond {X M : Sto} {x0 : Int32} (h : FDq X M) : Pw (fun a => FDq X a.2) (m_R_usesSecond x0 M) := by
  unfold m_R_usesSecond
  repeat' (with_reducible first | exact Pw.none | exact Pw.some (by assumption) | refine Pw.ite (fun _ => ?_) (fun _ => ?_) | refine Pw.wrFDq (by first | exact FDq.up (by assumption) (by omega) | exact FDq.up0 (by assumption) (by decide)) (fun _ _ => ?_) | exact fd_j_R_usesSecond_15 (by assumption) | exact fd_j_R_usesSecond_16 (by assumption))
theorem fd_j_R_nameBlock_233 {X M : Sto} {g : Int32 → Int32 → Int32 → Sto → Option (Int32 × Sto)} {k : Int32 → Int32 → Sto → Option (Int32 × Sto)} {v1 v2 v3 : Int32} (hg : ∀ y0 y1 y2 M, FDq X M → Pw (fun a => FDq X a.2) (g y0 y1 y2 M)) (hk : ∀ y0 y1 M, FDq X M → Pw (fun a => FDq X a.2) (k y0 y1 M)) (h : FDq X M) : Pw (fun a => FDq X a.2) (j_R_nameBlock_233 g k v1 v2 v3 M) := by
  unfold j_R_nameBlock_233
  repeat' (with_reducible first | exact Pw.none | exact Pw.some (by assumption) | refine Pw.ite (fun _ => ?_) (fun _ => ?_) | refine Pw.wrFDq (by first | exact FDq.up (by assumption) (by omega) | exact FDq.up0 (by assumption) (by decide)) (fun _ _ => ?_) | exact hg _ _ _ _ (by assumption) | exact hk _ _ _ (by assumption))
theorem fd_j_R_nameBlock_205 {X M : Sto} {g : Int32 → Int32 → Int32 → Sto → Option (Int32 × Sto)} {k : Int32 → Int32 → Sto → Option (Int32 × Sto)} {s0 s1 v1 v2 v3 v4 : Int32} (hg : ∀ y0 y1 y2 M, FDq X M → Pw (fun a => FDq X a.2) (g y0 y1 y2 M)) (hk : ∀ y0 y1 M, FDq X M → Pw (fun a => FDq X a.2) (k y0 y1 M)) (h : FDq X M) : Pw (fun a => FDq X a.2) (j_R_nameBlock_205 g k s0 s1 v1 v2 v3 v4 M) := by
  unfold j_R_nameBlock_205
  repeat' (with_reducible first | exact Pw.none | exact Pw.some (by assumption) | refine Pw.ite (fun _ => ?_) (fun _ => ?_) | refine Pw.wrFDq (by first | exact FDq.up (by assumption) (by omega) | exact FDq.up0 (by assumption) (by decide)) (fun _ _ => ?_) | refine Pw.bind (fd_m_R_setsOne (by assumption)) (fun _ _ => ?_) | exact fd_m_R_setsOne (by assumption) | exact fd_j_R_nameBlock_233 (by assumption) (by assumption) (by assumption) | exact hg _ _ _ _ (by assumption) | exact hk _ _ _ (by assumption))
theorem fd_j_R_nameBlock_181 {X M : Sto} {g : Int32 → Int32 → Int32 → Sto → Option (Int32 × Sto)} {k : Int32 → Int32 → Sto → Option (Int32 × Sto)} {s0 s1 v1 v2 v3 v4 : Int32} (hg : ∀ y0 y1 y2 M, FDq X M → Pw (fun a => FDq X a.2) (g y0 y1 y2 M)) (hk : ∀ y0 y1 M, FDq X M → Pw (fun a => FDq X a.2) (k y0 y1 M)) (h : FDq X M) : Pw (fun a => FDq X a.2) (j_R_nameBlock_181 g k s0 s1 v1 v2 v3 v4 M) := by
  unfold j_R_nameBlock_181
  repeat' (with_reducible first | exact Pw.none | exact Pw.some (by assumption) | refine Pw.ite (fun _ => ?_) (fun _ => ?_) | refine Pw.wrFDq (by first | exact FDq.up (by assumption) (by omega) | exact FDq.up0 (by assumption) (by decide)) (fun _ _ => ?_) | refine Pw.bind (fd_m_R_setsOne (by assumption)) (fun _ _ => ?_) | exact fd_m_R_setsOne (by assumption) | exact fd_j_R_nameBlock_205 (by assumption) (by assumption) (by assumption) | refine Pw.bind (fd_m_R_named (by assumption)) (fun _ _ => ?_) | exact fd_m_R_named (by assumption) | exact hg _ _ _ _ (by assumption) | exact hk _ _ _ (by assumption))
theorem fd_j_R_nameBlock_150 {X M : Sto} {g : Int32 → Int32 → Int32 → Sto → Option (Int32 × Sto)} {k : Int32 → Int32 → Sto → Option (Int32 × Sto)} {s0 s1 v1 v2 v3 v4 : Int32} (hg : ∀ y0 y1 y2 M, FDq X M → Pw (fun a => FDq X a.2) (g y0 y1 y2 M)) (hk : ∀ y0 y1 M, FDq X M → Pw (fun a => FDq X a.2) (k y0 y1 M)) (h : FDq X M) : Pw (fun a => FDq X a.2) (j_R_nameBlock_150 g k s0 s1 v1 v2 v3 v4 M) := by
  unfold j_R_nameBlock_150
  repeat' (with_reducible first | exact Pw.none | exact Pw.some (by assumption) | refine Pw.ite (fun _ => ?_) (fun _ => ?_) | refine Pw.wrFDq (by first | exact FDq.up (by assumption) (by omega) | exact FDq.up0 (by assumption) (by decide)) (fun _ _ => ?_) | refine Pw.bind (fd_m_R_usesSecond (by assumption)) (fun _ _ => ?_) | exact fd_m_R_usesSecond (by assumption) | exact fd_j_R_nameBlock_181 (by assumption) (by assumption) (by assumption) | exact hg _ _ _ _ (by assumption) | exact hk _ _ _ (by assumption))
theorem fd_l_R_nameBlock_100 {X : Sto} {k : Int32 → Int32 → Sto → Option (Int32 × Sto)} (hk : ∀ y0 y1 M, FDq X M → Pw (fun a => FDq X a.2) (k y0 y1 M)) : ∀ n y0 y1 y2 M, FDq X M → Pw (fun a => FDq X a.2) (l_R_nameBlock_100 k n y0 y1 y2 M) := by
  intro n
  induction n with
  | zero => intro y0 y1 y2 M _; exact Pw.none
  | succ n ih =>
    intro y0 y1 y2 M h
    unfold l_R_nameBlock_100
    repeat' (with_reducible first | exact Pw.none | exact Pw.some (by assumption) | refine Pw.ite (fun _ => ?_) (fun _ => ?_) | refine Pw.wrFDq (by first | exact FDq.up (by assumption) (by omega) | exact FDq.up0 (by assumption) (by decide)) (fun _ _ => ?_) | refine Pw.bind (fd_m_R_usesFirst (by assumption)) (fun _ _ => ?_) | exact fd_m_R_usesFirst (by assumption) | exact fd_j_R_nameBlock_150 (by assumption) (by assumption) (by assumption) | exact ih _ _ _ _ (by assumption) | exact hk _ _ _ (by assumption))
theorem fd_j_R_nameBlock_271 {X M : Sto} {s0 s1 : Int32} (h : FDq X M) : Pw (fun a => FDq X a.2) (j_R_nameBlock_271 s0 s1 M) := by
  unfold j_R_nameBlock_271
  repeat' (with_reducible first | exact Pw.none | exact Pw.some (by assumption) | refine Pw.ite (fun _ => ?_) (fun _ => ?_) | refine Pw.wrFDq (by first | exact FDq.up (by assumption) (by omega) | exact FDq.up0 (by assumption) (by decide)) (fun _ _ => ?_))
theorem fd_j_R_nameBlock_239 {X M : Sto} {v1 v2 : Int32} (h : FDq X M) : Pw (fun a => FDq X a.2) (j_R_nameBlock_239 v1 v2 M) := by
  unfold j_R_nameBlock_239
  repeat' (with_reducible first | exact Pw.none | exact Pw.some (by assumption) | refine Pw.ite (fun _ => ?_) (fun _ => ?_) | refine Pw.wrFDq (by first | exact FDq.up (by assumption) (by omega) | exact FDq.up0 (by assumption) (by decide)) (fun _ _ => ?_) | exact fd_j_R_nameBlock_271 (by assumption))
theorem fd_j_R_nameBlock_98 {X M : Sto} {v1 v2 : Int32} (h : FDq X M) : Pw (fun a => FDq X a.2) (j_R_nameBlock_98 v1 v2 M) := by
  unfold j_R_nameBlock_98
  repeat' (with_reducible first | exact Pw.none | exact Pw.some (by assumption) | refine Pw.ite (fun _ => ?_) (fun _ => ?_) | refine Pw.wrFDq (by first | exact FDq.up (by assumption) (by omega) | exact FDq.up0 (by assumption) (by decide)) (fun _ _ => ?_) | refine fd_l_R_nameBlock_100 (fun _ _ _ _ => ?_) _ _ _ _ _ (by assumption) | exact fd_j_R_nameBlock_239 (by assumption))
theorem fd_m_R_nameBlock {X M : Sto} {x1 : Int32} (h : FDq X M) : Pw (fun a => FDq X a.2) (m_R_nameBlock x1 M) := by
  unfold m_R_nameBlock
  repeat' (with_reducible first | exact Pw.none | exact Pw.some (by assumption) | refine Pw.ite (fun _ => ?_) (fun _ => ?_) | refine Pw.wrFDq (by first | exact FDq.up (by assumption) (by omega) | exact FDq.up0 (by assumption) (by decide)) (fun _ _ => ?_) | refine fd_l_R_nameBlock_7 (fun _ _ _ _ => ?_) _ _ _ _ _ (by assumption) | exact fd_j_R_nameBlock_98 (by assumption))
theorem fd_j_R_nameAll_97 {X M : Sto} {g : Int32 → Int32 → Int32 → Sto → Option (Int32 × Sto)} {k : Int32 → Sto → Option (Int32 × Sto)} {v1 v2 v3 : Int32} (hg : ∀ y0 y1 y2 M, FDq X M → Pw (fun a => FDq X a.2) (g y0 y1 y2 M)) (hk : ∀ y0 M, FDq X M → Pw (fun a => FDq X a.2) (k y0 M)) (h : FDq X M) : Pw (fun a => FDq X a.2) (j_R_nameAll_97 g k v1 v2 v3 M) := by
  unfold j_R_nameAll_97
  repeat' (with_reducible first | exact Pw.none | exact Pw.some (by assumption) | refine Pw.ite (fun _ => ?_) (fun _ => ?_) | refine Pw.wrFDq (by first | exact FDq.up (by assumption) (by omega) | exact FDq.up0 (by assumption) (by decide)) (fun _ _ => ?_) | exact hg _ _ _ _ (by assumption) | exact hk _ _ (by assumption))
theorem fd_l_R_nameAll_62 {X : Sto} {k : Int32 → Sto → Option (Int32 × Sto)} (hk : ∀ y0 M, FDq X M → Pw (fun a => FDq X a.2) (k y0 M)) : ∀ n y0 y1 y2 M, FDq X M → Pw (fun a => FDq X a.2) (l_R_nameAll_62 k n y0 y1 y2 M) := by
  intro n
  induction n with
  | zero => intro y0 y1 y2 M _; exact Pw.none
  | succ n ih =>
    intro y0 y1 y2 M h
    unfold l_R_nameAll_62
    repeat' (with_reducible first | exact Pw.none | exact Pw.some (by assumption) | refine Pw.ite (fun _ => ?_) (fun _ => ?_) | refine Pw.wrFDq (by first | exact FDq.up (by assumption) (by omega) | exact FDq.up0 (by assumption) (by decide)) (fun _ _ => ?_) | refine Pw.bind (fd_m_R_has (by assumption)) (fun _ _ => ?_) | exact fd_m_R_has (by assumption) | exact fd_j_R_nameAll_97 (by assumption) (by assumption) (by assumption) | exact ih _ _ _ _ (by assumption) | exact hk _ _ (by assumption))
theorem fd_j_R_nameAll_103 {X M : Sto} {g : Int32 → Sto → Option (Int32 × Sto)} {k : Sto → Option (Int32 × Sto)} {v1 : Int32} (hg : ∀ y0 M, FDq X M → Pw (fun a => FDq X a.2) (g y0 M)) (hk : ∀  M, FDq X M → Pw (fun a => FDq X a.2) (k  M)) (h : FDq X M) : Pw (fun a => FDq X a.2) (j_R_nameAll_103 g k v1 M) := by
  unfold j_R_nameAll_103
  repeat' (with_reducible first | exact Pw.none | exact Pw.some (by assumption) | refine Pw.ite (fun _ => ?_) (fun _ => ?_) | refine Pw.wrFDq (by first | exact FDq.up (by assumption) (by omega) | exact FDq.up0 (by assumption) (by decide)) (fun _ _ => ?_) | exact hg _ _ (by assumption) | exact hk _ (by assumption))
theorem fd_l_R_nameAll_36 {X : Sto} {k : Sto → Option (Int32 × Sto)} (hk : ∀  M, FDq X M → Pw (fun a => FDq X a.2) (k  M)) : ∀ n y0 M, FDq X M → Pw (fun a => FDq X a.2) (l_R_nameAll_36 k n y0 M) := by
  intro n
  induction n with
  | zero => intro y0 M _; exact Pw.none
  | succ n ih =>
    intro y0 M h
    unfold l_R_nameAll_36
    repeat' (with_reducible first | exact Pw.none | exact Pw.some (by assumption) | refine Pw.ite (fun _ => ?_) (fun _ => ?_) | refine Pw.wrFDq (by first | exact FDq.up (by assumption) (by omega) | exact FDq.up0 (by assumption) (by decide)) (fun _ _ => ?_) | refine Pw.bind (fd_m_R_nameBlock (by assumption)) (fun _ _ => ?_) | exact fd_m_R_nameBlock (by assumption) | refine fd_l_R_nameAll_62 (fun _ _ _ => ?_) _ _ _ _ _ (by assumption) | exact fd_j_R_nameAll_103 (by assumption) (by assumption) (by assumption) | exact ih _ _ (by assumption) | exact hk _ (by assumption))
theorem fd_j_R_nameAll_106 {X M : Sto} (h : FDq X M) : Pw (fun a => FDq X a.2) (j_R_nameAll_106  M) := by
  unfold j_R_nameAll_106
  repeat' (with_reducible first | exact Pw.none | exact Pw.some (by assumption) | refine Pw.ite (fun _ => ?_) (fun _ => ?_) | refine Pw.wrFDq (by first | exact FDq.up (by assumption) (by omega) | exact FDq.up0 (by assumption) (by decide)) (fun _ _ => ?_))
theorem fd_j_R_nameAll_27 {X M : Sto} (h : FDq X M) : Pw (fun a => FDq X a.2) (j_R_nameAll_27  M) := by
  unfold j_R_nameAll_27
  repeat' (with_reducible first | exact Pw.none | exact Pw.some (by assumption) | refine Pw.ite (fun _ => ?_) (fun _ => ?_) | refine Pw.wrFDq (by first | exact FDq.up (by assumption) (by omega) | exact FDq.up0 (by assumption) (by decide)) (fun _ _ => ?_) | refine fd_l_R_nameAll_36 (fun _ _ => ?_) _ _ _ (by assumption) | exact fd_j_R_nameAll_106 (by assumption))
theorem fd_m_R_nameAll {X M : Sto} (h : FDq X M) : Pw (fun a => FDq X a.2) (m_R_nameAll  M) := by
  unfold m_R_nameAll
  repeat' (with_reducible first | exact Pw.none | exact Pw.some (by assumption) | refine Pw.ite (fun _ => ?_) (fun _ => ?_) | refine Pw.wrFDq (by first | exact FDq.up (by assumption) (by omega) | exact FDq.up0 (by assumption) (by decide)) (fun _ _ => ?_) | refine fd_l_R_nameAll_8 (fun _ _ => ?_) _ _ _ (by assumption) | exact fd_j_R_nameAll_27 (by assumption))
theorem fd_l_R_findKnown_7 {X : Sto} {k : Sto → Option (Int32 × Sto)} (hk : ∀  M, FDq X M → Pw (fun a => FDq X a.2) (k  M)) : ∀ n y0 M, FDq X M → Pw (fun a => FDq X a.2) (l_R_findKnown_7 k n y0 M) := by
  intro n
  induction n with
  | zero => intro y0 M _; exact Pw.none
  | succ n ih =>
    intro y0 M h
    unfold l_R_findKnown_7
    repeat' (with_reducible first | exact Pw.none | exact Pw.some (by assumption) | refine Pw.ite (fun _ => ?_) (fun _ => ?_) | refine Pw.wrFDq (by first | exact FDq.up (by assumption) (by omega) | exact FDq.up0 (by assumption) (by decide)) (fun _ _ => ?_) | exact ih _ _ (by assumption) | exact hk _ (by assumption))
theorem fd_j_R_findKnown_51 {X M : Sto} {g : Int32 → Sto → Option (Int32 × Sto)} {k : Sto → Option (Int32 × Sto)} {s0 s1 v1 : Int32} (hg : ∀ y0 M, FDq X M → Pw (fun a => FDq X a.2) (g y0 M)) (hk : ∀  M, FDq X M → Pw (fun a => FDq X a.2) (k  M)) (h : FDq X M) : Pw (fun a => FDq X a.2) (j_R_findKnown_51 g k s0 s1 v1 M) := by
  unfold j_R_findKnown_51
  repeat' (with_reducible first | exact Pw.none | exact Pw.some (by assumption) | refine Pw.ite (fun _ => ?_) (fun _ => ?_) | refine Pw.wrFDq (by first | exact FDq.up (by assumption) (by omega) | exact FDq.up0 (by assumption) (by decide)) (fun _ _ => ?_) | exact hg _ _ (by assumption) | exact hk _ (by assumption))
theorem fd_l_R_findKnown_28 {X : Sto} {k : Sto → Option (Int32 × Sto)} (hk : ∀  M, FDq X M → Pw (fun a => FDq X a.2) (k  M)) : ∀ n y0 M, FDq X M → Pw (fun a => FDq X a.2) (l_R_findKnown_28 k n y0 M) := by
  intro n
  induction n with
  | zero => intro y0 M _; exact Pw.none
  | succ n ih =>
    intro y0 M h
    unfold l_R_findKnown_28
    repeat' (with_reducible first | exact Pw.none | exact Pw.some (by assumption) | refine Pw.ite (fun _ => ?_) (fun _ => ?_) | refine Pw.wrFDq (by first | exact FDq.up (by assumption) (by omega) | exact FDq.up0 (by assumption) (by decide)) (fun _ _ => ?_) | exact fd_j_R_findKnown_51 (by assumption) (by assumption) (by assumption) | exact ih _ _ (by assumption) | exact hk _ (by assumption))
theorem fd_j_R_pass_167 {X M : Sto} {g : Int32 → Int32 → Sto → Option (Int32 × Sto)} {k : Int32 → Sto → Option (Int32 × Sto)} {v1 v2 : Int32} (hg : ∀ y0 y1 M, FDq X M → Pw (fun a => FDq X a.2) (g y0 y1 M)) (hk : ∀ y0 M, FDq X M → Pw (fun a => FDq X a.2) (k y0 M)) (h : FDq X M) : Pw (fun a => FDq X a.2) (j_R_pass_167 g k v1 v2 M) := by
  unfold j_R_pass_167
  repeat' (with_reducible first | exact Pw.none | exact Pw.some (by assumption) | refine Pw.ite (fun _ => ?_) (fun _ => ?_) | refine Pw.wrFDq (by first | exact FDq.up (by assumption) (by omega) | exact FDq.up0 (by assumption) (by decide)) (fun _ _ => ?_) | exact hg _ _ _ (by assumption) | exact hk _ _ (by assumption))
theorem fd_j_R_pass_69 {X M : Sto} {g : Int32 → Int32 → Int32 → Sto → Option (Int32 × Sto)} {k : Int32 → Int32 → Sto → Option (Int32 × Sto)} {v1 v2 v3 : Int32} (hg : ∀ y0 y1 y2 M, FDq X M → Pw (fun a => FDq X a.2) (g y0 y1 y2 M)) (hk : ∀ y0 y1 M, FDq X M → Pw (fun a => FDq X a.2) (k y0 y1 M)) (h : FDq X M) : Pw (fun a => FDq X a.2) (j_R_pass_69 g k v1 v2 v3 M) := by
  unfold j_R_pass_69
  repeat' (with_reducible first | exact Pw.none | exact Pw.some (by assumption) | refine Pw.ite (fun _ => ?_) (fun _ => ?_) | refine Pw.wrFDq (by first | exact FDq.up (by assumption) (by omega) | exact FDq.up0 (by assumption) (by decide)) (fun _ _ => ?_) | exact hg _ _ _ _ (by assumption) | exact hk _ _ _ (by assumption))
theorem fd_j_R_meet_149 {X M : Sto} {g : Int32 → Int32 → Int32 → Int32 → Int32 → Int32 → Sto → Option (Int32 × Sto)} {k : Int32 → Int32 → Int32 → Sto → Option (Int32 × Sto)} {v1 v2 v3 v4 v5 v6 : Int32} (hg : ∀ y0 y1 y2 y3 y4 y5 M, FDq X M → Pw (fun a => FDq X a.2) (g y0 y1 y2 y3 y4 y5 M)) (hk : ∀ y0 y1 y2 M, FDq X M → Pw (fun a => FDq X a.2) (k y0 y1 y2 M)) (h : FDq X M) : Pw (fun a => FDq X a.2) (j_R_meet_149 g k v1 v2 v3 v4 v5 v6 M) := by
  unfold j_R_meet_149
  repeat' (with_reducible first | exact Pw.none | exact Pw.some (by assumption) | refine Pw.ite (fun _ => ?_) (fun _ => ?_) | refine Pw.wrFDq (by first | exact FDq.up (by assumption) (by omega) | exact FDq.up0 (by assumption) (by decide)) (fun _ _ => ?_) | exact hg _ _ _ _ _ _ _ (by assumption) | exact hk _ _ _ _ (by assumption))
theorem fd_j_R_meet_115 {X M : Sto} {g : Int32 → Int32 → Int32 → Int32 → Int32 → Int32 → Sto → Option (Int32 × Sto)} {k : Int32 → Int32 → Int32 → Sto → Option (Int32 × Sto)} {v1 v2 v3 v5 v6 : Int32} (hg : ∀ y0 y1 y2 y3 y4 y5 M, FDq X M → Pw (fun a => FDq X a.2) (g y0 y1 y2 y3 y4 y5 M)) (hk : ∀ y0 y1 y2 M, FDq X M → Pw (fun a => FDq X a.2) (k y0 y1 y2 M)) (h : FDq X M) : Pw (fun a => FDq X a.2) (j_R_meet_115 g k v1 v2 v3 v5 v6 M) := by
  unfold j_R_meet_115
  repeat' (with_reducible first | exact Pw.none | exact Pw.some (by assumption) | refine Pw.ite (fun _ => ?_) (fun _ => ?_) | refine Pw.wrFDq (by first | exact FDq.up (by assumption) (by omega) | exact FDq.up0 (by assumption) (by decide)) (fun _ _ => ?_) | exact fd_j_R_meet_149 (by assumption) (by assumption) (by assumption) | exact hg _ _ _ _ _ _ _ (by assumption) | exact hk _ _ _ _ (by assumption))
theorem fd_j_R_meet_121 {X M : Sto} {g : Int32 → Int32 → Int32 → Int32 → Int32 → Int32 → Sto → Option (Int32 × Sto)} {k : Int32 → Int32 → Int32 → Sto → Option (Int32 × Sto)} {v1 v2 v3 v4 v5 v6 v7 : Int32} (hg : ∀ y0 y1 y2 y3 y4 y5 M, FDq X M → Pw (fun a => FDq X a.2) (g y0 y1 y2 y3 y4 y5 M)) (hk : ∀ y0 y1 y2 M, FDq X M → Pw (fun a => FDq X a.2) (k y0 y1 y2 M)) (h : FDq X M) : Pw (fun a => FDq X a.2) (j_R_meet_121 g k v1 v2 v3 v4 v5 v6 v7 M) := by
  unfold j_R_meet_121
  repeat' (with_reducible first | exact Pw.none | exact Pw.some (by assumption) | refine Pw.ite (fun _ => ?_) (fun _ => ?_) | refine Pw.wrFDq (by first | exact FDq.up (by assumption) (by omega) | exact FDq.up0 (by assumption) (by decide)) (fun _ _ => ?_) | exact fd_j_R_meet_149 (by assumption) (by assumption) (by assumption) | exact hg _ _ _ _ _ _ _ (by assumption) | exact hk _ _ _ _ (by assumption))
theorem fd_l_R_meet_9 {X : Sto} {k : Int32 → Int32 → Int32 → Sto → Option (Int32 × Sto)} (hk : ∀ y0 y1 y2 M, FDq X M → Pw (fun a => FDq X a.2) (k y0 y1 y2 M)) : ∀ n y0 y1 y2 y3 y4 y5 M, FDq X M → Pw (fun a => FDq X a.2) (l_R_meet_9 k n y0 y1 y2 y3 y4 y5 M) := by
  intro n
  induction n with
  | zero => intro y0 y1 y2 y3 y4 y5 M _; exact Pw.none
  | succ n ih =>
    intro y0 y1 y2 y3 y4 y5 M h
    unfold l_R_meet_9
    repeat' (with_reducible first | exact Pw.none | exact Pw.some (by assumption) | refine Pw.ite (fun _ => ?_) (fun _ => ?_) | refine Pw.wrFDq (by first | exact FDq.up (by assumption) (by omega) | exact FDq.up0 (by assumption) (by decide)) (fun _ _ => ?_) | refine Pw.bind (fd_m_R_has (by assumption)) (fun _ _ => ?_) | exact fd_m_R_has (by assumption) | exact fd_j_R_meet_149 (by assumption) (by assumption) (by assumption) | exact fd_j_R_meet_115 (by assumption) (by assumption) (by assumption) | exact fd_j_R_meet_121 (by assumption) (by assumption) (by assumption) | exact ih _ _ _ _ _ _ _ (by assumption) | exact hk _ _ _ _ (by assumption))
theorem fd_j_R_becomes_54 {X M : Sto} {s0 s1 v4 : Int32} (h : FDq X M) : Pw (fun a => FDq X a.2) (j_R_becomes_54 s0 s1 v4 M) := by
  unfold j_R_becomes_54
  repeat' (with_reducible first | exact Pw.none | exact Pw.some (by assumption) | refine Pw.ite (fun _ => ?_) (fun _ => ?_) | refine Pw.wrFDq (by first | exact FDq.up (by assumption) (by omega) | exact FDq.up0 (by assumption) (by decide)) (fun _ _ => ?_))
theorem fd_j_R_becomes_30 {X M : Sto} {s0 v1 v2 v3 : Int32} (h : FDq X M) : Pw (fun a => FDq X a.2) (j_R_becomes_30 s0 v1 v2 v3 M) := by
  unfold j_R_becomes_30
  repeat' (with_reducible first | exact Pw.none | exact Pw.some (by assumption) | refine Pw.ite (fun _ => ?_) (fun _ => ?_) | refine Pw.wrFDq (by first | exact FDq.up (by assumption) (by omega) | exact FDq.up0 (by assumption) (by decide)) (fun _ _ => ?_) | exact fd_j_R_becomes_54 (by assumption))
theorem fd_j_R_becomes_29 {X M : Sto} {v1 v2 v3 : Int32} (h : FDq X M) : Pw (fun a => FDq X a.2) (j_R_becomes_29 v1 v2 v3 M) := by
  unfold j_R_becomes_29
  repeat' (with_reducible first | exact Pw.none | exact Pw.some (by assumption) | refine Pw.ite (fun _ => ?_) (fun _ => ?_) | refine Pw.wrFDq (by first | exact FDq.up (by assumption) (by omega) | exact FDq.up0 (by assumption) (by decide)) (fun _ _ => ?_) | exact fd_j_R_becomes_30 (by assumption))
theorem fd_j_R_becomes_25 {X M : Sto} {v1 v2 v3 : Int32} (h : FDq X M) : Pw (fun a => FDq X a.2) (j_R_becomes_25 v1 v2 v3 M) := by
  unfold j_R_becomes_25
  repeat' (with_reducible first | exact Pw.none | exact Pw.some (by assumption) | refine Pw.ite (fun _ => ?_) (fun _ => ?_) | refine Pw.wrFDq (by first | exact FDq.up (by assumption) (by omega) | exact FDq.up0 (by assumption) (by decide)) (fun _ _ => ?_) | exact fd_j_R_becomes_30 (by assumption))
theorem fd_m_R_becomes {X M : Sto} {x1 x2 x3 : Int32} (h : FDq X M) : Pw (fun a => FDq X a.2) (m_R_becomes x1 x2 x3 M) := by
  unfold m_R_becomes
  repeat' (with_reducible first | exact Pw.none | exact Pw.some (by assumption) | refine Pw.ite (fun _ => ?_) (fun _ => ?_) | refine Pw.wrFDq (by first | exact FDq.up (by assumption) (by omega) | exact FDq.up0 (by assumption) (by decide)) (fun _ _ => ?_) | exact fd_j_R_becomes_29 (by assumption) | exact fd_j_R_becomes_25 (by assumption))
theorem fd_j_R_meet_155 {X M : Sto} {v1 v4 v5 : Int32} (h : FDq X M) : Pw (fun a => FDq X a.2) (j_R_meet_155 v1 v4 v5 M) := by
  unfold j_R_meet_155
  repeat' (with_reducible first | exact Pw.none | exact Pw.some (by assumption) | refine Pw.ite (fun _ => ?_) (fun _ => ?_) | refine Pw.wrFDq (by first | exact FDq.up (by assumption) (by omega) | exact FDq.up0 (by assumption) (by decide)) (fun _ _ => ?_) | refine Pw.bind (fd_m_R_becomes (by assumption)) (fun _ _ => ?_) | exact fd_m_R_becomes (by assumption))
theorem fd_m_R_meet {X M : Sto} {x1 x2 x3 : Int32} (h : FDq X M) : Pw (fun a => FDq X a.2) (m_R_meet x1 x2 x3 M) := by
  unfold m_R_meet
  repeat' (with_reducible first | exact Pw.none | exact Pw.some (by assumption) | refine Pw.ite (fun _ => ?_) (fun _ => ?_) | refine Pw.wrFDq (by first | exact FDq.up (by assumption) (by omega) | exact FDq.up0 (by assumption) (by decide)) (fun _ _ => ?_) | refine fd_l_R_meet_9 (fun _ _ _ _ _ => ?_) _ _ _ _ _ _ _ _ (by assumption) | exact fd_j_R_meet_155 (by assumption))
theorem fd_l_R_pass_28 {X : Sto} {k : Int32 → Int32 → Sto → Option (Int32 × Sto)} (hk : ∀ y0 y1 M, FDq X M → Pw (fun a => FDq X a.2) (k y0 y1 M)) : ∀ n y0 y1 y2 M, FDq X M → Pw (fun a => FDq X a.2) (l_R_pass_28 k n y0 y1 y2 M) := by
  intro n
  induction n with
  | zero => intro y0 y1 y2 M _; exact Pw.none
  | succ n ih =>
    intro y0 y1 y2 M h
    unfold l_R_pass_28
    repeat' (with_reducible first | exact Pw.none | exact Pw.some (by assumption) | refine Pw.ite (fun _ => ?_) (fun _ => ?_) | refine Pw.wrFDq (by first | exact FDq.up (by assumption) (by omega) | exact FDq.up0 (by assumption) (by decide)) (fun _ _ => ?_) | refine Pw.bind (fd_m_R_has (by assumption)) (fun _ _ => ?_) | exact fd_m_R_has (by assumption) | exact fd_j_R_pass_69 (by assumption) (by assumption) (by assumption) | refine Pw.bind (fd_m_R_meet (by assumption)) (fun _ _ => ?_) | exact fd_m_R_meet (by assumption) | exact ih _ _ _ _ (by assumption) | exact hk _ _ _ (by assumption))
theorem fd_j_R_knows_114 {X M : Sto} {v2 : Int32} (h : FDq X M) : Pw (fun a => FDq X a.2) (j_R_knows_114 v2 M) := by
  unfold j_R_knows_114
  repeat' (with_reducible first | exact Pw.none | exact Pw.some (by assumption) | refine Pw.ite (fun _ => ?_) (fun _ => ?_) | refine Pw.wrFDq (by first | exact FDq.up (by assumption) (by omega) | exact FDq.up0 (by assumption) (by decide)) (fun _ _ => ?_) | refine Pw.bind (fd_m_R_becomes (by assumption)) (fun _ _ => ?_) | exact fd_m_R_becomes (by assumption))
theorem fd_j_R_reckon_50 {X M : Sto} {s0 : Int32} (h : FDq X M) : Pw (fun a => FDq X a.2) (j_R_reckon_50 s0 M) := by
  unfold j_R_reckon_50
  repeat' (with_reducible first | exact Pw.none | exact Pw.some (by assumption) | refine Pw.ite (fun _ => ?_) (fun _ => ?_) | refine Pw.wrFDq (by first | exact FDq.up (by assumption) (by omega) | exact FDq.up0 (by assumption) (by decide)) (fun _ _ => ?_))
theorem fd_m_R_reckon {X M : Sto} {x1 x2 x3 : Int32} (h : FDq X M) : Pw (fun a => FDq X a.2) (m_R_reckon x1 x2 x3 M) := by
  unfold m_R_reckon
  repeat' (with_reducible first | exact Pw.none | exact Pw.some (by assumption) | refine Pw.ite (fun _ => ?_) (fun _ => ?_) | refine Pw.wrFDq (by first | exact FDq.up (by assumption) (by omega) | exact FDq.up0 (by assumption) (by decide)) (fun _ _ => ?_) | exact fd_j_R_reckon_50 (by assumption))
theorem fd_j_R_knows_177 {X M : Sto} {s0 : Int32} (h : FDq X M) : Pw (fun a => FDq X a.2) (j_R_knows_177 s0 M) := by
  unfold j_R_knows_177
  repeat' (with_reducible first | exact Pw.none | exact Pw.some (by assumption) | refine Pw.ite (fun _ => ?_) (fun _ => ?_) | refine Pw.wrFDq (by first | exact FDq.up (by assumption) (by omega) | exact FDq.up0 (by assumption) (by decide)) (fun _ _ => ?_))
theorem fd_j_R_knows_176 {X M : Sto} (h : FDq X M) : Pw (fun a => FDq X a.2) (j_R_knows_176  M) := by
  unfold j_R_knows_176
  repeat' (with_reducible first | exact Pw.none | exact Pw.some (by assumption) | refine Pw.ite (fun _ => ?_) (fun _ => ?_) | refine Pw.wrFDq (by first | exact FDq.up (by assumption) (by omega) | exact FDq.up0 (by assumption) (by decide)) (fun _ _ => ?_) | exact fd_j_R_knows_177 (by assumption))
theorem fd_m_R_knows {X M : Sto} {x1 : Int32} (h : FDq X M) : Pw (fun a => FDq X a.2) (m_R_knows x1 M) := by
  unfold m_R_knows
  repeat' (with_reducible first | exact Pw.none | exact Pw.some (by assumption) | refine Pw.ite (fun _ => ?_) (fun _ => ?_) | refine Pw.wrFDq (by first | exact FDq.up (by assumption) (by omega) | exact FDq.up0 (by assumption) (by decide)) (fun _ _ => ?_) | refine Pw.bind (fd_m_R_becomes (by assumption)) (fun _ _ => ?_) | exact fd_m_R_becomes (by assumption) | exact fd_j_R_knows_114 (by assumption) | refine Pw.bind (fd_m_R_reckon (by assumption)) (fun _ _ => ?_) | exact fd_m_R_reckon (by assumption) | exact fd_j_R_knows_176 (by assumption) | exact fd_j_R_knows_177 (by assumption))
theorem fd_j_R_pass_105 {X M : Sto} {g : Int32 → Int32 → Int32 → Sto → Option (Int32 × Sto)} {k : Int32 → Int32 → Sto → Option (Int32 × Sto)} {v1 v2 v3 : Int32} (hg : ∀ y0 y1 y2 M, FDq X M → Pw (fun a => FDq X a.2) (g y0 y1 y2 M)) (hk : ∀ y0 y1 M, FDq X M → Pw (fun a => FDq X a.2) (k y0 y1 M)) (h : FDq X M) : Pw (fun a => FDq X a.2) (j_R_pass_105 g k v1 v2 v3 M) := by
  unfold j_R_pass_105
  repeat' (with_reducible first | exact Pw.none | exact Pw.some (by assumption) | refine Pw.ite (fun _ => ?_) (fun _ => ?_) | refine Pw.wrFDq (by first | exact FDq.up (by assumption) (by omega) | exact FDq.up0 (by assumption) (by decide)) (fun _ _ => ?_) | exact hg _ _ _ _ (by assumption) | exact hk _ _ _ (by assumption))
theorem fd_l_R_pass_80 {X : Sto} {k : Int32 → Int32 → Sto → Option (Int32 × Sto)} (hk : ∀ y0 y1 M, FDq X M → Pw (fun a => FDq X a.2) (k y0 y1 M)) : ∀ n y0 y1 y2 M, FDq X M → Pw (fun a => FDq X a.2) (l_R_pass_80 k n y0 y1 y2 M) := by
  intro n
  induction n with
  | zero => intro y0 y1 y2 M _; exact Pw.none
  | succ n ih =>
    intro y0 y1 y2 M h
    unfold l_R_pass_80
    repeat' (with_reducible first | exact Pw.none | exact Pw.some (by assumption) | refine Pw.ite (fun _ => ?_) (fun _ => ?_) | refine Pw.wrFDq (by first | exact FDq.up (by assumption) (by omega) | exact FDq.up0 (by assumption) (by decide)) (fun _ _ => ?_) | refine Pw.bind (fd_m_R_knows (by assumption)) (fun _ _ => ?_) | exact fd_m_R_knows (by assumption) | exact fd_j_R_pass_105 (by assumption) (by assumption) (by assumption) | exact ih _ _ _ _ (by assumption) | exact hk _ _ _ (by assumption))
theorem fd_j_R_ways_78 {X M : Sto} {s0 : Int32} (h : FDq X M) : Pw (fun a => FDq X a.2) (j_R_ways_78 s0 M) := by
  unfold j_R_ways_78
  repeat' (with_reducible first | exact Pw.none | exact Pw.some (by assumption) | refine Pw.ite (fun _ => ?_) (fun _ => ?_) | refine Pw.wrFDq (by first | exact FDq.up (by assumption) (by omega) | exact FDq.up0 (by assumption) (by decide)) (fun _ _ => ?_))
theorem fd_j_R_ways_77 {X M : Sto} {s0 s1 : Int32} (h : FDq X M) : Pw (fun a => FDq X a.2) (j_R_ways_77 s0 s1 M) := by
  unfold j_R_ways_77
  repeat' (with_reducible first | exact Pw.none | exact Pw.some (by assumption) | refine Pw.ite (fun _ => ?_) (fun _ => ?_) | refine Pw.wrFDq (by first | exact FDq.up (by assumption) (by omega) | exact FDq.up0 (by assumption) (by decide)) (fun _ _ => ?_) | exact fd_j_R_ways_78 (by assumption))
theorem fd_m_R_ways {X M : Sto} {x1 : Int32} (h : FDq X M) : Pw (fun a => FDq X a.2) (m_R_ways x1 M) := by
  unfold m_R_ways
  repeat' (with_reducible first | exact Pw.none | exact Pw.some (by assumption) | refine Pw.ite (fun _ => ?_) (fun _ => ?_) | refine Pw.wrFDq (by first | exact FDq.up (by assumption) (by omega) | exact FDq.up0 (by assumption) (by decide)) (fun _ _ => ?_) | refine Pw.bind (fd_m_R_leadsTo (by assumption)) (fun _ _ => ?_) | exact fd_m_R_leadsTo (by assumption) | exact fd_j_R_ways_78 (by assumption) | exact fd_j_R_ways_77 (by assumption))
theorem fd_j_R_pass_149 {X M : Sto} {g : Int32 → Int32 → Sto → Option (Int32 × Sto)} {k : Int32 → Sto → Option (Int32 × Sto)} {s0 v2 v3 : Int32} (hg : ∀ y0 y1 M, FDq X M → Pw (fun a => FDq X a.2) (g y0 y1 M)) (hk : ∀ y0 M, FDq X M → Pw (fun a => FDq X a.2) (k y0 M)) (h : FDq X M) : Pw (fun a => FDq X a.2) (j_R_pass_149 g k s0 v2 v3 M) := by
  unfold j_R_pass_149
  repeat' (with_reducible first | exact Pw.none | exact Pw.some (by assumption) | refine Pw.ite (fun _ => ?_) (fun _ => ?_) | refine Pw.wrFDq (by first | exact FDq.up (by assumption) (by omega) | exact FDq.up0 (by assumption) (by decide)) (fun _ _ => ?_) | exact fd_j_R_pass_167 (by assumption) (by assumption) (by assumption) | exact hg _ _ _ (by assumption) | exact hk _ _ (by assumption))
theorem fd_j_R_pass_144 {X M : Sto} {g : Int32 → Int32 → Sto → Option (Int32 × Sto)} {k : Int32 → Sto → Option (Int32 × Sto)} {v2 v3 : Int32} (hg : ∀ y0 y1 M, FDq X M → Pw (fun a => FDq X a.2) (g y0 y1 M)) (hk : ∀ y0 M, FDq X M → Pw (fun a => FDq X a.2) (k y0 M)) (h : FDq X M) : Pw (fun a => FDq X a.2) (j_R_pass_144 g k v2 v3 M) := by
  unfold j_R_pass_144
  repeat' (with_reducible first | exact Pw.none | exact Pw.some (by assumption) | refine Pw.ite (fun _ => ?_) (fun _ => ?_) | refine Pw.wrFDq (by first | exact FDq.up (by assumption) (by omega) | exact FDq.up0 (by assumption) (by decide)) (fun _ _ => ?_) | exact fd_j_R_pass_149 (by assumption) (by assumption) (by assumption) | exact hg _ _ _ (by assumption) | exact hk _ _ (by assumption))
theorem fd_j_R_pass_111 {X M : Sto} {g : Int32 → Int32 → Sto → Option (Int32 × Sto)} {k : Int32 → Sto → Option (Int32 × Sto)} {v1 v2 : Int32} (hg : ∀ y0 y1 M, FDq X M → Pw (fun a => FDq X a.2) (g y0 y1 M)) (hk : ∀ y0 M, FDq X M → Pw (fun a => FDq X a.2) (k y0 M)) (h : FDq X M) : Pw (fun a => FDq X a.2) (j_R_pass_111 g k v1 v2 M) := by
  unfold j_R_pass_111
  repeat' (with_reducible first | exact Pw.none | exact Pw.some (by assumption) | refine Pw.ite (fun _ => ?_) (fun _ => ?_) | refine Pw.wrFDq (by first | exact FDq.up (by assumption) (by omega) | exact FDq.up0 (by assumption) (by decide)) (fun _ _ => ?_) | refine Pw.bind (fd_m_R_ways (by assumption)) (fun _ _ => ?_) | exact fd_m_R_ways (by assumption) | exact fd_j_R_pass_149 (by assumption) (by assumption) (by assumption) | exact fd_j_R_pass_144 (by assumption) (by assumption) (by assumption) | exact hg _ _ _ (by assumption) | exact hk _ _ (by assumption))
theorem fd_j_R_pass_75 {X M : Sto} {g : Int32 → Int32 → Sto → Option (Int32 × Sto)} {k : Int32 → Sto → Option (Int32 × Sto)} {v1 v2 : Int32} (hg : ∀ y0 y1 M, FDq X M → Pw (fun a => FDq X a.2) (g y0 y1 M)) (hk : ∀ y0 M, FDq X M → Pw (fun a => FDq X a.2) (k y0 M)) (h : FDq X M) : Pw (fun a => FDq X a.2) (j_R_pass_75 g k v1 v2 M) := by
  unfold j_R_pass_75
  repeat' (with_reducible first | exact Pw.none | exact Pw.some (by assumption) | refine Pw.ite (fun _ => ?_) (fun _ => ?_) | refine Pw.wrFDq (by first | exact FDq.up (by assumption) (by omega) | exact FDq.up0 (by assumption) (by decide)) (fun _ _ => ?_) | refine fd_l_R_pass_80 (fun _ _ _ _ => ?_) _ _ _ _ _ (by assumption) | exact fd_j_R_pass_111 (by assumption) (by assumption) (by assumption) | exact hg _ _ _ (by assumption) | exact hk _ _ (by assumption))
theorem fd_l_R_pass_4 {X : Sto} {k : Int32 → Sto → Option (Int32 × Sto)} (hk : ∀ y0 M, FDq X M → Pw (fun a => FDq X a.2) (k y0 M)) : ∀ n y0 y1 M, FDq X M → Pw (fun a => FDq X a.2) (l_R_pass_4 k n y0 y1 M) := by
  intro n
  induction n with
  | zero => intro y0 y1 M _; exact Pw.none
  | succ n ih =>
    intro y0 y1 M h
    unfold l_R_pass_4
    repeat' (with_reducible first | exact Pw.none | exact Pw.some (by assumption) | refine Pw.ite (fun _ => ?_) (fun _ => ?_) | refine Pw.wrFDq (by first | exact FDq.up (by assumption) (by omega) | exact FDq.up0 (by assumption) (by decide)) (fun _ _ => ?_) | refine Pw.bind (fd_m_R_has (by assumption)) (fun _ _ => ?_) | exact fd_m_R_has (by assumption) | exact fd_j_R_pass_167 (by assumption) (by assumption) (by assumption) | refine fd_l_R_pass_28 (fun _ _ _ _ => ?_) _ _ _ _ _ (by assumption) | exact fd_j_R_pass_75 (by assumption) (by assumption) (by assumption) | exact ih _ _ _ (by assumption) | exact hk _ _ (by assumption))
theorem fd_j_R_pass_173 {X M : Sto} {v1 : Int32} (h : FDq X M) : Pw (fun a => FDq X a.2) (j_R_pass_173 v1 M) := by
  unfold j_R_pass_173
  repeat' (with_reducible first | exact Pw.none | exact Pw.some (by assumption) | refine Pw.ite (fun _ => ?_) (fun _ => ?_) | refine Pw.wrFDq (by first | exact FDq.up (by assumption) (by omega) | exact FDq.up0 (by assumption) (by decide)) (fun _ _ => ?_))
theorem fd_m_R_pass {X M : Sto} (h : FDq X M) : Pw (fun a => FDq X a.2) (m_R_pass  M) := by
  unfold m_R_pass
  repeat' (with_reducible first | exact Pw.none | exact Pw.some (by assumption) | refine Pw.ite (fun _ => ?_) (fun _ => ?_) | refine Pw.wrFDq (by first | exact FDq.up (by assumption) (by omega) | exact FDq.up0 (by assumption) (by decide)) (fun _ _ => ?_) | refine fd_l_R_pass_4 (fun _ _ _ => ?_) _ _ _ _ (by assumption) | exact fd_j_R_pass_173 (by assumption))
theorem fd_l_R_findKnown_74 {X : Sto} {k : Sto → Option (Int32 × Sto)} (hk : ∀  M, FDq X M → Pw (fun a => FDq X a.2) (k  M)) : ∀ n y0 M, FDq X M → Pw (fun a => FDq X a.2) (l_R_findKnown_74 k n y0 M) := by
  intro n
  induction n with
  | zero => intro y0 M _; exact Pw.none
  | succ n ih =>
    intro y0 M h
    unfold l_R_findKnown_74
    repeat' (with_reducible first | exact Pw.none | exact Pw.some (by assumption) | refine Pw.ite (fun _ => ?_) (fun _ => ?_) | refine Pw.wrFDq (by first | exact FDq.up (by assumption) (by omega) | exact FDq.up0 (by assumption) (by decide)) (fun _ _ => ?_) | refine Pw.bind (fd_m_R_pass (by assumption)) (fun _ _ => ?_) | exact fd_m_R_pass (by assumption) | exact ih _ _ (by assumption) | exact hk _ (by assumption))
theorem fd_j_R_findKnown_86 {X M : Sto} (h : FDq X M) : Pw (fun a => FDq X a.2) (j_R_findKnown_86  M) := by
  unfold j_R_findKnown_86
  repeat' (with_reducible first | exact Pw.none | exact Pw.some (by assumption) | refine Pw.ite (fun _ => ?_) (fun _ => ?_) | refine Pw.wrFDq (by first | exact FDq.up (by assumption) (by omega) | exact FDq.up0 (by assumption) (by decide)) (fun _ _ => ?_))
theorem fd_j_R_findKnown_72 {X M : Sto} (h : FDq X M) : Pw (fun a => FDq X a.2) (j_R_findKnown_72  M) := by
  unfold j_R_findKnown_72
  repeat' (with_reducible first | exact Pw.none | exact Pw.some (by assumption) | refine Pw.ite (fun _ => ?_) (fun _ => ?_) | refine Pw.wrFDq (by first | exact FDq.up (by assumption) (by omega) | exact FDq.up0 (by assumption) (by decide)) (fun _ _ => ?_) | refine fd_l_R_findKnown_74 (fun _ _ => ?_) _ _ _ (by assumption) | exact fd_j_R_findKnown_86 (by assumption))
theorem fd_j_R_findKnown_26 {X M : Sto} (h : FDq X M) : Pw (fun a => FDq X a.2) (j_R_findKnown_26  M) := by
  unfold j_R_findKnown_26
  repeat' (with_reducible first | exact Pw.none | exact Pw.some (by assumption) | refine Pw.ite (fun _ => ?_) (fun _ => ?_) | refine Pw.wrFDq (by first | exact FDq.up (by assumption) (by omega) | exact FDq.up0 (by assumption) (by decide)) (fun _ _ => ?_) | refine fd_l_R_findKnown_28 (fun _ _ => ?_) _ _ _ (by assumption) | exact fd_j_R_findKnown_72 (by assumption))
theorem fd_m_R_findKnown {X M : Sto} (h : FDq X M) : Pw (fun a => FDq X a.2) (m_R_findKnown  M) := by
  unfold m_R_findKnown
  repeat' (with_reducible first | exact Pw.none | exact Pw.some (by assumption) | refine Pw.ite (fun _ => ?_) (fun _ => ?_) | refine Pw.wrFDq (by first | exact FDq.up (by assumption) (by omega) | exact FDq.up0 (by assumption) (by decide)) (fun _ _ => ?_) | refine fd_l_R_findKnown_7 (fun _ _ => ?_) _ _ _ (by assumption) | exact fd_j_R_findKnown_26 (by assumption))
theorem fd_j_R_findNeeded_130 {X M : Sto} {g : Int32 → Sto → Option (Int32 × Sto)} {k : Sto → Option (Int32 × Sto)} {v1 : Int32} (hg : ∀ y0 M, FDq X M → Pw (fun a => FDq X a.2) (g y0 M)) (hk : ∀  M, FDq X M → Pw (fun a => FDq X a.2) (k  M)) (h : FDq X M) : Pw (fun a => FDq X a.2) (j_R_findNeeded_130 g k v1 M) := by
  unfold j_R_findNeeded_130
  repeat' (with_reducible first | exact Pw.none | exact Pw.some (by assumption) | refine Pw.ite (fun _ => ?_) (fun _ => ?_) | refine Pw.wrFDq (by first | exact FDq.up (by assumption) (by omega) | exact FDq.up0 (by assumption) (by decide)) (fun _ _ => ?_) | exact hg _ _ (by assumption) | exact hk _ (by assumption))
theorem fd_j_R_needs_30 {X M : Sto} {v2 : Int32} (h : FDq X M) : Pw (fun a => FDq X a.2) (j_R_needs_30 v2 M) := by
  unfold j_R_needs_30
  repeat' (with_reducible first | exact Pw.none | exact Pw.some (by assumption) | refine Pw.ite (fun _ => ?_) (fun _ => ?_) | refine Pw.wrFDq (by first | exact FDq.up (by assumption) (by omega) | exact FDq.up0 (by assumption) (by decide)) (fun _ _ => ?_))
theorem fd_j_R_needs_18 {X M : Sto} {s0 v1 : Int32} (h : FDq X M) : Pw (fun a => FDq X a.2) (j_R_needs_18 s0 v1 M) := by
  unfold j_R_needs_18
  repeat' (with_reducible first | exact Pw.none | exact Pw.some (by assumption) | refine Pw.ite (fun _ => ?_) (fun _ => ?_) | refine Pw.wrFDq (by first | exact FDq.up (by assumption) (by omega) | exact FDq.up0 (by assumption) (by decide)) (fun _ _ => ?_) | exact fd_j_R_needs_30 (by assumption))
theorem fd_j_R_needs_17 {X M : Sto} {v1 : Int32} (h : FDq X M) : Pw (fun a => FDq X a.2) (j_R_needs_17 v1 M) := by
  unfold j_R_needs_17
  repeat' (with_reducible first | exact Pw.none | exact Pw.some (by assumption) | refine Pw.ite (fun _ => ?_) (fun _ => ?_) | refine Pw.wrFDq (by first | exact FDq.up (by assumption) (by omega) | exact FDq.up0 (by assumption) (by decide)) (fun _ _ => ?_) | exact fd_j_R_needs_18 (by assumption))
theorem fd_m_R_needs {X M : Sto} {x1 : Int32} (h : FDq X M) : Pw (fun a => FDq X a.2) (m_R_needs x1 M) := by
  unfold m_R_needs
  repeat' (with_reducible first | exact Pw.none | exact Pw.some (by assumption) | refine Pw.ite (fun _ => ?_) (fun _ => ?_) | refine Pw.wrFDq (by first | exact FDq.up (by assumption) (by omega) | exact FDq.up0 (by assumption) (by decide)) (fun _ _ => ?_) | exact fd_j_R_needs_17 (by assumption) | exact fd_j_R_needs_18 (by assumption))
theorem fd_j_R_findNeeded_88 {X M : Sto} {g : Int32 → Int32 → Sto → Option (Int32 × Sto)} {k : Int32 → Sto → Option (Int32 × Sto)} {v1 v2 : Int32} (hg : ∀ y0 y1 M, FDq X M → Pw (fun a => FDq X a.2) (g y0 y1 M)) (hk : ∀ y0 M, FDq X M → Pw (fun a => FDq X a.2) (k y0 M)) (h : FDq X M) : Pw (fun a => FDq X a.2) (j_R_findNeeded_88 g k v1 v2 M) := by
  unfold j_R_findNeeded_88
  repeat' (with_reducible first | exact Pw.none | exact Pw.some (by assumption) | refine Pw.ite (fun _ => ?_) (fun _ => ?_) | refine Pw.wrFDq (by first | exact FDq.up (by assumption) (by omega) | exact FDq.up0 (by assumption) (by decide)) (fun _ _ => ?_) | exact hg _ _ _ (by assumption) | exact hk _ _ (by assumption))
theorem fd_j_R_findNeeded_66 {X M : Sto} {g : Int32 → Int32 → Sto → Option (Int32 × Sto)} {k : Int32 → Sto → Option (Int32 × Sto)} {v1 v2 : Int32} (hg : ∀ y0 y1 M, FDq X M → Pw (fun a => FDq X a.2) (g y0 y1 M)) (hk : ∀ y0 M, FDq X M → Pw (fun a => FDq X a.2) (k y0 M)) (h : FDq X M) : Pw (fun a => FDq X a.2) (j_R_findNeeded_66 g k v1 v2 M) := by
  unfold j_R_findNeeded_66
  repeat' (with_reducible first | exact Pw.none | exact Pw.some (by assumption) | refine Pw.ite (fun _ => ?_) (fun _ => ?_) | refine Pw.wrFDq (by first | exact FDq.up (by assumption) (by omega) | exact FDq.up0 (by assumption) (by decide)) (fun _ _ => ?_) | refine Pw.bind (fd_m_R_needs (by assumption)) (fun _ _ => ?_) | exact fd_m_R_needs (by assumption) | exact fd_j_R_findNeeded_88 (by assumption) (by assumption) (by assumption) | exact hg _ _ _ (by assumption) | exact hk _ _ (by assumption))
theorem fd_l_R_findNeeded_29 {X : Sto} {k : Int32 → Sto → Option (Int32 × Sto)} (hk : ∀ y0 M, FDq X M → Pw (fun a => FDq X a.2) (k y0 M)) : ∀ n y0 y1 M, FDq X M → Pw (fun a => FDq X a.2) (l_R_findNeeded_29 k n y0 y1 M) := by
  intro n
  induction n with
  | zero => intro y0 y1 M _; exact Pw.none
  | succ n ih =>
    intro y0 y1 M h
    unfold l_R_findNeeded_29
    repeat' (with_reducible first | exact Pw.none | exact Pw.some (by assumption) | refine Pw.ite (fun _ => ?_) (fun _ => ?_) | refine Pw.wrFDq (by first | exact FDq.up (by assumption) (by omega) | exact FDq.up0 (by assumption) (by decide)) (fun _ _ => ?_) | refine Pw.bind (fd_m_R_needs (by assumption)) (fun _ _ => ?_) | exact fd_m_R_needs (by assumption) | exact fd_j_R_findNeeded_66 (by assumption) (by assumption) (by assumption) | exact ih _ _ _ (by assumption) | exact hk _ _ (by assumption))
theorem fd_j_R_findNeeded_94 {X M : Sto} {g : Int32 → Sto → Option (Int32 × Sto)} {k : Sto → Option (Int32 × Sto)} {v1 : Int32} (hg : ∀ y0 M, FDq X M → Pw (fun a => FDq X a.2) (g y0 M)) (hk : ∀  M, FDq X M → Pw (fun a => FDq X a.2) (k  M)) (h : FDq X M) : Pw (fun a => FDq X a.2) (j_R_findNeeded_94 g k v1 M) := by
  unfold j_R_findNeeded_94
  repeat' (with_reducible first | exact Pw.none | exact Pw.some (by assumption) | refine Pw.ite (fun _ => ?_) (fun _ => ?_) | refine Pw.wrFDq (by first | exact FDq.up (by assumption) (by omega) | exact FDq.up0 (by assumption) (by decide)) (fun _ _ => ?_) | refine Pw.bind (fd_m_R_needs (by assumption)) (fun _ _ => ?_) | exact fd_m_R_needs (by assumption) | exact fd_j_R_findNeeded_130 (by assumption) (by assumption) (by assumption) | exact hg _ _ (by assumption) | exact hk _ (by assumption))
theorem fd_l_R_findNeeded_2 {X : Sto} {k : Sto → Option (Int32 × Sto)} (hk : ∀  M, FDq X M → Pw (fun a => FDq X a.2) (k  M)) : ∀ n y0 M, FDq X M → Pw (fun a => FDq X a.2) (l_R_findNeeded_2 k n y0 M) := by
  intro n
  induction n with
  | zero => intro y0 M _; exact Pw.none
  | succ n ih =>
    intro y0 M h
    unfold l_R_findNeeded_2
    repeat' (with_reducible first | exact Pw.none | exact Pw.some (by assumption) | refine Pw.ite (fun _ => ?_) (fun _ => ?_) | refine Pw.wrFDq (by first | exact FDq.up (by assumption) (by omega) | exact FDq.up0 (by assumption) (by decide)) (fun _ _ => ?_) | refine Pw.bind (fd_m_R_has (by assumption)) (fun _ _ => ?_) | exact fd_m_R_has (by assumption) | exact fd_j_R_findNeeded_130 (by assumption) (by assumption) (by assumption) | refine fd_l_R_findNeeded_29 (fun _ _ _ => ?_) _ _ _ _ (by assumption) | exact fd_j_R_findNeeded_94 (by assumption) (by assumption) (by assumption) | exact ih _ _ (by assumption) | exact hk _ (by assumption))
theorem fd_j_R_needsParts_25 {X M : Sto} (h : FDq X M) : Pw (fun a => FDq X a.2) (j_R_needsParts_25  M) := by
  unfold j_R_needsParts_25
  repeat' (with_reducible first | exact Pw.none | exact Pw.some (by assumption) | refine Pw.ite (fun _ => ?_) (fun _ => ?_) | refine Pw.wrFDq (by first | exact FDq.up (by assumption) (by omega) | exact FDq.up0 (by assumption) (by decide)) (fun _ _ => ?_))
theorem fd_j_R_needsParts_166 {X M : Sto} {g : Int32 → Int32 → Int32 → Int32 → Sto → Option (Int32 × Sto)} {k : Int32 → Sto → Option (Int32 × Sto)} {v3 v4 v5 v6 : Int32} (hg : ∀ y0 y1 y2 y3 M, FDq X M → Pw (fun a => FDq X a.2) (g y0 y1 y2 y3 M)) (hk : ∀ y0 M, FDq X M → Pw (fun a => FDq X a.2) (k y0 M)) (h : FDq X M) : Pw (fun a => FDq X a.2) (j_R_needsParts_166 g k v3 v4 v5 v6 M) := by
  unfold j_R_needsParts_166
  repeat' (with_reducible first | exact Pw.none | exact Pw.some (by assumption) | refine Pw.ite (fun _ => ?_) (fun _ => ?_) | refine Pw.wrFDq (by first | exact FDq.up (by assumption) (by omega) | exact FDq.up0 (by assumption) (by decide)) (fun _ _ => ?_) | exact hg _ _ _ _ _ (by assumption) | exact hk _ _ (by assumption))
theorem fd_l_R_needsParts_93 {X : Sto} {k : Int32 → Sto → Option (Int32 × Sto)} (hk : ∀ y0 M, FDq X M → Pw (fun a => FDq X a.2) (k y0 M)) : ∀ n y0 y1 y2 y3 M, FDq X M → Pw (fun a => FDq X a.2) (l_R_needsParts_93 k n y0 y1 y2 y3 M) := by
  intro n
  induction n with
  | zero => intro y0 y1 y2 y3 M _; exact Pw.none
  | succ n ih =>
    intro y0 y1 y2 y3 M h
    unfold l_R_needsParts_93
    repeat' (with_reducible first | exact Pw.none | exact Pw.some (by assumption) | refine Pw.ite (fun _ => ?_) (fun _ => ?_) | refine Pw.wrFDq (by first | exact FDq.up (by assumption) (by omega) | exact FDq.up0 (by assumption) (by decide)) (fun _ _ => ?_) | refine Pw.bind (fd_m_R_has (by assumption)) (fun _ _ => ?_) | exact fd_m_R_has (by assumption) | exact fd_j_R_needsParts_166 (by assumption) (by assumption) (by assumption) | refine Pw.bind (fd_m_R_needs (by assumption)) (fun _ _ => ?_) | exact fd_m_R_needs (by assumption) | exact ih _ _ _ _ _ (by assumption) | exact hk _ _ (by assumption))
theorem fd_j_R_needsParts_172 {X M : Sto} {v3 : Int32} (h : FDq X M) : Pw (fun a => FDq X a.2) (j_R_needsParts_172 v3 M) := by
  unfold j_R_needsParts_172
  repeat' (with_reducible first | exact Pw.none | exact Pw.some (by assumption) | refine Pw.ite (fun _ => ?_) (fun _ => ?_) | refine Pw.wrFDq (by first | exact FDq.up (by assumption) (by omega) | exact FDq.up0 (by assumption) (by decide)) (fun _ _ => ?_))
theorem fd_j_R_needsParts_73 {X M : Sto} {s0 : Int32} (h : FDq X M) : Pw (fun a => FDq X a.2) (j_R_needsParts_73 s0 M) := by
  unfold j_R_needsParts_73
  repeat' (with_reducible first | exact Pw.none | exact Pw.some (by assumption) | refine Pw.ite (fun _ => ?_) (fun _ => ?_) | refine Pw.wrFDq (by first | exact FDq.up (by assumption) (by omega) | exact FDq.up0 (by assumption) (by decide)) (fun _ _ => ?_))
theorem fd_j_R_needsParts_68 {X M : Sto} (h : FDq X M) : Pw (fun a => FDq X a.2) (j_R_needsParts_68  M) := by
  unfold j_R_needsParts_68
  repeat' (with_reducible first | exact Pw.none | exact Pw.some (by assumption) | refine Pw.ite (fun _ => ?_) (fun _ => ?_) | refine Pw.wrFDq (by first | exact FDq.up (by assumption) (by omega) | exact FDq.up0 (by assumption) (by decide)) (fun _ _ => ?_) | exact fd_j_R_needsParts_73 (by assumption))
theorem fd_m_R_needsParts {X M : Sto} {x1 : Int32} (h : FDq X M) : Pw (fun a => FDq X a.2) (m_R_needsParts x1 M) := by
  unfold m_R_needsParts
  repeat' (with_reducible first | exact Pw.none | exact Pw.some (by assumption) | refine Pw.ite (fun _ => ?_) (fun _ => ?_) | refine Pw.wrFDq (by first | exact FDq.up (by assumption) (by omega) | exact FDq.up0 (by assumption) (by decide)) (fun _ _ => ?_) | exact fd_j_R_needsParts_25 (by assumption) | refine fd_l_R_needsParts_93 (fun _ _ _ => ?_) _ _ _ _ _ _ (by assumption) | exact fd_j_R_needsParts_172 (by assumption) | refine Pw.bind (fd_m_R_needs (by assumption)) (fun _ _ => ?_) | exact fd_m_R_needs (by assumption) | exact fd_j_R_needsParts_73 (by assumption) | exact fd_j_R_needsParts_68 (by assumption))
theorem fd_j_R_findNeeded_172 {X M : Sto} {g : Int32 → Int32 → Sto → Option (Int32 × Sto)} {k : Int32 → Sto → Option (Int32 × Sto)} {s0 v2 : Int32} (hg : ∀ y0 y1 M, FDq X M → Pw (fun a => FDq X a.2) (g y0 y1 M)) (hk : ∀ y0 M, FDq X M → Pw (fun a => FDq X a.2) (k y0 M)) (h : FDq X M) : Pw (fun a => FDq X a.2) (j_R_findNeeded_172 g k s0 v2 M) := by
  unfold j_R_findNeeded_172
  repeat' (with_reducible first | exact Pw.none | exact Pw.some (by assumption) | refine Pw.ite (fun _ => ?_) (fun _ => ?_) | refine Pw.wrFDq (by first | exact FDq.up (by assumption) (by omega) | exact FDq.up0 (by assumption) (by decide)) (fun _ _ => ?_) | exact hg _ _ _ (by assumption) | exact hk _ _ (by assumption))
theorem fd_j_R_findNeeded_167 {X M : Sto} {g : Int32 → Int32 → Sto → Option (Int32 × Sto)} {k : Int32 → Sto → Option (Int32 × Sto)} {v2 : Int32} (hg : ∀ y0 y1 M, FDq X M → Pw (fun a => FDq X a.2) (g y0 y1 M)) (hk : ∀ y0 M, FDq X M → Pw (fun a => FDq X a.2) (k y0 M)) (h : FDq X M) : Pw (fun a => FDq X a.2) (j_R_findNeeded_167 g k v2 M) := by
  unfold j_R_findNeeded_167
  repeat' (with_reducible first | exact Pw.none | exact Pw.some (by assumption) | refine Pw.ite (fun _ => ?_) (fun _ => ?_) | refine Pw.wrFDq (by first | exact FDq.up (by assumption) (by omega) | exact FDq.up0 (by assumption) (by decide)) (fun _ _ => ?_) | exact fd_j_R_findNeeded_172 (by assumption) (by assumption) (by assumption) | exact hg _ _ _ (by assumption) | exact hk _ _ (by assumption))
theorem fd_l_R_findNeeded_147 {X : Sto} {k : Int32 → Sto → Option (Int32 × Sto)} (hk : ∀ y0 M, FDq X M → Pw (fun a => FDq X a.2) (k y0 M)) : ∀ n y0 y1 M, FDq X M → Pw (fun a => FDq X a.2) (l_R_findNeeded_147 k n y0 y1 M) := by
  intro n
  induction n with
  | zero => intro y0 y1 M _; exact Pw.none
  | succ n ih =>
    intro y0 y1 M h
    unfold l_R_findNeeded_147
    repeat' (with_reducible first | exact Pw.none | exact Pw.some (by assumption) | refine Pw.ite (fun _ => ?_) (fun _ => ?_) | refine Pw.wrFDq (by first | exact FDq.up (by assumption) (by omega) | exact FDq.up0 (by assumption) (by decide)) (fun _ _ => ?_) | refine Pw.bind (fd_m_R_needsParts (by assumption)) (fun _ _ => ?_) | exact fd_m_R_needsParts (by assumption) | exact fd_j_R_findNeeded_172 (by assumption) (by assumption) (by assumption) | exact fd_j_R_findNeeded_167 (by assumption) (by assumption) (by assumption) | exact ih _ _ _ (by assumption) | exact hk _ _ (by assumption))
theorem fd_j_R_findNeeded_179 {X M : Sto} {g : Int32 → Sto → Option (Int32 × Sto)} {k : Sto → Option (Int32 × Sto)} {v1 : Int32} (hg : ∀ y0 M, FDq X M → Pw (fun a => FDq X a.2) (g y0 M)) (hk : ∀  M, FDq X M → Pw (fun a => FDq X a.2) (k  M)) (h : FDq X M) : Pw (fun a => FDq X a.2) (j_R_findNeeded_179 g k v1 M) := by
  unfold j_R_findNeeded_179
  repeat' (with_reducible first | exact Pw.none | exact Pw.some (by assumption) | refine Pw.ite (fun _ => ?_) (fun _ => ?_) | refine Pw.wrFDq (by first | exact FDq.up (by assumption) (by omega) | exact FDq.up0 (by assumption) (by decide)) (fun _ _ => ?_) | exact hg _ _ (by assumption) | exact hk _ (by assumption))
theorem fd_l_R_findNeeded_138 {X : Sto} {k : Sto → Option (Int32 × Sto)} (hk : ∀  M, FDq X M → Pw (fun a => FDq X a.2) (k  M)) : ∀ n y0 M, FDq X M → Pw (fun a => FDq X a.2) (l_R_findNeeded_138 k n y0 M) := by
  intro n
  induction n with
  | zero => intro y0 M _; exact Pw.none
  | succ n ih =>
    intro y0 M h
    unfold l_R_findNeeded_138
    repeat' (with_reducible first | exact Pw.none | exact Pw.some (by assumption) | refine Pw.ite (fun _ => ?_) (fun _ => ?_) | refine Pw.wrFDq (by first | exact FDq.up (by assumption) (by omega) | exact FDq.up0 (by assumption) (by decide)) (fun _ _ => ?_) | refine fd_l_R_findNeeded_147 (fun _ _ _ => ?_) _ _ _ _ (by assumption) | exact fd_j_R_findNeeded_179 (by assumption) (by assumption) (by assumption) | exact ih _ _ (by assumption) | exact hk _ (by assumption))
theorem fd_j_R_findNeeded_182 {X M : Sto} (h : FDq X M) : Pw (fun a => FDq X a.2) (j_R_findNeeded_182  M) := by
  unfold j_R_findNeeded_182
  repeat' (with_reducible first | exact Pw.none | exact Pw.some (by assumption) | refine Pw.ite (fun _ => ?_) (fun _ => ?_) | refine Pw.wrFDq (by first | exact FDq.up (by assumption) (by omega) | exact FDq.up0 (by assumption) (by decide)) (fun _ _ => ?_))
theorem fd_j_R_findNeeded_136 {X M : Sto} (h : FDq X M) : Pw (fun a => FDq X a.2) (j_R_findNeeded_136  M) := by
  unfold j_R_findNeeded_136
  repeat' (with_reducible first | exact Pw.none | exact Pw.some (by assumption) | refine Pw.ite (fun _ => ?_) (fun _ => ?_) | refine Pw.wrFDq (by first | exact FDq.up (by assumption) (by omega) | exact FDq.up0 (by assumption) (by decide)) (fun _ _ => ?_) | refine fd_l_R_findNeeded_138 (fun _ _ => ?_) _ _ _ (by assumption) | exact fd_j_R_findNeeded_182 (by assumption))
theorem fd_m_R_findNeeded {X M : Sto} (h : FDq X M) : Pw (fun a => FDq X a.2) (m_R_findNeeded  M) := by
  unfold m_R_findNeeded
  repeat' (with_reducible first | exact Pw.none | exact Pw.some (by assumption) | refine Pw.ite (fun _ => ?_) (fun _ => ?_) | refine Pw.wrFDq (by first | exact FDq.up (by assumption) (by omega) | exact FDq.up0 (by assumption) (by decide)) (fun _ _ => ?_) | refine fd_l_R_findNeeded_2 (fun _ _ => ?_) _ _ _ (by assumption) | exact fd_j_R_findNeeded_136 (by assumption))
theorem fc_build {X : Sto} : Pw (fun a => a.1 = 0 → FCq X a.2.2) (m_N_build X) := by
  unfold m_N_build
  refine Pw.ite (fun _ => Pw.some fun (q : (2 : Nat) = 0) => absurd q (by decide)) (fun _ => Pw.bind (fc_m_S_survey FCq.rf) (fun a ha => Pw.bind (fc_m_G_nameAll ha) (fun b hb => Pw.bind (fc_m_K_settle hb) (fun c hc => Pw.bind (fc_m_D_collect hc) (fun d hd => Pw.ite (fun _ => Pw.wrt fun M5 q5 => Pw.some fun _ => ?_) (fun _ => Pw.none))))))
  show FCq X M5
  rw [q5]; exact hd.up (by decide)
theorem fd_build {X : Sto} : Pw (fun a => FDq X a.2) (m_R_build X) := by
  have g : ∀ s, Pw (fun a => FDq X a.2) (j_R_build_13 s X) := fun s => by
    unfold j_R_build_13
    refine Pw.bind (fd_m_R_fails FDq.rf) (fun a ha => Pw.ite (fun _ => Pw.bind (fd_m_R_reaches ha) (fun b hb => Pw.bind (fd_m_R_dominates hb) (fun c hc => Pw.bind (fd_m_R_placePhis hc) (fun d hd => Pw.bind (fd_m_R_nameAll hd) (fun e he => Pw.bind (fd_m_R_findKnown he) (fun f hf => Pw.bind (fd_m_R_findNeeded hf) (fun g hg => Pw.ite (fun _ => Pw.wrt fun M8 q8 => Pw.some ?_) (fun _ => Pw.none)))))))) (fun _ => Pw.some ha))
    show FDq X M8
    rw [q8]; exact hg.up0 (by decide)
  unfold m_R_build
  exact Pw.ite (fun _ => g 1) (fun _ => g 0)
