section
def Ok {α : Type} (P : α → Prop) (x : Option α) : Prop := ∃ a, x = some a ∧ P a
theorem Ok.some {α : Type} {P : α → Prop} {a : α} (h : P a) : Ok P (some a) := ⟨a, rfl, h⟩
theorem Ok.to {α : Type} {P Q : α → Prop} {x : Option α} (h : Ok P x) (k : ∀ a, P a → Q a) : Ok Q x := h.elim fun a ha => ⟨a, ha.1, k a ha.2⟩
theorem Ok.bind {β : Type} {Q : Int32 × Sto → Prop} {P : β → Prop} {x : Option (Int32 × Sto)} {f : Int32 × Sto → Option β} (h : Ok Q x) (k : ∀ r M, Q (r, M) → Ok P (f (r, M))) : Ok P (x.bind f) := by
  obtain ⟨⟨r, M⟩, rfl, hq⟩ := h
  exact k r M hq
theorem Ok.wr {α β : Type} {P : β → Prop} {a : α} {f : α → Option β} (h : ∀ M, M = a → Ok P (f M)) : Ok P (wr a f) := h a rfl
theorem Ok.le {α : Type} {P : α → Prop} {a b : Int32} {d : Decidable (a ≤ b)} {X Y : Option α} (h1 : a.toInt ≤ b.toInt → Ok P X) (h2 : b.toInt < a.toInt → Ok P Y) : Ok P (@ite _ (a ≤ b) d X Y) := by
  by_cases h : a ≤ b
  · rw [if_pos h]; exact h1 (Int32.le_iff_toInt_le.mp h)
  · rw [if_neg h]; exact h2 (Int.not_le.mp fun q => h (Int32.le_iff_toInt_le.mpr q))
theorem Ok.lt {α : Type} {P : α → Prop} {a b : Int32} {d : Decidable (a < b)} {X Y : Option α} (h1 : a.toInt < b.toInt → Ok P X) (h2 : b.toInt ≤ a.toInt → Ok P Y) : Ok P (@ite _ (a < b) d X Y) := by
  by_cases h : a < b
  · rw [if_pos h]; exact h1 (Int32.lt_iff_toInt_lt.mp h)
  · rw [if_neg h]; exact h2 (Int.not_lt.mp fun q => h (Int32.lt_iff_toInt_lt.mpr q))
theorem Ok.eq {α : Type} {P : α → Prop} {a b : Int32} {d : Decidable (a = b)} {X Y : Option α} (h1 : a.toInt = b.toInt → Ok P X) (h2 : a.toInt ≠ b.toInt → Ok P Y) : Ok P (@ite _ (a = b) d X Y) := by
  by_cases h : a = b
  · rw [if_pos h]; exact h1 (by rw [h])
  · rw [if_neg h]; exact h2 (fun q => h (Int32.toInt_inj.mp q))
theorem ok_of {i : Int32} {n : Nat} (h0 : 0 ≤ i.toInt) (h1 : i.toInt < (n : Int)) : ok i n = true := by
  unfold ok
  rw [decide_eq_true_iff]
  rintro (q | q)
  · rw [Int32.lt_iff_toInt_lt] at q
    have : (0 : Int32).toInt = 0 := rfl
    omega
  · have : (i.toNatClampNeg : Int) = i.toInt := by
      show ((i.toInt.toNat : Nat) : Int) = _
      omega
    omega
theorem Ok.okI {α : Type} {P : α → Prop} {i : Int32} {n : Nat} {X : Option α} (h0 : 0 ≤ i.toInt) (h1 : i.toInt < (n : Int)) (h : Ok P X) : Ok P (if ok i n = true then X else none) := by
  rw [if_pos (ok_of h0 h1)]; exact h
theorem bz_of {v : Int32} (h0 : 0 ≤ v.toInt) (h1 : v.toInt ≤ 1) : bz v = true := by
  unfold bz
  rw [decide_eq_true_iff]
  by_cases h : v.toInt = 0
  · exact Or.inl (Int32.toInt_inj.mp (by rw [h]; rfl))
  · exact Or.inr (Int32.toInt_inj.mp (by rw [show v.toInt = 1 by omega]; rfl))
theorem Ok.bzI {α : Type} {P : α → Prop} {v : Int32} {X : Option α} (h0 : 0 ≤ v.toInt) (h1 : v.toInt ≤ 1) (h : Ok P X) : Ok P (if bz v = true then X else none) := by
  rw [if_pos (bz_of h0 h1)]; exact h
theorem Ok.nz {α : Type} {P : α → Prop} {v : Int32} {d : Decidable (v = 0)} {X : Option α} (h0 : v.toInt ≠ 0) (h : Ok P X) : Ok P (@ite _ (v = 0) d none X) := by
  rw [if_neg (fun q => h0 (by rw [q]; rfl))]; exact h
theorem tn_lt {i : Int32} {n : Nat} (h0 : 0 ≤ i.toInt) (h1 : i.toInt < (n : Int)) : i.toNatClampNeg < n := by
  show i.toInt.toNat < n
  omega
theorem tn_eq {i : Int32} (h0 : 0 ≤ i.toInt) : (i.toNatClampNeg : Int) = i.toInt := by
  show ((i.toInt.toNat : Nat) : Int) = _
  omega
theorem i32_lo (v : Int32) : -2147483648 ≤ v.toInt := Int32.le_toInt v
theorem i32_hi (v : Int32) : v.toInt ≤ 2147483647 := by have := Int32.toInt_lt v; omega
theorem addI {a b : Int32} (h1 : -2147483648 ≤ a.toInt + b.toInt) (h2 : a.toInt + b.toInt ≤ 2147483647) : (a + b).toInt = a.toInt + b.toInt := by
  rw [Int32.toInt_add, Int.bmod_eq_of_le (by omega) (by omega)]
theorem subI {a b : Int32} (h1 : -2147483648 ≤ a.toInt - b.toInt) (h2 : a.toInt - b.toInt ≤ 2147483647) : (a - b).toInt = a.toInt - b.toInt := by
  rw [Int32.toInt_sub, Int.bmod_eq_of_le (by omega) (by omega)]
theorem mulI {a b : Int32} (h1 : -2147483648 ≤ a.toInt * b.toInt) (h2 : a.toInt * b.toInt ≤ 2147483647) : (a * b).toInt = a.toInt * b.toInt := by
  rw [Int32.toInt_mul, Int.bmod_eq_of_le (by omega) (by omega)]
theorem fu_le : (4096 : Int) ≤ ((FU : Nat) : Int) := by decide
def cnt (f : Nat → Int32) : Nat → Int
  | 0 => 0
  | n + 1 => cnt f n + (if f n = 0 then 0 else 1)
theorem cnt_ge (f : Nat → Int32) : ∀ n, 0 ≤ cnt f n
  | 0 => Int.le_refl 0
  | n + 1 => by
    have := cnt_ge f n
    unfold cnt
    by_cases h : f n = 0
    · rw [if_pos h]; omega
    · rw [if_neg h]; omega
theorem cnt_le (f : Nat → Int32) : ∀ n, cnt f n ≤ (n : Int)
  | 0 => Int.le_refl 0
  | n + 1 => by
    have := cnt_le f n
    unfold cnt
    by_cases h : f n = 0
    · rw [if_pos h]; omega
    · rw [if_neg h]; omega
theorem cnt_lt (f : Nat → Int32) {j : Nat} (hj : f j = 0) : ∀ n, j < n → cnt f n < (n : Int)
  | 0, h => absurd h (Nat.not_lt_zero _)
  | n + 1, h => by
    unfold cnt
    by_cases e : j = n
    · subst e
      rw [if_pos hj]
      have := cnt_le f j
      omega
    · have := cnt_lt f hj n (by omega)
      by_cases h : f n = 0
      · rw [if_pos h]; omega
      · rw [if_neg h]; omega
theorem upd_at (f : Nat → Int32) (j : Nat) (v : Int32) (a : Nat) : upd f j v a = if a = j then v else f a := by
  unfold upd
  by_cases h : a = j <;> simp [h]
theorem cnt_upd_out (f : Nat → Int32) {j : Nat} (v : Int32) : ∀ n, n ≤ j → cnt (upd f j v) n = cnt f n
  | 0, _ => rfl
  | n + 1, h => by
    unfold cnt
    rw [cnt_upd_out f v n (by omega), show upd f j v n = f n by rw [upd_at, if_neg (by omega)]]
theorem cnt_upd (f : Nat → Int32) {j : Nat} (hj : f j = 0) : ∀ n, j < n → cnt (upd f j 1) n = cnt f n + 1
  | 0, h => absurd h (Nat.not_lt_zero _)
  | n + 1, h => by
    unfold cnt
    by_cases e : j = n
    · subst e
      rw [cnt_upd_out f 1 j (Nat.le_refl _), upd_at, if_pos rfl, hj, if_neg (by decide), if_pos rfl]
      omega
    · rw [cnt_upd f hj n (by omega), show upd f j 1 n = f n by rw [upd_at, if_neg (by omega)]]
      omega
theorem cnt_zero (f : Nat → Int32) : ∀ n, (∀ j, j < n → f j = 0) → cnt f n = 0
  | 0, _ => rfl
  | n + 1, h => by
    unfold cnt
    rw [cnt_zero f n (fun j hj => h j (by omega)), if_pos (h n (by omega))]
    rfl
end
section
def loA : List Int := [0, -2147483648, 0, 0, 0, -2147483648, -2147483648, -1, -2147483648, 0, 0, -2147483648, -2147483648, -1, -1, -1, 0, -2147483648, -2147483648, -2147483648, 0, 0, -2147483648, -2147483648, -2147483648, -2147483648, -2147483648]
def hiA : List Int := [6, 2147483647, 5, 9, 9, 2147483647, 2147483647, 9, 2147483647, 9, 9, 2147483647, 2147483647, 125, 9, 5, 5, 2147483647, 2147483647, 2147483647, 1, 125, 2147483647, 2147483647, 2147483647, 2147483647, 2147483647]
def loX (k j : Nat) : Int := if 103 ≤ k then -1 else if 83 ≤ k then 0 else if 7 ≤ k then loA.getD (k - 7) (-2147483648) else if k = 0 then (if j = 6 then 0 else -2147483648) else if k = 1 then (if j = 0 then 0 else -2147483648) else if k = 2 then (if j = 7 then 0 else -2147483648) else if k = 3 then (if j = 2 then 0 else -2147483648) else if k = 4 then (if j = 7 then 0 else -2147483648) else if k = 5 then (if j = 5 then 0 else -2147483648) else if k = 6 then (if j = 4 then 0 else if j = 9 then 0 else if j = 13 then 0 else -2147483648) else -2147483648
def hiX (bn bt : Int) (k j : Nat) : Int := if 83 ≤ k then 125 else if 7 ≤ k then hiA.getD (k - 7) 2147483647 else if k = 0 then (if j = 6 then 1 else 2147483647) else if k = 1 then (if j = 0 then 10 else 2147483647) else if k = 2 then (if j = 7 then 10 else 2147483647) else if k = 3 then (if j = 2 then bn else 2147483647) else if k = 4 then (if j = 7 then 1 else 2147483647) else if k = 5 then (if j = 5 then 126 else 2147483647) else if k = 6 then (if j = 4 then 16 else if j = 9 then bt else if j = 13 then 16 else 2147483647) else 2147483647
def pcl (k j : Nat) : Bool := (k == 1 && j == 0) || (k == 6 && j == 4) || (Nat.ble 7 k && Nat.ble k 11) || (Nat.ble 43 k && Nat.ble k 82)
def KP (G : Sto) : Prop := ∀ i j : Nat, i < 10 → ((G (43 + i) j).toInt ≠ 7 → 0 ≤ (G (53 + i) j).toInt ∧ (G (53 + i) j).toInt ≤ 5) ∧ ((G (43 + i) j).toInt ≠ 0 → (G (43 + i) j).toInt ≠ 6 → 0 ≤ (G (63 + i) j).toInt ∧ (G (63 + i) j).toInt ≤ 5) ∧ (2 ≤ (G (43 + i) j).toInt → (G (43 + i) j).toInt ≤ 5 → 0 ≤ (G (73 + i) j).toInt ∧ (G (73 + i) j).toInt ≤ 5)
def CN (M : Sto) : Prop := (M 5 5).toInt = cnt (M 27) 126
def RgX (bn bt : Int) (M : Sto) : Prop := ∀ k j : Nat, loX k j ≤ (M k j).toInt ∧ (M k j).toInt ≤ hiX bn bt k j
def IX (bn bt : Int) (G M : Sto) : Prop := RgX bn bt M ∧ (∀ k j : Nat, pcl k j = true → M k j = G k j) ∧ KP G ∧ CN M
theorem pcl_hi {k j : Nat} (h : 83 ≤ k) : pcl k j = false := by
  have h1 : (k == 1) = false := beq_false_of_ne (by omega)
  have h2 : Nat.ble k 11 = false := Bool.eq_false_iff.mpr fun q => by have := Nat.le_of_ble_eq_true q; omega
  have h3 : Nat.ble k 82 = false := Bool.eq_false_iff.mpr fun q => by have := Nat.le_of_ble_eq_true q; omega
  have h4 : (k == 6) = false := beq_false_of_ne (by omega)
  unfold pcl
  rw [h1, h2, h3, h4]
  simp
section IXs
variable {bn bt : Int} {G M : Sto} {j : Nat} {v : Int32}
theorem up2_at (M : Sto) (k j : Nat) (v : Int32) (a b : Nat) : up2 M k j v a b = if a = k ∧ b = j then v else M a b := by
  unfold up2
  by_cases h : a = k
  · subst h
    rw [if_pos rfl, upd_at]
    by_cases h2 : b = j
    · rw [if_pos h2, if_pos ⟨rfl, h2⟩]
    · rw [if_neg h2, if_neg (fun q => h2 q.2)]
  · rw [if_neg h, if_neg (fun q => h q.1)]
theorem RgX.up (h : RgX bn bt M) {k j : Nat} (h1 : loX k j ≤ v.toInt) (h2 : v.toInt ≤ hiX bn bt k j) : RgX bn bt (up2 M k j v) := by
  intro a b
  rw [up2_at]
  by_cases q : a = k ∧ b = j
  · rw [if_pos q, q.1, q.2]; exact ⟨h1, h2⟩
  · rw [if_neg q]; exact h a b
theorem IX.up (h : IX bn bt G M) {k j : Nat} (hp : pcl k j = false) (h5 : k ≠ 5) (h27 : k ≠ 27) (h1 : loX k j ≤ v.toInt) (h2 : v.toInt ≤ hiX bn bt k j) : IX bn bt G (up2 M k j v) := by
  refine ⟨h.1.up h1 h2, fun a b hab => ?_, h.2.2.1, ?_⟩
  · rw [up2_at, if_neg (fun q => by rw [q.1, q.2, hp] at hab; exact Bool.noConfusion hab)]; exact h.2.1 a b hab
  · show (up2 M k j v 5 5).toInt = cnt (up2 M k j v 27) 126
    rw [up2_ne M j v (Ne.symm h5), up2_ne M j v (Ne.symm h27)]; exact h.2.2.2
theorem ix_itl {c : Prop} {d : Decidable c} {a b a2 b2 : Int} (h1 : a ≤ a2) (h2 : b ≤ b2) : @ite Int c d a b ≤ @ite Int c d a2 b2 := by
  by_cases h : c
  · rw [if_pos h, if_pos h]; exact h1
  · rw [if_neg h, if_neg h]; exact h2
theorem IX.mono {bn2 bt2 : Int} (h : IX bn bt G M) (h1 : bn ≤ bn2) (h2 : bt ≤ bt2) : IX bn2 bt2 G M := by
  refine ⟨fun k j => ⟨(h.1 k j).1, Int.le_trans (h.1 k j).2 ?_⟩, h.2⟩
  unfold hiX
  repeat' (first | exact h1 | exact h2 | exact Int.le_refl _ | refine ix_itl ?_ ?_)
theorem rd_7 (h : IX bn bt G M) (j : Nat) : 0 ≤ (M 7 j).toInt ∧ (M 7 j).toInt ≤ 6 := h.1 7 j
theorem rd_9 (h : IX bn bt G M) (j : Nat) : 0 ≤ (M 9 j).toInt ∧ (M 9 j).toInt ≤ 5 := h.1 9 j
theorem rd_10 (h : IX bn bt G M) (j : Nat) : 0 ≤ (M 10 j).toInt ∧ (M 10 j).toInt ≤ 9 := h.1 10 j
theorem rd_11 (h : IX bn bt G M) (j : Nat) : 0 ≤ (M 11 j).toInt ∧ (M 11 j).toInt ≤ 9 := h.1 11 j
theorem up_12 (h : IX bn bt G M) : IX bn bt G (up2 M 12 j v) := h.up rfl (by decide) (by decide) (i32_lo v) (i32_hi v)
theorem up_13 (h : IX bn bt G M) : IX bn bt G (up2 M 13 j v) := h.up rfl (by decide) (by decide) (i32_lo v) (i32_hi v)
theorem rd_14 (h : IX bn bt G M) (j : Nat) : (-1) ≤ (M 14 j).toInt ∧ (M 14 j).toInt ≤ 9 := h.1 14 j
theorem up_14 (h : IX bn bt G M) (h1 : (-1) ≤ v.toInt) (h2 : v.toInt ≤ 9) : IX bn bt G (up2 M 14 j v) := h.up rfl (by decide) (by decide) h1 h2
theorem up_15 (h : IX bn bt G M) : IX bn bt G (up2 M 15 j v) := h.up rfl (by decide) (by decide) (i32_lo v) (i32_hi v)
theorem rd_16 (h : IX bn bt G M) (j : Nat) : 0 ≤ (M 16 j).toInt ∧ (M 16 j).toInt ≤ 9 := h.1 16 j
theorem up_16 (h : IX bn bt G M) (h1 : 0 ≤ v.toInt) (h2 : v.toInt ≤ 9) : IX bn bt G (up2 M 16 j v) := h.up rfl (by decide) (by decide) h1 h2
theorem rd_17 (h : IX bn bt G M) (j : Nat) : 0 ≤ (M 17 j).toInt ∧ (M 17 j).toInt ≤ 9 := h.1 17 j
theorem up_17 (h : IX bn bt G M) (h1 : 0 ≤ v.toInt) (h2 : v.toInt ≤ 9) : IX bn bt G (up2 M 17 j v) := h.up rfl (by decide) (by decide) h1 h2
theorem up_18 (h : IX bn bt G M) : IX bn bt G (up2 M 18 j v) := h.up rfl (by decide) (by decide) (i32_lo v) (i32_hi v)
theorem up_19 (h : IX bn bt G M) : IX bn bt G (up2 M 19 j v) := h.up rfl (by decide) (by decide) (i32_lo v) (i32_hi v)
theorem rd_20 (h : IX bn bt G M) (j : Nat) : (-1) ≤ (M 20 j).toInt ∧ (M 20 j).toInt ≤ 125 := h.1 20 j
theorem up_20 (h : IX bn bt G M) (h1 : (-1) ≤ v.toInt) (h2 : v.toInt ≤ 125) : IX bn bt G (up2 M 20 j v) := h.up rfl (by decide) (by decide) h1 h2
theorem rd_21 (h : IX bn bt G M) (j : Nat) : (-1) ≤ (M 21 j).toInt ∧ (M 21 j).toInt ≤ 9 := h.1 21 j
theorem up_21 (h : IX bn bt G M) (h1 : (-1) ≤ v.toInt) (h2 : v.toInt ≤ 9) : IX bn bt G (up2 M 21 j v) := h.up rfl (by decide) (by decide) h1 h2
theorem rd_22 (h : IX bn bt G M) (j : Nat) : (-1) ≤ (M 22 j).toInt ∧ (M 22 j).toInt ≤ 5 := h.1 22 j
theorem up_22 (h : IX bn bt G M) (h1 : (-1) ≤ v.toInt) (h2 : v.toInt ≤ 5) : IX bn bt G (up2 M 22 j v) := h.up rfl (by decide) (by decide) h1 h2
theorem rd_23 (h : IX bn bt G M) (j : Nat) : 0 ≤ (M 23 j).toInt ∧ (M 23 j).toInt ≤ 5 := h.1 23 j
theorem up_23 (h : IX bn bt G M) (h1 : 0 ≤ v.toInt) (h2 : v.toInt ≤ 5) : IX bn bt G (up2 M 23 j v) := h.up rfl (by decide) (by decide) h1 h2
theorem up_24 (h : IX bn bt G M) : IX bn bt G (up2 M 24 j v) := h.up rfl (by decide) (by decide) (i32_lo v) (i32_hi v)
theorem up_25 (h : IX bn bt G M) : IX bn bt G (up2 M 25 j v) := h.up rfl (by decide) (by decide) (i32_lo v) (i32_hi v)
theorem up_26 (h : IX bn bt G M) : IX bn bt G (up2 M 26 j v) := h.up rfl (by decide) (by decide) (i32_lo v) (i32_hi v)
theorem rd_27 (h : IX bn bt G M) (j : Nat) : 0 ≤ (M 27 j).toInt ∧ (M 27 j).toInt ≤ 1 := h.1 27 j
theorem rd_28 (h : IX bn bt G M) (j : Nat) : 0 ≤ (M 28 j).toInt ∧ (M 28 j).toInt ≤ 125 := h.1 28 j
theorem up_28 (h : IX bn bt G M) (h1 : 0 ≤ v.toInt) (h2 : v.toInt ≤ 125) : IX bn bt G (up2 M 28 j v) := h.up rfl (by decide) (by decide) h1 h2
theorem up_29 (h : IX bn bt G M) : IX bn bt G (up2 M 29 j v) := h.up rfl (by decide) (by decide) (i32_lo v) (i32_hi v)
theorem up_30 (h : IX bn bt G M) : IX bn bt G (up2 M 30 j v) := h.up rfl (by decide) (by decide) (i32_lo v) (i32_hi v)
theorem up_31 (h : IX bn bt G M) : IX bn bt G (up2 M 31 j v) := h.up rfl (by decide) (by decide) (i32_lo v) (i32_hi v)
theorem up_32 (h : IX bn bt G M) : IX bn bt G (up2 M 32 j v) := h.up rfl (by decide) (by decide) (i32_lo v) (i32_hi v)
theorem up_33 (h : IX bn bt G M) : IX bn bt G (up2 M 33 j v) := h.up rfl (by decide) (by decide) (i32_lo v) (i32_hi v)
theorem rd_0_6 (h : IX bn bt G M) : 0 ≤ (M 0 6).toInt ∧ (M 0 6).toInt ≤ 1 := h.1 0 6
theorem rd_1_0 (h : IX bn bt G M) : 0 ≤ (M 1 0).toInt ∧ (M 1 0).toInt ≤ 10 := h.1 1 0
theorem rd_2_7 (h : IX bn bt G M) : 0 ≤ (M 2 7).toInt ∧ (M 2 7).toInt ≤ 10 := h.1 2 7
theorem rd_3_2 (h : IX bn bt G M) : 0 ≤ (M 3 2).toInt ∧ (M 3 2).toInt ≤ bn := h.1 3 2
theorem rd_4_7 (h : IX bn bt G M) : 0 ≤ (M 4 7).toInt ∧ (M 4 7).toInt ≤ 1 := h.1 4 7
theorem rd_5_5 (h : IX bn bt G M) : 0 ≤ (M 5 5).toInt ∧ (M 5 5).toInt ≤ 126 := h.1 5 5
theorem rd_6_4 (h : IX bn bt G M) : 0 ≤ (M 6 4).toInt ∧ (M 6 4).toInt ≤ 16 := h.1 6 4
theorem rd_6_9 (h : IX bn bt G M) : 0 ≤ (M 6 9).toInt ∧ (M 6 9).toInt ≤ bt := h.1 6 9
theorem rd_6_13 (h : IX bn bt G M) : 0 ≤ (M 6 13).toInt ∧ (M 6 13).toInt ≤ 16 := h.1 6 13
theorem up_0_6 (h : IX bn bt G M) (h1 : 0 ≤ v.toInt) (h2 : v.toInt ≤ 1) : IX bn bt G (up2 M 0 6 v) := h.up rfl (by decide) (by decide) h1 h2
theorem up_2_1 (h : IX bn bt G M) : IX bn bt G (up2 M 2 1 v) := h.up rfl (by decide) (by decide) (i32_lo v) (i32_hi v)
theorem up_2_7 (h : IX bn bt G M) (h1 : 0 ≤ v.toInt) (h2 : v.toInt ≤ 10) : IX bn bt G (up2 M 2 7 v) := h.up rfl (by decide) (by decide) h1 h2
theorem up_3_2 (h : IX bn bt G M) (h1 : 0 ≤ v.toInt) (h2 : v.toInt ≤ bn) : IX bn bt G (up2 M 3 2 v) := h.up rfl (by decide) (by decide) h1 h2
theorem up_4_3 (h : IX bn bt G M) : IX bn bt G (up2 M 4 3 v) := h.up rfl (by decide) (by decide) (i32_lo v) (i32_hi v)
theorem up_4_7 (h : IX bn bt G M) (h1 : 0 ≤ v.toInt) (h2 : v.toInt ≤ 1) : IX bn bt G (up2 M 4 7 v) := h.up rfl (by decide) (by decide) h1 h2
theorem up_6_9 (h : IX bn bt G M) (h1 : 0 ≤ v.toInt) (h2 : v.toInt ≤ bt) : IX bn bt G (up2 M 6 9 v) := h.up rfl (by decide) (by decide) h1 h2
theorem up_6_11 (h : IX bn bt G M) : IX bn bt G (up2 M 6 11 v) := h.up rfl (by decide) (by decide) (i32_lo v) (i32_hi v)
theorem up_6_12 (h : IX bn bt G M) : IX bn bt G (up2 M 6 12 v) := h.up rfl (by decide) (by decide) (i32_lo v) (i32_hi v)
theorem up_6_13 (h : IX bn bt G M) (h1 : 0 ≤ v.toInt) (h2 : v.toInt ≤ 16) : IX bn bt G (up2 M 6 13 v) := h.up rfl (by decide) (by decide) h1 h2
theorem set_3_2 {b : Int} (h : IX bn bt G M) (h1 : 0 ≤ v.toInt) (h2 : v.toInt ≤ b) : IX b bt G (up2 M 3 2 v) := by
  refine ⟨fun a c => ?_, fun a c hac => ?_, h.2.2.1, ?_⟩
  · rw [up2_at]
    by_cases q : a = 3 ∧ c = 2
    · rw [if_pos q, q.1, q.2]; exact ⟨h1, h2⟩
    · rw [if_neg q]
      have e : hiX b bt a c = hiX bn bt a c := by
        unfold hiX
        by_cases h3 : a = 3
        · subst h3
          have : c ≠ 2 := fun hc => q ⟨rfl, hc⟩
          simp [this]
        · simp [h3]
      rw [e]; exact h.1 a c
  · rw [up2_at, if_neg (fun q => by rw [q.1, q.2] at hac; exact absurd hac (by decide))]; exact h.2.1 a c hac
  · show (up2 M 3 2 v 5 5).toInt = cnt (up2 M 3 2 v 27) 126
    rw [up2_ne M 2 v (by decide), up2_ne M 2 v (by decide)]; exact h.2.2.2
theorem set_6_9 {b : Int} (h : IX bn bt G M) (h1 : 0 ≤ v.toInt) (h2 : v.toInt ≤ b) : IX bn b G (up2 M 6 9 v) := by
  refine ⟨fun a c => ?_, fun a c hac => ?_, h.2.2.1, ?_⟩
  · rw [up2_at]
    by_cases q : a = 6 ∧ c = 9
    · rw [if_pos q, q.1, q.2]; exact ⟨h1, h2⟩
    · rw [if_neg q]
      have e : hiX bn b a c = hiX bn bt a c := by
        unfold hiX
        by_cases h3 : a = 6
        · subst h3
          have : c ≠ 9 := fun hc => q ⟨rfl, hc⟩
          simp [this]
        · simp [h3]
      rw [e]; exact h.1 a c
  · rw [up2_at, if_neg (fun q => by rw [q.1, q.2] at hac; exact absurd hac (by decide))]; exact h.2.1 a c hac
  · show (up2 M 6 9 v 5 5).toInt = cnt (up2 M 6 9 v 27) 126
    rw [up2_ne M 9 v (by decide), up2_ne M 9 v (by decide)]; exact h.2.2.2
theorem lo_83 {i : Nat} (hi : i < 10) : loX (83 + i) j = 0 := by unfold loX; rw [if_neg (by omega), if_pos (by omega)]
theorem hi_83 {i : Nat} (hi : i < 10) : hiX bn bt (83 + i) j = 125 := by unfold hiX; rw [if_pos (by omega)]
theorem rd_83 (h : IX bn bt G M) {i : Nat} (hi : i < 10) (j : Nat) : 0 ≤ (M (83 + i) j).toInt ∧ (M (83 + i) j).toInt ≤ 125 := by have q := h.1 (83 + i) j; rw [lo_83 hi, hi_83 hi] at q; exact q
theorem up_83 (h : IX bn bt G M) {i : Nat} (hi : i < 10) (h1 : 0 ≤ v.toInt) (h2 : v.toInt ≤ 125) : IX bn bt G (up2 M (83 + i) j v) := h.up (pcl_hi (by omega)) (by omega) (by omega) (by rw [lo_83 hi]; exact h1) (by rw [hi_83 hi]; exact h2)
theorem lo_93 {i : Nat} (hi : i < 10) : loX (93 + i) j = 0 := by unfold loX; rw [if_neg (by omega), if_pos (by omega)]
theorem hi_93 {i : Nat} (hi : i < 10) : hiX bn bt (93 + i) j = 125 := by unfold hiX; rw [if_pos (by omega)]
theorem rd_93 (h : IX bn bt G M) {i : Nat} (hi : i < 10) (j : Nat) : 0 ≤ (M (93 + i) j).toInt ∧ (M (93 + i) j).toInt ≤ 125 := by have q := h.1 (93 + i) j; rw [lo_93 hi, hi_93 hi] at q; exact q
theorem up_93 (h : IX bn bt G M) {i : Nat} (hi : i < 10) (h1 : 0 ≤ v.toInt) (h2 : v.toInt ≤ 125) : IX bn bt G (up2 M (93 + i) j v) := h.up (pcl_hi (by omega)) (by omega) (by omega) (by rw [lo_93 hi]; exact h1) (by rw [hi_93 hi]; exact h2)
theorem lo_103 {i : Nat} (hi : i < 10) : loX (103 + i) j = (-1) := by unfold loX; rw [if_pos (by omega)]
theorem hi_103 {i : Nat} (hi : i < 10) : hiX bn bt (103 + i) j = 125 := by unfold hiX; rw [if_pos (by omega)]
theorem rd_103 (h : IX bn bt G M) {i : Nat} (hi : i < 10) (j : Nat) : (-1) ≤ (M (103 + i) j).toInt ∧ (M (103 + i) j).toInt ≤ 125 := by have q := h.1 (103 + i) j; rw [lo_103 hi, hi_103 hi] at q; exact q
theorem up_103 (h : IX bn bt G M) {i : Nat} (hi : i < 10) (h1 : (-1) ≤ v.toInt) (h2 : v.toInt ≤ 125) : IX bn bt G (up2 M (103 + i) j v) := h.up (pcl_hi (by omega)) (by omega) (by omega) (by rw [lo_103 hi]; exact h1) (by rw [hi_103 hi]; exact h2)
theorem lo_113 {i : Nat} (hi : i < 10) : loX (113 + i) j = (-1) := by unfold loX; rw [if_pos (by omega)]
theorem hi_113 {i : Nat} (hi : i < 10) : hiX bn bt (113 + i) j = 125 := by unfold hiX; rw [if_pos (by omega)]
theorem rd_113 (h : IX bn bt G M) {i : Nat} (hi : i < 10) (j : Nat) : (-1) ≤ (M (113 + i) j).toInt ∧ (M (113 + i) j).toInt ≤ 125 := by have q := h.1 (113 + i) j; rw [lo_113 hi, hi_113 hi] at q; exact q
theorem up_113 (h : IX bn bt G M) {i : Nat} (hi : i < 10) (h1 : (-1) ≤ v.toInt) (h2 : v.toInt ≤ 125) : IX bn bt G (up2 M (113 + i) j v) := h.up (pcl_hi (by omega)) (by omega) (by omega) (by rw [lo_113 hi]; exact h1) (by rw [hi_113 hi]; exact h2)
theorem lo_123 {i : Nat} (hi : i < 10) : loX (123 + i) j = (-1) := by unfold loX; rw [if_pos (by omega)]
theorem hi_123 {i : Nat} (hi : i < 10) : hiX bn bt (123 + i) j = 125 := by unfold hiX; rw [if_pos (by omega)]
theorem rd_123 (h : IX bn bt G M) {i : Nat} (hi : i < 10) (j : Nat) : (-1) ≤ (M (123 + i) j).toInt ∧ (M (123 + i) j).toInt ≤ 125 := by have q := h.1 (123 + i) j; rw [lo_123 hi, hi_123 hi] at q; exact q
theorem up_123 (h : IX bn bt G M) {i : Nat} (hi : i < 10) (h1 : (-1) ≤ v.toInt) (h2 : v.toInt ≤ 125) : IX bn bt G (up2 M (123 + i) j v) := h.up (pcl_hi (by omega)) (by omega) (by omega) (by rw [lo_123 hi]; exact h1) (by rw [hi_123 hi]; exact h2)
theorem pc_row {b i : Nat} (hb : b = 43 ∨ b = 53 ∨ b = 63 ∨ b = 73) (hi : i < 10) : pcl (b + i) j = true := by unfold pcl; simp; omega
theorem rd_kind (h : IX bn bt G M) {i : Nat} (hi : i < 10) (j : Nat) : M (43 + i) j = G (43 + i) j := h.2.1 _ _ (pc_row (by omega) hi)
theorem rd_53 (h : IX bn bt G M) {i : Nat} (hi : i < 10) (j : Nat) : (G (43 + i) j).toInt ≠ 7 → 0 ≤ (M (53 + i) j).toInt ∧ (M (53 + i) j).toInt ≤ 5 := by rw [h.2.1 (53 + i) j (pc_row (by omega) hi)]; exact (h.2.2.1 i j hi).1
theorem rd_63 (h : IX bn bt G M) {i : Nat} (hi : i < 10) (j : Nat) : (G (43 + i) j).toInt ≠ 0 → (G (43 + i) j).toInt ≠ 6 → 0 ≤ (M (63 + i) j).toInt ∧ (M (63 + i) j).toInt ≤ 5 := by rw [h.2.1 (63 + i) j (pc_row (by omega) hi)]; exact (h.2.2.1 i j hi).2.1
theorem rd_73 (h : IX bn bt G M) {i : Nat} (hi : i < 10) (j : Nat) : 2 ≤ (G (43 + i) j).toInt → (G (43 + i) j).toInt ≤ 5 → 0 ≤ (M (73 + i) j).toInt ∧ (M (73 + i) j).toInt ≤ 5 := by rw [h.2.1 (73 + i) j (pc_row (by omega) hi)]; exact (h.2.2.1 i j hi).2.2
theorem fillA_at (M : Sto) (k n : Nat) (v : Int32) (a b : Nat) : fillA M k n v a b = if a = k ∧ b < n then v else M a b := by
  unfold fillA
  by_cases h : a = k
  · subst h
    rw [if_pos rfl]
    by_cases h2 : b < n
    · simp [h2]
    · simp [h2]
  · rw [if_neg h, if_neg (fun q => h q.1)]
theorem IX.fill (h : IX bn bt G M) {k n : Nat} (hp : ∀ j, pcl k j = false) (h5 : k ≠ 5) (h27 : k ≠ 27) (h1 : ∀ j, loX k j ≤ v.toInt) (h2 : ∀ j, v.toInt ≤ hiX bn bt k j) : IX bn bt G (fillA M k n v) := by
  refine ⟨fun a b => ?_, fun a b hab => ?_, h.2.2.1, ?_⟩
  · rw [fillA_at]
    by_cases q : a = k ∧ b < n
    · rw [if_pos q, q.1]; exact ⟨h1 b, h2 b⟩
    · rw [if_neg q]; exact h.1 a b
  · rw [fillA_at, if_neg (fun q => by rw [q.1, hp] at hab; exact Bool.noConfusion hab)]; exact h.2.1 a b hab
  · show (fillA M k n v 5 5).toInt = cnt (fillA M k n v 27) 126
    rw [fillA_ne M n v (Ne.symm h5), fillA_ne M n v (Ne.symm h27)]; exact h.2.2.2
theorem fl_12 (h : IX bn bt G M) {n : Nat} : IX bn bt G (fillA M 12 n v) := h.fill (fun _ => rfl) (by decide) (by decide) (fun _ => i32_lo v) (fun _ => i32_hi v)
theorem fl_13 (h : IX bn bt G M) {n : Nat} : IX bn bt G (fillA M 13 n v) := h.fill (fun _ => rfl) (by decide) (by decide) (fun _ => i32_lo v) (fun _ => i32_hi v)
theorem fl_14 (h : IX bn bt G M) {n : Nat} (h1 : (-1) ≤ v.toInt) (h2 : v.toInt ≤ 9) : IX bn bt G (fillA M 14 n v) := h.fill (fun _ => rfl) (by decide) (by decide) (fun _ => h1) (fun _ => h2)
theorem fl_15 (h : IX bn bt G M) {n : Nat} : IX bn bt G (fillA M 15 n v) := h.fill (fun _ => rfl) (by decide) (by decide) (fun _ => i32_lo v) (fun _ => i32_hi v)
theorem fl_16 (h : IX bn bt G M) {n : Nat} (h1 : 0 ≤ v.toInt) (h2 : v.toInt ≤ 9) : IX bn bt G (fillA M 16 n v) := h.fill (fun _ => rfl) (by decide) (by decide) (fun _ => h1) (fun _ => h2)
theorem fl_17 (h : IX bn bt G M) {n : Nat} (h1 : 0 ≤ v.toInt) (h2 : v.toInt ≤ 9) : IX bn bt G (fillA M 17 n v) := h.fill (fun _ => rfl) (by decide) (by decide) (fun _ => h1) (fun _ => h2)
theorem fl_18 (h : IX bn bt G M) {n : Nat} : IX bn bt G (fillA M 18 n v) := h.fill (fun _ => rfl) (by decide) (by decide) (fun _ => i32_lo v) (fun _ => i32_hi v)
theorem fl_19 (h : IX bn bt G M) {n : Nat} : IX bn bt G (fillA M 19 n v) := h.fill (fun _ => rfl) (by decide) (by decide) (fun _ => i32_lo v) (fun _ => i32_hi v)
theorem fl_20 (h : IX bn bt G M) {n : Nat} (h1 : (-1) ≤ v.toInt) (h2 : v.toInt ≤ 125) : IX bn bt G (fillA M 20 n v) := h.fill (fun _ => rfl) (by decide) (by decide) (fun _ => h1) (fun _ => h2)
theorem fl_21 (h : IX bn bt G M) {n : Nat} (h1 : (-1) ≤ v.toInt) (h2 : v.toInt ≤ 9) : IX bn bt G (fillA M 21 n v) := h.fill (fun _ => rfl) (by decide) (by decide) (fun _ => h1) (fun _ => h2)
theorem fl_22 (h : IX bn bt G M) {n : Nat} (h1 : (-1) ≤ v.toInt) (h2 : v.toInt ≤ 5) : IX bn bt G (fillA M 22 n v) := h.fill (fun _ => rfl) (by decide) (by decide) (fun _ => h1) (fun _ => h2)
theorem fl_23 (h : IX bn bt G M) {n : Nat} (h1 : 0 ≤ v.toInt) (h2 : v.toInt ≤ 5) : IX bn bt G (fillA M 23 n v) := h.fill (fun _ => rfl) (by decide) (by decide) (fun _ => h1) (fun _ => h2)
theorem fl_24 (h : IX bn bt G M) {n : Nat} : IX bn bt G (fillA M 24 n v) := h.fill (fun _ => rfl) (by decide) (by decide) (fun _ => i32_lo v) (fun _ => i32_hi v)
theorem fl_25 (h : IX bn bt G M) {n : Nat} : IX bn bt G (fillA M 25 n v) := h.fill (fun _ => rfl) (by decide) (by decide) (fun _ => i32_lo v) (fun _ => i32_hi v)
theorem fl_26 (h : IX bn bt G M) {n : Nat} : IX bn bt G (fillA M 26 n v) := h.fill (fun _ => rfl) (by decide) (by decide) (fun _ => i32_lo v) (fun _ => i32_hi v)
theorem fl_28 (h : IX bn bt G M) {n : Nat} (h1 : 0 ≤ v.toInt) (h2 : v.toInt ≤ 125) : IX bn bt G (fillA M 28 n v) := h.fill (fun _ => rfl) (by decide) (by decide) (fun _ => h1) (fun _ => h2)
theorem fl_29 (h : IX bn bt G M) {n : Nat} : IX bn bt G (fillA M 29 n v) := h.fill (fun _ => rfl) (by decide) (by decide) (fun _ => i32_lo v) (fun _ => i32_hi v)
theorem fl_30 (h : IX bn bt G M) {n : Nat} : IX bn bt G (fillA M 30 n v) := h.fill (fun _ => rfl) (by decide) (by decide) (fun _ => i32_lo v) (fun _ => i32_hi v)
theorem fl_31 (h : IX bn bt G M) {n : Nat} : IX bn bt G (fillA M 31 n v) := h.fill (fun _ => rfl) (by decide) (by decide) (fun _ => i32_lo v) (fun _ => i32_hi v)
theorem fl_32 (h : IX bn bt G M) {n : Nat} : IX bn bt G (fillA M 32 n v) := h.fill (fun _ => rfl) (by decide) (by decide) (fun _ => i32_lo v) (fun _ => i32_hi v)
theorem fl_33 (h : IX bn bt G M) {n : Nat} : IX bn bt G (fillA M 33 n v) := h.fill (fun _ => rfl) (by decide) (by decide) (fun _ => i32_lo v) (fun _ => i32_hi v)
end IXs
end
section
theorem s_m_P_has {bn bt : Int} {G : Sto} {x1 : Int32} {M : Sto} (hI : IX bn bt G M) : Ok (fun a => M = a.2 ∧ 0 ≤ a.1.toInt ∧ a.1.toInt ≤ 1 ∧ (a.1.toInt ≠ 0 → 0 ≤ x1.toInt ∧ x1.toInt ≤ 9)) (m_P_has x1 M) := by
  have hR : ∀ r : Int32, 0 ≤ r.toInt → r.toInt ≤ 1 → (r.toInt ≠ 0 → 0 ≤ x1.toInt ∧ x1.toInt ≤ 9) → (fun a : Int32 × Sto => M = a.2 ∧ 0 ≤ a.1.toInt ∧ a.1.toInt ≤ 1 ∧ (a.1.toInt ≠ 0 → 0 ≤ x1.toInt ∧ x1.toInt ≤ 9)) (r, M) := fun r h0 h1 h2 => ⟨rfl, h0, h1, h2⟩
  unfold m_P_has
  have n1 : (0 : Int32).toInt = 0 := rfl
  refine Ok.lt (fun c2 => ?_) (fun c2 => ?_)
  · unfold j_P_has_16
    unfold j_P_has_17
    refine Ok.bzI (by omega) (by omega) ?_
    exact Ok.some (hR (0 : Int32) (by omega) (by omega) (by omega))
  · have f3 := rd_1_0 hI
    refine Ok.le (fun c4 => ?_) (fun c4 => ?_)
    · unfold j_P_has_16
      unfold j_P_has_17
      refine Ok.bzI (by omega) (by omega) ?_
      exact Ok.some (hR (0 : Int32) (by omega) (by omega) (by omega))
    · have n5 : (1 : Int32).toInt = 1 := rfl
      unfold j_P_has_17
      refine Ok.bzI (by omega) (by omega) ?_
      exact Ok.some (hR (1 : Int32) (by omega) (by omega) (by omega))
theorem s_m_N_setsVariable {bn bt : Int} {G : Sto} {x0 : Int32} {M : Sto} (hI : IX bn bt G M) : Ok (fun a => M = a.2 ∧ 0 ≤ a.1.toInt ∧ a.1.toInt ≤ 1 ∧ (a.1.toInt ≠ 0 ↔ x0.toInt ≠ 7)) (m_N_setsVariable x0 M) := by
  have hR : ∀ r : Int32, 0 ≤ r.toInt → r.toInt ≤ 1 → (r.toInt ≠ 0 ↔ x0.toInt ≠ 7) → (fun a : Int32 × Sto => M = a.2 ∧ 0 ≤ a.1.toInt ∧ a.1.toInt ≤ 1 ∧ (a.1.toInt ≠ 0 ↔ x0.toInt ≠ 7)) (r, M) := fun r h0 h1 h2 => ⟨rfl, h0, h1, h2⟩
  unfold m_N_setsVariable
  have n1 : (7 : Int32).toInt = 7 := rfl
  refine Ok.eq (fun c2 => ?_) (fun c2 => ?_)
  · have n3 : (0 : Int32).toInt = 0 := rfl
    unfold j_N_setsVariable_11
    refine Ok.bzI (by omega) (by omega) ?_
    exact Ok.some (hR (0 : Int32) (by omega) (by omega) (by omega))
  · have n4 : (1 : Int32).toInt = 1 := rfl
    unfold j_N_setsVariable_11
    refine Ok.bzI (by omega) (by omega) ?_
    exact Ok.some (hR (1 : Int32) (by omega) (by omega) (by omega))
theorem s_m_N_isVariable {bn bt : Int} {G : Sto} {x0 : Int32} {M : Sto} (hI : IX bn bt G M) : Ok (fun a => M = a.2 ∧ 0 ≤ a.1.toInt ∧ a.1.toInt ≤ 1 ∧ (a.1.toInt ≠ 0 ↔ 0 ≤ x0.toInt ∧ x0.toInt ≤ 5)) (m_N_isVariable x0 M) := by
  have hR : ∀ r : Int32, 0 ≤ r.toInt → r.toInt ≤ 1 → (r.toInt ≠ 0 ↔ 0 ≤ x0.toInt ∧ x0.toInt ≤ 5) → (fun a : Int32 × Sto => M = a.2 ∧ 0 ≤ a.1.toInt ∧ a.1.toInt ≤ 1 ∧ (a.1.toInt ≠ 0 ↔ 0 ≤ x0.toInt ∧ x0.toInt ≤ 5)) (r, M) := fun r h0 h1 h2 => ⟨rfl, h0, h1, h2⟩
  unfold m_N_isVariable
  have n1 : (0 : Int32).toInt = 0 := rfl
  refine Ok.lt (fun c2 => ?_) (fun c2 => ?_)
  · unfold j_N_isVariable_14
    unfold j_N_isVariable_15
    refine Ok.bzI (by omega) (by omega) ?_
    exact Ok.some (hR (0 : Int32) (by omega) (by omega) (by omega))
  · have n3 : (6 : Int32).toInt = 6 := rfl
    refine Ok.le (fun c4 => ?_) (fun c4 => ?_)
    · unfold j_N_isVariable_14
      unfold j_N_isVariable_15
      refine Ok.bzI (by omega) (by omega) ?_
      exact Ok.some (hR (0 : Int32) (by omega) (by omega) (by omega))
    · have n5 : (1 : Int32).toInt = 1 := rfl
      unfold j_N_isVariable_15
      refine Ok.bzI (by omega) (by omega) ?_
      exact Ok.some (hR (1 : Int32) (by omega) (by omega) (by omega))
theorem s_m_N_readsX {bn bt : Int} {G : Sto} {x0 : Int32} {M : Sto} (hI : IX bn bt G M) : Ok (fun a => M = a.2 ∧ 0 ≤ a.1.toInt ∧ a.1.toInt ≤ 1 ∧ (a.1.toInt ≠ 0 ↔ x0.toInt ≠ 0 ∧ x0.toInt ≠ 6)) (m_N_readsX x0 M) := by
  have hR : ∀ r : Int32, 0 ≤ r.toInt → r.toInt ≤ 1 → (r.toInt ≠ 0 ↔ x0.toInt ≠ 0 ∧ x0.toInt ≠ 6) → (fun a : Int32 × Sto => M = a.2 ∧ 0 ≤ a.1.toInt ∧ a.1.toInt ≤ 1 ∧ (a.1.toInt ≠ 0 ↔ x0.toInt ≠ 0 ∧ x0.toInt ≠ 6)) (r, M) := fun r h0 h1 h2 => ⟨rfl, h0, h1, h2⟩
  unfold m_N_readsX
  have n1 : (0 : Int32).toInt = 0 := rfl
  refine Ok.eq (fun c2 => ?_) (fun c2 => ?_)
  · unfold j_N_readsX_14
    unfold j_N_readsX_15
    refine Ok.bzI (by omega) (by omega) ?_
    exact Ok.some (hR (0 : Int32) (by omega) (by omega) (by omega))
  · have n3 : (6 : Int32).toInt = 6 := rfl
    refine Ok.eq (fun c4 => ?_) (fun c4 => ?_)
    · unfold j_N_readsX_14
      unfold j_N_readsX_15
      refine Ok.bzI (by omega) (by omega) ?_
      exact Ok.some (hR (0 : Int32) (by omega) (by omega) (by omega))
    · have n5 : (1 : Int32).toInt = 1 := rfl
      unfold j_N_readsX_15
      refine Ok.bzI (by omega) (by omega) ?_
      exact Ok.some (hR (1 : Int32) (by omega) (by omega) (by omega))
theorem s_m_N_readsY {bn bt : Int} {G : Sto} {x0 : Int32} {M : Sto} (hI : IX bn bt G M) : Ok (fun a => M = a.2 ∧ 0 ≤ a.1.toInt ∧ a.1.toInt ≤ 1 ∧ (a.1.toInt ≠ 0 ↔ 2 ≤ x0.toInt ∧ x0.toInt ≤ 5)) (m_N_readsY x0 M) := by
  have hR : ∀ r : Int32, 0 ≤ r.toInt → r.toInt ≤ 1 → (r.toInt ≠ 0 ↔ 2 ≤ x0.toInt ∧ x0.toInt ≤ 5) → (fun a : Int32 × Sto => M = a.2 ∧ 0 ≤ a.1.toInt ∧ a.1.toInt ≤ 1 ∧ (a.1.toInt ≠ 0 ↔ 2 ≤ x0.toInt ∧ x0.toInt ≤ 5)) (r, M) := fun r h0 h1 h2 => ⟨rfl, h0, h1, h2⟩
  unfold m_N_readsY
  have n1 : (2 : Int32).toInt = 2 := rfl
  refine Ok.lt (fun c2 => ?_) (fun c2 => ?_)
  · unfold j_N_readsY_14
    have n3 : (0 : Int32).toInt = 0 := rfl
    unfold j_N_readsY_15
    refine Ok.bzI (by omega) (by omega) ?_
    exact Ok.some (hR (0 : Int32) (by omega) (by omega) (by omega))
  · have n4 : (5 : Int32).toInt = 5 := rfl
    refine Ok.lt (fun c5 => ?_) (fun c5 => ?_)
    · unfold j_N_readsY_14
      have n6 : (0 : Int32).toInt = 0 := rfl
      unfold j_N_readsY_15
      refine Ok.bzI (by omega) (by omega) ?_
      exact Ok.some (hR (0 : Int32) (by omega) (by omega) (by omega))
    · have n7 : (1 : Int32).toInt = 1 := rfl
      unfold j_N_readsY_15
      refine Ok.bzI (by omega) (by omega) ?_
      exact Ok.some (hR (1 : Int32) (by omega) (by omega) (by omega))
theorem s_m_N_isInstruction {bn bt : Int} {G : Sto} {x0 x1 x2 x3 : Int32} {M : Sto} (hI : IX bn bt G M) : Ok (fun a => M = a.2 ∧ 0 ≤ a.1.toInt ∧ a.1.toInt ≤ 1 ∧ (a.1.toInt ≠ 0 → (x0.toInt ≠ 7 → 0 ≤ x1.toInt ∧ x1.toInt ≤ 5) ∧ (x0.toInt ≠ 0 → x0.toInt ≠ 6 → 0 ≤ x2.toInt ∧ x2.toInt ≤ 5) ∧ (2 ≤ x0.toInt → x0.toInt ≤ 5 → 0 ≤ x3.toInt ∧ x3.toInt ≤ 5))) (m_N_isInstruction x0 x1 x2 x3 M) := by
  have hR : ∀ r : Int32, 0 ≤ r.toInt → r.toInt ≤ 1 → (r.toInt ≠ 0 → (x0.toInt ≠ 7 → 0 ≤ x1.toInt ∧ x1.toInt ≤ 5) ∧ (x0.toInt ≠ 0 → x0.toInt ≠ 6 → 0 ≤ x2.toInt ∧ x2.toInt ≤ 5) ∧ (2 ≤ x0.toInt → x0.toInt ≤ 5 → 0 ≤ x3.toInt ∧ x3.toInt ≤ 5)) → (fun a : Int32 × Sto => M = a.2 ∧ 0 ≤ a.1.toInt ∧ a.1.toInt ≤ 1 ∧ (a.1.toInt ≠ 0 → (x0.toInt ≠ 7 → 0 ≤ x1.toInt ∧ x1.toInt ≤ 5) ∧ (x0.toInt ≠ 0 → x0.toInt ≠ 6 → 0 ≤ x2.toInt ∧ x2.toInt ≤ 5) ∧ (2 ≤ x0.toInt → x0.toInt ≤ 5 → 0 ≤ x3.toInt ∧ x3.toInt ≤ 5))) (r, M) := fun r h0 h1 h2 => ⟨rfl, h0, h1, h2⟩
  unfold m_N_isInstruction
  have n1 : (0 : Int32).toInt = 0 := rfl
  refine Ok.lt (fun c2 => ?_) (fun c2 => ?_)
  · unfold j_N_isInstruction_56
    unfold j_N_isInstruction_57
    refine Ok.bzI (by omega) (by omega) ?_
    exact Ok.some (hR (0 : Int32) (by omega) (by omega) (by omega))
  · have n3 : (7 : Int32).toInt = 7 := rfl
    refine Ok.lt (fun c4 => ?_) (fun c4 => ?_)
    · unfold j_N_isInstruction_56
      unfold j_N_isInstruction_57
      refine Ok.bzI (by omega) (by omega) ?_
      exact Ok.some (hR (0 : Int32) (by omega) (by omega) (by omega))
    · refine Ok.bind (s_m_N_setsVariable (x0 := x0) hI) (fun r5 M6 q7 => ?_)
      dsimp only at q7
      obtain ⟨q8, q9, q10, q11⟩ := q7
      have q8 : M = M6 := q8
      subst q8
      dsimp only
      refine Ok.eq (fun c12 => ?_) (fun c12 => ?_)
      · unfold j_N_isInstruction_24
        refine Ok.bind (s_m_N_readsX (x0 := x0) hI) (fun r13 M14 q15 => ?_)
        dsimp only at q15
        obtain ⟨q16, q17, q18, q19⟩ := q15
        have q16 : M = M14 := q16
        subst q16
        dsimp only
        refine Ok.eq (fun c20 => ?_) (fun c20 => ?_)
        · unfold j_N_isInstruction_38
          refine Ok.bind (s_m_N_readsY (x0 := x0) hI) (fun r21 M22 q23 => ?_)
          dsimp only at q23
          obtain ⟨q24, q25, q26, q27⟩ := q23
          have q24 : M = M22 := q24
          subst q24
          dsimp only
          refine Ok.eq (fun c28 => ?_) (fun c28 => ?_)
          · unfold j_N_isInstruction_52
            have n29 : (1 : Int32).toInt = 1 := rfl
            unfold j_N_isInstruction_57
            refine Ok.bzI (by omega) (by omega) ?_
            exact Ok.some (hR (1 : Int32) (by omega) (by omega) (by omega))
          · refine Ok.bind (s_m_N_isVariable (x0 := x3) hI) (fun r30 M31 q32 => ?_)
            dsimp only at q32
            obtain ⟨q33, q34, q35, q36⟩ := q32
            have q33 : M = M31 := q33
            subst q33
            dsimp only
            refine Ok.eq (fun c37 => ?_) (fun c37 => ?_)
            · unfold j_N_isInstruction_56
              unfold j_N_isInstruction_57
              refine Ok.bzI (by omega) (by omega) ?_
              exact Ok.some (hR (0 : Int32) (by omega) (by omega) (by omega))
            · unfold j_N_isInstruction_52
              have n38 : (1 : Int32).toInt = 1 := rfl
              unfold j_N_isInstruction_57
              refine Ok.bzI (by omega) (by omega) ?_
              exact Ok.some (hR (1 : Int32) (by omega) (by omega) (by omega))
        · refine Ok.bind (s_m_N_isVariable (x0 := x2) hI) (fun r39 M40 q41 => ?_)
          dsimp only at q41
          obtain ⟨q42, q43, q44, q45⟩ := q41
          have q42 : M = M40 := q42
          subst q42
          dsimp only
          refine Ok.eq (fun c46 => ?_) (fun c46 => ?_)
          · unfold j_N_isInstruction_56
            unfold j_N_isInstruction_57
            refine Ok.bzI (by omega) (by omega) ?_
            exact Ok.some (hR (0 : Int32) (by omega) (by omega) (by omega))
          · unfold j_N_isInstruction_38
            refine Ok.bind (s_m_N_readsY (x0 := x0) hI) (fun r47 M48 q49 => ?_)
            dsimp only at q49
            obtain ⟨q50, q51, q52, q53⟩ := q49
            have q50 : M = M48 := q50
            subst q50
            dsimp only
            refine Ok.eq (fun c54 => ?_) (fun c54 => ?_)
            · unfold j_N_isInstruction_52
              have n55 : (1 : Int32).toInt = 1 := rfl
              unfold j_N_isInstruction_57
              refine Ok.bzI (by omega) (by omega) ?_
              exact Ok.some (hR (1 : Int32) (by omega) (by omega) (by omega))
            · refine Ok.bind (s_m_N_isVariable (x0 := x3) hI) (fun r56 M57 q58 => ?_)
              dsimp only at q58
              obtain ⟨q59, q60, q61, q62⟩ := q58
              have q59 : M = M57 := q59
              subst q59
              dsimp only
              refine Ok.eq (fun c63 => ?_) (fun c63 => ?_)
              · unfold j_N_isInstruction_56
                unfold j_N_isInstruction_57
                refine Ok.bzI (by omega) (by omega) ?_
                exact Ok.some (hR (0 : Int32) (by omega) (by omega) (by omega))
              · unfold j_N_isInstruction_52
                have n64 : (1 : Int32).toInt = 1 := rfl
                unfold j_N_isInstruction_57
                refine Ok.bzI (by omega) (by omega) ?_
                exact Ok.some (hR (1 : Int32) (by omega) (by omega) (by omega))
      · refine Ok.bind (s_m_N_isVariable (x0 := x1) hI) (fun r65 M66 q67 => ?_)
        dsimp only at q67
        obtain ⟨q68, q69, q70, q71⟩ := q67
        have q68 : M = M66 := q68
        subst q68
        dsimp only
        refine Ok.eq (fun c72 => ?_) (fun c72 => ?_)
        · unfold j_N_isInstruction_56
          unfold j_N_isInstruction_57
          refine Ok.bzI (by omega) (by omega) ?_
          exact Ok.some (hR (0 : Int32) (by omega) (by omega) (by omega))
        · unfold j_N_isInstruction_24
          refine Ok.bind (s_m_N_readsX (x0 := x0) hI) (fun r73 M74 q75 => ?_)
          dsimp only at q75
          obtain ⟨q76, q77, q78, q79⟩ := q75
          have q76 : M = M74 := q76
          subst q76
          dsimp only
          refine Ok.eq (fun c80 => ?_) (fun c80 => ?_)
          · unfold j_N_isInstruction_38
            refine Ok.bind (s_m_N_readsY (x0 := x0) hI) (fun r81 M82 q83 => ?_)
            dsimp only at q83
            obtain ⟨q84, q85, q86, q87⟩ := q83
            have q84 : M = M82 := q84
            subst q84
            dsimp only
            refine Ok.eq (fun c88 => ?_) (fun c88 => ?_)
            · unfold j_N_isInstruction_52
              have n89 : (1 : Int32).toInt = 1 := rfl
              unfold j_N_isInstruction_57
              refine Ok.bzI (by omega) (by omega) ?_
              exact Ok.some (hR (1 : Int32) (by omega) (by omega) (by omega))
            · refine Ok.bind (s_m_N_isVariable (x0 := x3) hI) (fun r90 M91 q92 => ?_)
              dsimp only at q92
              obtain ⟨q93, q94, q95, q96⟩ := q92
              have q93 : M = M91 := q93
              subst q93
              dsimp only
              refine Ok.eq (fun c97 => ?_) (fun c97 => ?_)
              · unfold j_N_isInstruction_56
                unfold j_N_isInstruction_57
                refine Ok.bzI (by omega) (by omega) ?_
                exact Ok.some (hR (0 : Int32) (by omega) (by omega) (by omega))
              · unfold j_N_isInstruction_52
                have n98 : (1 : Int32).toInt = 1 := rfl
                unfold j_N_isInstruction_57
                refine Ok.bzI (by omega) (by omega) ?_
                exact Ok.some (hR (1 : Int32) (by omega) (by omega) (by omega))
          · refine Ok.bind (s_m_N_isVariable (x0 := x2) hI) (fun r99 M100 q101 => ?_)
            dsimp only at q101
            obtain ⟨q102, q103, q104, q105⟩ := q101
            have q102 : M = M100 := q102
            subst q102
            dsimp only
            refine Ok.eq (fun c106 => ?_) (fun c106 => ?_)
            · unfold j_N_isInstruction_56
              unfold j_N_isInstruction_57
              refine Ok.bzI (by omega) (by omega) ?_
              exact Ok.some (hR (0 : Int32) (by omega) (by omega) (by omega))
            · unfold j_N_isInstruction_38
              refine Ok.bind (s_m_N_readsY (x0 := x0) hI) (fun r107 M108 q109 => ?_)
              dsimp only at q109
              obtain ⟨q110, q111, q112, q113⟩ := q109
              have q110 : M = M108 := q110
              subst q110
              dsimp only
              refine Ok.eq (fun c114 => ?_) (fun c114 => ?_)
              · unfold j_N_isInstruction_52
                have n115 : (1 : Int32).toInt = 1 := rfl
                unfold j_N_isInstruction_57
                refine Ok.bzI (by omega) (by omega) ?_
                exact Ok.some (hR (1 : Int32) (by omega) (by omega) (by omega))
              · refine Ok.bind (s_m_N_isVariable (x0 := x3) hI) (fun r116 M117 q118 => ?_)
                dsimp only at q118
                obtain ⟨q119, q120, q121, q122⟩ := q118
                have q119 : M = M117 := q119
                subst q119
                dsimp only
                refine Ok.eq (fun c123 => ?_) (fun c123 => ?_)
                · unfold j_N_isInstruction_56
                  unfold j_N_isInstruction_57
                  refine Ok.bzI (by omega) (by omega) ?_
                  exact Ok.some (hR (0 : Int32) (by omega) (by omega) (by omega))
                · unfold j_N_isInstruction_52
                  have n124 : (1 : Int32).toInt = 1 := rfl
                  unfold j_N_isInstruction_57
                  refine Ok.bzI (by omega) (by omega) ?_
                  exact Ok.some (hR (1 : Int32) (by omega) (by omega) (by omega))
theorem s_m_P_isTarget {bn bt : Int} {G : Sto} {x1 : Int32} {M : Sto} (hI : IX bn bt G M) : Ok (fun a => M = a.2 ∧ 0 ≤ a.1.toInt ∧ a.1.toInt ≤ 1 ∧ (a.1.toInt ≠ 0 → 1 ≤ x1.toInt ∧ x1.toInt ≤ 9)) (m_P_isTarget x1 M) := by
  have hR : ∀ r : Int32, 0 ≤ r.toInt → r.toInt ≤ 1 → (r.toInt ≠ 0 → 1 ≤ x1.toInt ∧ x1.toInt ≤ 9) → (fun a : Int32 × Sto => M = a.2 ∧ 0 ≤ a.1.toInt ∧ a.1.toInt ≤ 1 ∧ (a.1.toInt ≠ 0 → 1 ≤ x1.toInt ∧ x1.toInt ≤ 9)) (r, M) := fun r h0 h1 h2 => ⟨rfl, h0, h1, h2⟩
  unfold m_P_isTarget
  have n1 : (0 : Int32).toInt = 0 := rfl
  refine Ok.eq (fun c2 => ?_) (fun c2 => ?_)
  · unfold j_P_isTarget_16
    unfold j_P_isTarget_17
    refine Ok.bzI (by omega) (by omega) ?_
    exact Ok.some (hR (0 : Int32) (by omega) (by omega) (by omega))
  · refine Ok.bind (s_m_P_has (x1 := x1) hI) (fun r3 M4 q5 => ?_)
    dsimp only at q5
    obtain ⟨q6, q7, q8, q9⟩ := q5
    have q6 : M = M4 := q6
    subst q6
    dsimp only
    refine Ok.eq (fun c10 => ?_) (fun c10 => ?_)
    · unfold j_P_isTarget_16
      unfold j_P_isTarget_17
      refine Ok.bzI (by omega) (by omega) ?_
      exact Ok.some (hR (0 : Int32) (by omega) (by omega) (by omega))
    · have n11 : (1 : Int32).toInt = 1 := rfl
      unfold j_P_isTarget_17
      refine Ok.bzI (by omega) (by omega) ?_
      exact Ok.some (hR (1 : Int32) (by omega) (by omega) (by omega))
theorem s_m_N_bit {bn bt : Int} {G : Sto} {x0 : Int32} {M : Sto} (hI : IX bn bt G M) : Ok (fun a => M = a.2) (m_N_bit x0 M) := by
  have hR : ∀ r : Int32, (fun a : Int32 × Sto => M = a.2) (r, M) := fun r => rfl
  unfold m_N_bit
  have n1 : (1 : Int32).toInt = 1 := rfl
  have n2 : (31 : Int32).toInt = 31 := rfl
  exact Ok.some (hR (1 <<< (x0 &&& 31)))
theorem s_j_N_holds_14 {bn bt : Int} {G : Sto} {P : Int32 × Sto → Prop} {s0 : Int32} {M : Sto} (hR : ∀ r : Int32, 0 ≤ r.toInt → r.toInt ≤ 1 → P (r, M)) (hI : IX bn bt G M) (r0 : 0 ≤ s0.toInt) (r1 : s0.toInt ≤ 1) : Ok P (j_N_holds_14 s0 M) := by
  unfold j_N_holds_14
  refine Ok.bzI (by omega) (by omega) ?_
  exact Ok.some (hR s0 (by omega) (by omega))
theorem s_m_N_holds {bn bt : Int} {G : Sto} {x0 x1 : Int32} {M : Sto} (hI : IX bn bt G M) : Ok (fun a => M = a.2 ∧ 0 ≤ a.1.toInt ∧ a.1.toInt ≤ 1) (m_N_holds x0 x1 M) := by
  have hR : ∀ r : Int32, 0 ≤ r.toInt → r.toInt ≤ 1 → (fun a : Int32 × Sto => M = a.2 ∧ 0 ≤ a.1.toInt ∧ a.1.toInt ≤ 1) (r, M) := fun r h0 h1 => ⟨rfl, h0, h1⟩
  unfold m_N_holds
  refine Ok.bind (s_m_N_bit (x0 := x1) hI) (fun r1 M2 q3 => ?_)
  dsimp only at q3
  have q4 := q3
  have q4 : M = M2 := q4
  subst q4
  dsimp only
  have n5 : (0 : Int32).toInt = 0 := rfl
  refine Ok.eq (fun c6 => ?_) (fun c6 => ?_)
  · exact s_j_N_holds_14 (s0 := 0) hR hI (by omega) (by omega)
  · have n7 : (1 : Int32).toInt = 1 := rfl
    exact s_j_N_holds_14 (s0 := 1) hR hI (by omega) (by omega)
theorem s_j_P_ways_32 {bn bt : Int} {G : Sto} {P : Int32 × Sto → Prop} {s0 : Int32} {M : Sto} (hR : ∀ r : Int32, P (r, M)) (hI : IX bn bt G M) : Ok P (j_P_ways_32 s0 M) := by
  unfold j_P_ways_32
  exact Ok.some (hR s0)
theorem s_m_P_ways {bn bt : Int} {G : Sto} {x1 : Int32} {M : Sto} (hI : IX bn bt G M) (r0 : 0 ≤ x1.toInt) (r1 : x1.toInt ≤ 9) : Ok (fun a => M = a.2) (m_P_ways x1 M) := by
  have hR : ∀ r : Int32, (fun a : Int32 × Sto => M = a.2) (r, M) := fun r => rfl
  unfold m_P_ways
  refine Ok.okI (by omega) (by omega) ?_
  have n1 : (0 : Int32).toInt = 0 := rfl
  refine Ok.eq (fun c2 => ?_) (fun c2 => ?_)
  · exact s_j_P_ways_32 (s0 := 0) hR hI
  · refine Ok.okI (by omega) (by omega) ?_
    have f3 := rd_10 hI x1.toNatClampNeg
    refine Ok.bind (s_m_N_bit (x0 := (M 10 x1.toNatClampNeg)) hI) (fun r4 M5 q6 => ?_)
    dsimp only at q6
    have q7 := q6
    have q7 : M = M5 := q7
    subst q7
    dsimp only
    refine Ok.okI (by omega) (by omega) ?_
    have f8 := rd_11 hI x1.toNatClampNeg
    refine Ok.bind (s_m_N_bit (x0 := (M 11 x1.toNatClampNeg)) hI) (fun r9 M10 q11 => ?_)
    dsimp only at q11
    have q12 := q11
    have q12 : M = M10 := q12
    subst q12
    dsimp only
    exact s_j_P_ways_32 (s0 := (r4 ||| r9)) hR hI
theorem s_j_N_calculate_64 {bn bt : Int} {G : Sto} {P : Int32 × Sto → Prop} {s0 : Int32} {M : Sto} (hR : ∀ r : Int32, P (r, M)) (hI : IX bn bt G M) (r0 : 0 ≤ s0.toInt) (r1 : s0.toInt ≤ 1) : Ok P (j_N_calculate_64 s0 M) := by
  unfold j_N_calculate_64
  exact Ok.some (hR s0)
theorem s_m_N_calculate {bn bt : Int} {G : Sto} {x0 x1 x2 : Int32} {M : Sto} (hI : IX bn bt G M) : Ok (fun a => M = a.2) (m_N_calculate x0 x1 x2 M) := by
  have hR : ∀ r : Int32, (fun a : Int32 × Sto => M = a.2) (r, M) := fun r => rfl
  unfold m_N_calculate
  have n1 : (0 : Int32).toInt = 0 := rfl
  refine Ok.eq (fun c2 => ?_) (fun c2 => ?_)
  · exact Ok.some (hR x1)
  · have n3 : (1 : Int32).toInt = 1 := rfl
    refine Ok.eq (fun c4 => ?_) (fun c4 => ?_)
    · exact Ok.some (hR x1)
    · have n5 : (2 : Int32).toInt = 2 := rfl
      refine Ok.eq (fun c6 => ?_) (fun c6 => ?_)
      · exact Ok.some (hR (x1 + x2))
      · have n7 : (3 : Int32).toInt = 3 := rfl
        refine Ok.eq (fun c8 => ?_) (fun c8 => ?_)
        · exact Ok.some (hR (x1 - x2))
        · have n9 : (4 : Int32).toInt = 4 := rfl
          refine Ok.eq (fun c10 => ?_) (fun c10 => ?_)
          · exact Ok.some (hR (x1 * x2))
          · have n11 : (5 : Int32).toInt = 5 := rfl
            refine Ok.eq (fun c12 => ?_) (fun c12 => ?_)
            · refine Ok.le (fun c13 => ?_) (fun c13 => ?_)
              · exact s_j_N_calculate_64 (s0 := 0) hR hI (by omega) (by omega)
              · exact s_j_N_calculate_64 (s0 := 1) hR hI (by omega) (by omega)
            · exact Ok.some (hR 0)
end
section
theorem s_j_S_comeBy_74 {bn bt : Int} {G : Sto} {P : Int32 × Sto → Prop} {v2 : Int32} {M : Sto} (hR : ∀ r : Int32, P (r, M)) (hI : IX bn bt G M) : Ok P (j_S_comeBy_74 v2 M) := by
  unfold j_S_comeBy_74
  exact Ok.some (hR v2)
theorem s_j_S_comeBy_68 {bn bt : Int} {G : Sto} {P : Int32 × Sto → Prop} {g : Int32 → Int32 → Int32 → Sto → Option (Int32 × Sto)} {k : Int32 → Sto → Option (Int32 × Sto)} {n : Nat} {v1 v2 v3 : Int32} {M : Sto} (hg : ∀ (e2 e3 : Int32), 1 ≤ e3.toInt → e3.toInt ≤ 10 → 11 - e3.toInt ≤ (n : Int) → Ok P (g v1 e2 e3 M)) (hk : ∀ (e2 : Int32), Ok P (k e2 M)) (hI : IX bn bt G M) (r0 : 1 ≤ v3.toInt) (r1 : v3.toInt ≤ 9) (hn : 11 - v3.toInt ≤ (n : Int) + 1) : Ok P (j_S_comeBy_68 g k v1 v2 v3 M) := by
  unfold j_S_comeBy_68
  have n1 : (1 : Int32).toInt = 1 := rfl
  have f2 : (v3 + 1).toInt = v3.toInt + (1 : Int32).toInt := addI (by omega) (by omega)
  exact hg v2 (v3 + 1) (by omega) (by omega) (by omega)
theorem s_j_S_comeBy_62 {bn bt : Int} {G : Sto} {P : Int32 × Sto → Prop} {g : Int32 → Int32 → Int32 → Int32 → Sto → Option (Int32 × Sto)} {k : Int32 → Int32 → Int32 → Sto → Option (Int32 × Sto)} {n : Nat} {v1 v2 v3 v4 : Int32} {M : Sto} (hg : ∀ (e2 e4 : Int32), 0 ≤ e4.toInt → e4.toInt ≤ 10 → 11 - e4.toInt ≤ (n : Int) → Ok P (g v1 e2 v3 e4 M)) (hk : ∀ (e2 : Int32), Ok P (k v1 e2 v3 M)) (hI : IX bn bt G M) (r0 : 1 ≤ v3.toInt) (r1 : v3.toInt ≤ 9) (r2 : 0 ≤ v4.toInt) (r3 : v4.toInt ≤ 9) (hn : 11 - v4.toInt ≤ (n : Int) + 1) : Ok P (j_S_comeBy_62 g k v1 v2 v3 v4 M) := by
  unfold j_S_comeBy_62
  have n1 : (1 : Int32).toInt = 1 := rfl
  have f2 : (v4 + 1).toInt = v4.toInt + (1 : Int32).toInt := addI (by omega) (by omega)
  exact hg v2 (v4 + 1) (by omega) (by omega) (by omega)
theorem s_l_S_comeBy_25 {bn bt : Int} {G : Sto} {P : Int32 × Sto → Prop} {k : Int32 → Int32 → Int32 → Sto → Option (Int32 × Sto)} {v1 v3 : Int32} {M : Sto} (hI : IX bn bt G M) (rf0 : 1 ≤ v3.toInt) (rf1 : v3.toInt ≤ 9) (hk : ∀ (e2 : Int32), Ok P (k v1 e2 v3 M)) : ∀ (n : Nat) (v2 v4 : Int32), 0 ≤ v4.toInt → v4.toInt ≤ 10 → 11 - v4.toInt ≤ (n : Int) → Ok P (l_S_comeBy_25 k n v1 v2 v3 v4 M) := by
  intro n
  induction n with
  | zero => intro v2 v4 r0 r1 hn; exfalso; omega
  | succ n ih =>
    intro v2 v4 r0 r1 hn
    unfold l_S_comeBy_25
    have f1 := rd_1_0 hI
    refine Ok.le (fun c2 => ?_) (fun c2 => ?_)
    · exact hk v2
    · refine Ok.bind (s_m_N_holds (x0 := v2) (x1 := v4) hI) (fun r3 M4 q5 => ?_)
      dsimp only at q5
      obtain ⟨q6, q7, q8⟩ := q5
      have q6 : M = M4 := q6
      subst q6
      dsimp only
      have n9 : (0 : Int32).toInt = 0 := rfl
      refine Ok.eq (fun c10 => ?_) (fun c10 => ?_)
      · exact s_j_S_comeBy_62 (v1 := v1) (v2 := v2) (v3 := v3) (v4 := v4) ih hk hI (by omega) (by omega) (by omega) (by omega) (by omega)
      · refine Ok.bind (s_m_P_ways (x1 := v4) hI (by omega) (by omega)) (fun r11 M12 q13 => ?_)
        dsimp only at q13
        have q14 := q13
        have q14 : M = M12 := q14
        subst q14
        dsimp only
        have n15 : ((-1) : Int32).toInt = (-1) := rfl
        exact s_j_S_comeBy_62 (v1 := v1) (v2 := (v2 ||| (r11 &&& (v1 ^^^ (-1))))) (v3 := v3) (v4 := v4) ih hk hI (by omega) (by omega) (by omega) (by omega) (by omega)
theorem s_l_S_comeBy_11 {bn bt : Int} {G : Sto} {P : Int32 × Sto → Prop} {k : Int32 → Sto → Option (Int32 × Sto)} {v1 : Int32} {M : Sto} (hI : IX bn bt G M) (hk : ∀ (e2 : Int32), Ok P (k e2 M)) : ∀ (n : Nat) (v2 v3 : Int32), 1 ≤ v3.toInt → v3.toInt ≤ 10 → 11 - v3.toInt ≤ (n : Int) → Ok P (l_S_comeBy_11 k n v1 v2 v3 M) := by
  intro n
  induction n with
  | zero => intro v2 v3 r0 r1 hn; exfalso; omega
  | succ n ih =>
    intro v2 v3 r0 r1 hn
    unfold l_S_comeBy_11
    have f1 := rd_1_0 hI
    refine Ok.le (fun c2 => ?_) (fun c2 => ?_)
    · exact hk v2
    · have n3 : (0 : Int32).toInt = 0 := rfl
      have fu_ := fu_le
      refine s_l_S_comeBy_25 (v1 := v1) (v3 := v3) hI (by omega) (by omega) (fun e4 => ?_) FU v2 0 (by omega) (by omega) (by omega)
      exact s_j_S_comeBy_68 (v1 := v1) (v2 := e4) (v3 := v3) ih hk hI (by omega) (by omega) (by omega)
theorem s_m_S_comeBy {bn bt : Int} {G : Sto} {x1 : Int32} {M : Sto} (hI : IX bn bt G M) : Ok (fun a => M = a.2) (m_S_comeBy x1 M) := by
  have hR : ∀ r : Int32, (fun a : Int32 × Sto => M = a.2) (r, M) := fun r => rfl
  unfold m_S_comeBy
  have n1 : (0 : Int32).toInt = 0 := rfl
  refine Ok.bind (s_m_N_bit (x0 := 0) hI) (fun r2 M3 q4 => ?_)
  dsimp only at q4
  have q5 := q4
  have q5 : M = M3 := q5
  subst q5
  dsimp only
  have n6 : ((-1) : Int32).toInt = (-1) := rfl
  have n7 : (1 : Int32).toInt = 1 := rfl
  have fu_ := fu_le
  refine s_l_S_comeBy_11 (v1 := x1) hI (fun e8 => ?_) FU (r2 &&& (x1 ^^^ (-1))) 1 (by omega) (by omega) (by omega)
  exact s_j_S_comeBy_74 (v2 := e8) hR hI
theorem s_j_S_findBefore_54 {bn bt : Int} {G : Sto} {P : Int32 × Sto → Prop} {v2 : Int32} {M : Sto} (hR : ∀ r : Int32, P (r, M)) (hI : IX bn bt G M) : Ok P (j_S_findBefore_54 v2 M) := by
  unfold j_S_findBefore_54
  exact Ok.some (hR v2)
theorem s_j_S_findBefore_48 {bn bt : Int} {G : Sto} {P : Int32 × Sto → Prop} {g : Int32 → Int32 → Int32 → Sto → Option (Int32 × Sto)} {k : Int32 → Sto → Option (Int32 × Sto)} {n : Nat} {v1 v2 v3 : Int32} {M : Sto} (hg : ∀ (e2 e3 : Int32), 0 ≤ e3.toInt → e3.toInt ≤ 10 → 11 - e3.toInt ≤ (n : Int) → Ok P (g v1 e2 e3 M)) (hk : ∀ (e2 : Int32), Ok P (k e2 M)) (hI : IX bn bt G M) (r0 : 0 ≤ v3.toInt) (r1 : v3.toInt ≤ 9) (hn : 11 - v3.toInt ≤ (n : Int) + 1) : Ok P (j_S_findBefore_48 g k v1 v2 v3 M) := by
  unfold j_S_findBefore_48
  have n1 : (1 : Int32).toInt = 1 := rfl
  have f2 : (v3 + 1).toInt = v3.toInt + (1 : Int32).toInt := addI (by omega) (by omega)
  exact hg v2 (v3 + 1) (by omega) (by omega) (by omega)
theorem s_l_S_findBefore_4 {bn bt : Int} {G : Sto} {P : Int32 × Sto → Prop} {k : Int32 → Sto → Option (Int32 × Sto)} {v1 : Int32} {M : Sto} (hI : IX bn bt G M) (hk : ∀ (e2 : Int32), Ok P (k e2 M)) : ∀ (n : Nat) (v2 v3 : Int32), 0 ≤ v3.toInt → v3.toInt ≤ 10 → 11 - v3.toInt ≤ (n : Int) → Ok P (l_S_findBefore_4 k n v1 v2 v3 M) := by
  intro n
  induction n with
  | zero => intro v2 v3 r0 r1 hn; exfalso; omega
  | succ n ih =>
    intro v2 v3 r0 r1 hn
    unfold l_S_findBefore_4
    have f1 := rd_1_0 hI
    refine Ok.le (fun c2 => ?_) (fun c2 => ?_)
    · exact hk v2
    · refine Ok.bind (s_m_N_holds (x0 := (M 2 1)) (x1 := v3) hI) (fun r3 M4 q5 => ?_)
      dsimp only at q5
      obtain ⟨q6, q7, q8⟩ := q5
      have q6 : M = M4 := q6
      subst q6
      dsimp only
      have n9 : (0 : Int32).toInt = 0 := rfl
      refine Ok.eq (fun c10 => ?_) (fun c10 => ?_)
      · exact s_j_S_findBefore_48 (v1 := v1) (v2 := v2) (v3 := v3) ih hk hI (by omega) (by omega) (by omega)
      · refine Ok.bind (s_m_P_ways (x1 := v3) hI (by omega) (by omega)) (fun r11 M12 q13 => ?_)
        dsimp only at q13
        have q14 := q13
        have q14 : M = M12 := q14
        subst q14
        dsimp only
        refine Ok.bind (s_m_N_holds (x0 := r11) (x1 := v1) hI) (fun r15 M16 q17 => ?_)
        dsimp only at q17
        obtain ⟨q18, q19, q20⟩ := q17
        have q18 : M = M16 := q18
        subst q18
        dsimp only
        refine Ok.eq (fun c21 => ?_) (fun c21 => ?_)
        · exact s_j_S_findBefore_48 (v1 := v1) (v2 := v2) (v3 := v3) ih hk hI (by omega) (by omega) (by omega)
        · refine Ok.bind (s_m_N_bit (x0 := v3) hI) (fun r22 M23 q24 => ?_)
          dsimp only at q24
          have q25 := q24
          have q25 : M = M23 := q25
          subst q25
          dsimp only
          exact s_j_S_findBefore_48 (v1 := v1) (v2 := (v2 ||| r22)) (v3 := v3) ih hk hI (by omega) (by omega) (by omega)
theorem s_m_S_findBefore {bn bt : Int} {G : Sto} {x1 : Int32} {M : Sto} (hI : IX bn bt G M) : Ok (fun a => M = a.2) (m_S_findBefore x1 M) := by
  have hR : ∀ r : Int32, (fun a : Int32 × Sto => M = a.2) (r, M) := fun r => rfl
  unfold m_S_findBefore
  have n1 : (0 : Int32).toInt = 0 := rfl
  have fu_ := fu_le
  refine s_l_S_findBefore_4 (v1 := x1) hI (fun e2 => ?_) FU 0 0 (by omega) (by omega) (by omega)
  exact s_j_S_findBefore_54 (v2 := e2) hR hI
theorem s_j_S_findParent_59 {bn bt : Int} {G : Sto} {P : Int32 × Sto → Prop} {v2 : Int32} {M : Sto} (hR : ∀ r : Int32, (-1) ≤ r.toInt → r.toInt ≤ 9 → P (r, M)) (hI : IX bn bt G M) (r0 : (-1) ≤ v2.toInt) (r1 : v2.toInt ≤ 9) : Ok P (j_S_findParent_59 v2 M) := by
  unfold j_S_findParent_59
  exact Ok.some (hR v2 (by omega) (by omega))
theorem s_j_S_findParent_53 {bn bt : Int} {G : Sto} {P : Int32 × Sto → Prop} {g : Int32 → Int32 → Int32 → Sto → Option (Int32 × Sto)} {k : Int32 → Sto → Option (Int32 × Sto)} {n : Nat} {v1 v2 v3 : Int32} {M : Sto} (hg : ∀ (e2 e3 : Int32), (-1) ≤ e2.toInt → e2.toInt ≤ 9 → 0 ≤ e3.toInt → e3.toInt ≤ 10 → 11 - e3.toInt ≤ (n : Int) → Ok P (g v1 e2 e3 M)) (hk : ∀ (e2 : Int32), (-1) ≤ e2.toInt → e2.toInt ≤ 9 → Ok P (k e2 M)) (hI : IX bn bt G M) (r0 : (-1) ≤ v2.toInt) (r1 : v2.toInt ≤ 9) (r2 : 0 ≤ v3.toInt) (r3 : v3.toInt ≤ 9) (hn : 11 - v3.toInt ≤ (n : Int) + 1) : Ok P (j_S_findParent_53 g k v1 v2 v3 M) := by
  unfold j_S_findParent_53
  have n1 : (1 : Int32).toInt = 1 := rfl
  have f2 : (v3 + 1).toInt = v3.toInt + (1 : Int32).toInt := addI (by omega) (by omega)
  exact hg v2 (v3 + 1) (by omega) (by omega) (by omega) (by omega) (by omega)
theorem s_j_S_findParent_51 {bn bt : Int} {G : Sto} {P : Int32 × Sto → Prop} {g : Int32 → Int32 → Int32 → Sto → Option (Int32 × Sto)} {k : Int32 → Sto → Option (Int32 × Sto)} {n : Nat} {v1 v3 : Int32} {M : Sto} (hg : ∀ (e2 e3 : Int32), (-1) ≤ e2.toInt → e2.toInt ≤ 9 → 0 ≤ e3.toInt → e3.toInt ≤ 10 → 11 - e3.toInt ≤ (n : Int) → Ok P (g v1 e2 e3 M)) (hk : ∀ (e2 : Int32), (-1) ≤ e2.toInt → e2.toInt ≤ 9 → Ok P (k e2 M)) (hI : IX bn bt G M) (r0 : 0 ≤ v3.toInt) (r1 : v3.toInt ≤ 9) (hn : 11 - v3.toInt ≤ (n : Int) + 1) : Ok P (j_S_findParent_51 g k v1 v3 M) := by
  unfold j_S_findParent_51
  exact s_j_S_findParent_53 (v1 := v1) (v2 := v3) (v3 := v3) hg hk hI (by omega) (by omega) (by omega) (by omega) (by omega)
theorem s_l_S_findParent_4 {bn bt : Int} {G : Sto} {P : Int32 × Sto → Prop} {k : Int32 → Sto → Option (Int32 × Sto)} {v1 : Int32} {M : Sto} (hI : IX bn bt G M) (hk : ∀ (e2 : Int32), (-1) ≤ e2.toInt → e2.toInt ≤ 9 → Ok P (k e2 M)) : ∀ (n : Nat) (v2 v3 : Int32), (-1) ≤ v2.toInt → v2.toInt ≤ 9 → 0 ≤ v3.toInt → v3.toInt ≤ 10 → 11 - v3.toInt ≤ (n : Int) → Ok P (l_S_findParent_4 k n v1 v2 v3 M) := by
  intro n
  induction n with
  | zero => intro v2 v3 r0 r1 r2 r3 hn; exfalso; omega
  | succ n ih =>
    intro v2 v3 r0 r1 r2 r3 hn
    unfold l_S_findParent_4
    have f1 := rd_1_0 hI
    refine Ok.le (fun c2 => ?_) (fun c2 => ?_)
    · exact hk v2 (by omega) (by omega)
    · refine Ok.eq (fun c3 => ?_) (fun c3 => ?_)
      · exact s_j_S_findParent_53 (v1 := v1) (v2 := v2) (v3 := v3) ih hk hI (by omega) (by omega) (by omega) (by omega) (by omega)
      · refine Ok.okI (by omega) (by omega) ?_
        refine Ok.bind (s_m_N_holds (x0 := (M 13 v3.toNatClampNeg)) (x1 := v1) hI) (fun r4 M5 q6 => ?_)
        dsimp only at q6
        obtain ⟨q7, q8, q9⟩ := q6
        have q7 : M = M5 := q7
        subst q7
        dsimp only
        have n10 : (0 : Int32).toInt = 0 := rfl
        refine Ok.eq (fun c11 => ?_) (fun c11 => ?_)
        · exact s_j_S_findParent_53 (v1 := v1) (v2 := v2) (v3 := v3) ih hk hI (by omega) (by omega) (by omega) (by omega) (by omega)
        · have n12 : ((-1) : Int32).toInt = (-1) := rfl
          refine Ok.eq (fun c13 => ?_) (fun c13 => ?_)
          · exact s_j_S_findParent_51 (v1 := v1) (v3 := v3) ih hk hI (by omega) (by omega) (by omega)
          · refine Ok.okI (by omega) (by omega) ?_
            refine Ok.bind (s_m_N_holds (x0 := (M 13 v2.toNatClampNeg)) (x1 := v3) hI) (fun r14 M15 q16 => ?_)
            dsimp only at q16
            obtain ⟨q17, q18, q19⟩ := q16
            have q17 : M = M15 := q17
            subst q17
            dsimp only
            refine Ok.eq (fun c20 => ?_) (fun c20 => ?_)
            · exact s_j_S_findParent_53 (v1 := v1) (v2 := v2) (v3 := v3) ih hk hI (by omega) (by omega) (by omega) (by omega) (by omega)
            · exact s_j_S_findParent_51 (v1 := v1) (v3 := v3) ih hk hI (by omega) (by omega) (by omega)
theorem s_m_S_findParent {bn bt : Int} {G : Sto} {x1 : Int32} {M : Sto} (hI : IX bn bt G M) : Ok (fun a => M = a.2 ∧ (-1) ≤ a.1.toInt ∧ a.1.toInt ≤ 9) (m_S_findParent x1 M) := by
  have hR : ∀ r : Int32, (-1) ≤ r.toInt → r.toInt ≤ 9 → (fun a : Int32 × Sto => M = a.2 ∧ (-1) ≤ a.1.toInt ∧ a.1.toInt ≤ 9) (r, M) := fun r h0 h1 => ⟨rfl, h0, h1⟩
  unfold m_S_findParent
  have n1 : ((-1) : Int32).toInt = (-1) := rfl
  have n2 : (0 : Int32).toInt = 0 := rfl
  have fu_ := fu_le
  refine s_l_S_findParent_4 (v1 := x1) hI (fun e3 y4 y5 => ?_) FU (-1) 0 (by omega) (by omega) (by omega) (by omega) (by omega)
  exact s_j_S_findParent_59 (v2 := e3) hR hI (by omega) (by omega)
theorem s_j_S_findFrontier_74 {bn bt : Int} {G : Sto} {P : Int32 × Sto → Prop} {v2 : Int32} {M : Sto} (hR : ∀ r : Int32, P (r, M)) (hI : IX bn bt G M) : Ok P (j_S_findFrontier_74 v2 M) := by
  unfold j_S_findFrontier_74
  exact Ok.some (hR v2)
theorem s_j_S_findFrontier_68 {bn bt : Int} {G : Sto} {P : Int32 × Sto → Prop} {g : Int32 → Int32 → Int32 → Sto → Option (Int32 × Sto)} {k : Int32 → Sto → Option (Int32 × Sto)} {n : Nat} {v1 v2 v3 : Int32} {M : Sto} (hg : ∀ (e2 e3 : Int32), 0 ≤ e3.toInt → e3.toInt ≤ 10 → 11 - e3.toInt ≤ (n : Int) → Ok P (g v1 e2 e3 M)) (hk : ∀ (e2 : Int32), Ok P (k e2 M)) (hI : IX bn bt G M) (r0 : 0 ≤ v1.toInt) (r1 : v1.toInt ≤ 9) (r2 : 0 ≤ v3.toInt) (r3 : v3.toInt ≤ 9) (hn : 11 - v3.toInt ≤ (n : Int) + 1) : Ok P (j_S_findFrontier_68 g k v1 v2 v3 M) := by
  unfold j_S_findFrontier_68
  have n1 : (1 : Int32).toInt = 1 := rfl
  have f2 : (v3 + 1).toInt = v3.toInt + (1 : Int32).toInt := addI (by omega) (by omega)
  exact hg v2 (v3 + 1) (by omega) (by omega) (by omega)
theorem s_j_S_findFrontier_38 {bn bt : Int} {G : Sto} {P : Int32 × Sto → Prop} {g : Int32 → Int32 → Int32 → Sto → Option (Int32 × Sto)} {k : Int32 → Sto → Option (Int32 × Sto)} {n : Nat} {s0 v1 v2 v3 : Int32} {M : Sto} (hg : ∀ (e2 e3 : Int32), 0 ≤ e3.toInt → e3.toInt ≤ 10 → 11 - e3.toInt ≤ (n : Int) → Ok P (g v1 e2 e3 M)) (hk : ∀ (e2 : Int32), Ok P (k e2 M)) (hI : IX bn bt G M) (r0 : 0 ≤ s0.toInt) (r1 : s0.toInt ≤ 1) (r2 : 0 ≤ v1.toInt) (r3 : v1.toInt ≤ 9) (r4 : 0 ≤ v3.toInt) (r5 : v3.toInt ≤ 9) (hn : 11 - v3.toInt ≤ (n : Int) + 1) : Ok P (j_S_findFrontier_38 g k s0 v1 v2 v3 M) := by
  unfold j_S_findFrontier_38
  have n1 : (0 : Int32).toInt = 0 := rfl
  refine Ok.eq (fun c2 => ?_) (fun c2 => ?_)
  · exact s_j_S_findFrontier_68 (v1 := v1) (v2 := v2) (v3 := v3) hg hk hI (by omega) (by omega) (by omega) (by omega) (by omega)
  · refine Ok.okI (by omega) (by omega) ?_
    refine Ok.okI (by omega) (by omega) ?_
    refine Ok.eq (fun c3 => ?_) (fun c3 => ?_)
    · exact s_j_S_findFrontier_68 (v1 := v1) (v2 := v2) (v3 := v3) hg hk hI (by omega) (by omega) (by omega) (by omega) (by omega)
    · refine Ok.bind (s_m_N_bit (x0 := v3) hI) (fun r4 M5 q6 => ?_)
      dsimp only at q6
      have q7 := q6
      have q7 : M = M5 := q7
      subst q7
      dsimp only
      exact s_j_S_findFrontier_68 (v1 := v1) (v2 := (v2 ||| r4)) (v3 := v3) hg hk hI (by omega) (by omega) (by omega) (by omega) (by omega)
theorem s_j_S_findFrontier_33 {bn bt : Int} {G : Sto} {P : Int32 × Sto → Prop} {g : Int32 → Int32 → Int32 → Sto → Option (Int32 × Sto)} {k : Int32 → Sto → Option (Int32 × Sto)} {n : Nat} {v1 v2 v3 : Int32} {M : Sto} (hg : ∀ (e2 e3 : Int32), 0 ≤ e3.toInt → e3.toInt ≤ 10 → 11 - e3.toInt ≤ (n : Int) → Ok P (g v1 e2 e3 M)) (hk : ∀ (e2 : Int32), Ok P (k e2 M)) (hI : IX bn bt G M) (r0 : 0 ≤ v1.toInt) (r1 : v1.toInt ≤ 9) (r2 : 0 ≤ v3.toInt) (r3 : v3.toInt ≤ 9) (hn : 11 - v3.toInt ≤ (n : Int) + 1) : Ok P (j_S_findFrontier_33 g k v1 v2 v3 M) := by
  unfold j_S_findFrontier_33
  have n1 : (1 : Int32).toInt = 1 := rfl
  exact s_j_S_findFrontier_38 (s0 := 1) (v1 := v1) (v2 := v2) (v3 := v3) hg hk hI (by omega) (by omega) (by omega) (by omega) (by omega) (by omega) (by omega)
theorem s_l_S_findFrontier_4 {bn bt : Int} {G : Sto} {P : Int32 × Sto → Prop} {k : Int32 → Sto → Option (Int32 × Sto)} {v1 : Int32} {M : Sto} (hI : IX bn bt G M) (rf0 : 0 ≤ v1.toInt) (rf1 : v1.toInt ≤ 9) (hk : ∀ (e2 : Int32), Ok P (k e2 M)) : ∀ (n : Nat) (v2 v3 : Int32), 0 ≤ v3.toInt → v3.toInt ≤ 10 → 11 - v3.toInt ≤ (n : Int) → Ok P (l_S_findFrontier_4 k n v1 v2 v3 M) := by
  intro n
  induction n with
  | zero => intro v2 v3 r0 r1 hn; exfalso; omega
  | succ n ih =>
    intro v2 v3 r0 r1 hn
    unfold l_S_findFrontier_4
    have f1 := rd_1_0 hI
    refine Ok.le (fun c2 => ?_) (fun c2 => ?_)
    · exact hk v2
    · refine Ok.eq (fun c3 => ?_) (fun c3 => ?_)
      · exact s_j_S_findFrontier_33 (v1 := v1) (v2 := v2) (v3 := v3) ih hk hI (by omega) (by omega) (by omega) (by omega) (by omega)
      · refine Ok.okI (by omega) (by omega) ?_
        refine Ok.bind (s_m_N_holds (x0 := (M 13 v1.toNatClampNeg)) (x1 := v3) hI) (fun r4 M5 q6 => ?_)
        dsimp only at q6
        obtain ⟨q7, q8, q9⟩ := q6
        have q7 : M = M5 := q7
        subst q7
        dsimp only
        have n10 : (0 : Int32).toInt = 0 := rfl
        refine Ok.eq (fun c11 => ?_) (fun c11 => ?_)
        · exact s_j_S_findFrontier_33 (v1 := v1) (v2 := v2) (v3 := v3) ih hk hI (by omega) (by omega) (by omega) (by omega) (by omega)
        · exact s_j_S_findFrontier_38 (s0 := 0) (v1 := v1) (v2 := v2) (v3 := v3) ih hk hI (by omega) (by omega) (by omega) (by omega) (by omega) (by omega) (by omega)
theorem s_m_S_findFrontier {bn bt : Int} {G : Sto} {x1 : Int32} {M : Sto} (hI : IX bn bt G M) (r0 : 0 ≤ x1.toInt) (r1 : x1.toInt ≤ 9) : Ok (fun a => M = a.2) (m_S_findFrontier x1 M) := by
  have hR : ∀ r : Int32, (fun a : Int32 × Sto => M = a.2) (r, M) := fun r => rfl
  unfold m_S_findFrontier
  have n1 : (0 : Int32).toInt = 0 := rfl
  have fu_ := fu_le
  refine s_l_S_findFrontier_4 (v1 := x1) hI (by omega) (by omega) (fun e2 => ?_) FU 0 0 (by omega) (by omega) (by omega)
  exact s_j_S_findFrontier_74 (v2 := e2) hR hI
end
section
theorem s_j_G_findDefined_87 {bn bt : Int} {G : Sto} {P : Int32 × Sto → Prop} {M : Sto} (hR : ∀ (r : Int32) (M : Sto), IX bn bt G M → 0 ≤ r.toInt → r.toInt ≤ 0 → P (r, M)) (hI : IX bn bt G M) : Ok P (j_G_findDefined_87 M) := by
  unfold j_G_findDefined_87
  have n1 : (0 : Int32).toInt = 0 := rfl
  exact Ok.some (hR 0 _ hI (by omega) (by omega))
theorem s_j_G_findDefined_81 {bn bt : Int} {G : Sto} {P : Int32 × Sto → Prop} {g : Int32 → Sto → Option (Int32 × Sto)} {k : Sto → Option (Int32 × Sto)} {n : Nat} {v1 : Int32} {M : Sto} (hg : ∀ (e1 : Int32) (M : Sto), IX bn bt G M → 0 ≤ e1.toInt → e1.toInt ≤ 10 → 11 - e1.toInt ≤ (n : Int) → Ok P (g e1 M)) (hk : ∀ (M : Sto), IX bn bt G M → Ok P (k M)) (hI : IX bn bt G M) (r0 : 0 ≤ v1.toInt) (r1 : v1.toInt ≤ 9) (hn : 11 - v1.toInt ≤ (n : Int) + 1) : Ok P (j_G_findDefined_81 g k v1 M) := by
  unfold j_G_findDefined_81
  have n1 : (1 : Int32).toInt = 1 := rfl
  have f2 : (v1 + 1).toInt = v1.toInt + (1 : Int32).toInt := addI (by omega) (by omega)
  exact hg (v1 + 1) M hI (by omega) (by omega) (by omega)
theorem s_j_G_findDefined_75 {bn bt : Int} {G : Sto} {P : Int32 × Sto → Prop} {g : Int32 → Int32 → Sto → Option (Int32 × Sto)} {k : Int32 → Sto → Option (Int32 × Sto)} {n : Nat} {v1 v2 : Int32} {M : Sto} (hg : ∀ (e2 : Int32) (M : Sto), IX bn bt G M → 0 ≤ e2.toInt → e2.toInt ≤ 6 → 7 - e2.toInt ≤ (n : Int) → Ok P (g v1 e2 M)) (hk : ∀ (M : Sto), IX bn bt G M → Ok P (k v1 M)) (hI : IX bn bt G M) (r0 : 0 ≤ v1.toInt) (r1 : v1.toInt ≤ 9) (r2 : 0 ≤ v2.toInt) (r3 : v2.toInt ≤ 5) (hn : 7 - v2.toInt ≤ (n : Int) + 1) : Ok P (j_G_findDefined_75 g k v1 v2 M) := by
  unfold j_G_findDefined_75
  have n1 : (1 : Int32).toInt = 1 := rfl
  have f2 : (v2 + 1).toInt = v2.toInt + (1 : Int32).toInt := addI (by omega) (by omega)
  exact hg (v2 + 1) M hI (by omega) (by omega) (by omega)
theorem s_l_G_findDefined_22 {bn bt : Int} {G : Sto} {P : Int32 × Sto → Prop} {k : Int32 → Sto → Option (Int32 × Sto)} {v1 : Int32} (rf0 : 0 ≤ v1.toInt) (rf1 : v1.toInt ≤ 9) (hk : ∀ (M : Sto), IX bn bt G M → Ok P (k v1 M)) : ∀ (n : Nat) (v2 : Int32) (M : Sto), IX bn bt G M → 0 ≤ v2.toInt → v2.toInt ≤ 6 → 7 - v2.toInt ≤ (n : Int) → Ok P (l_G_findDefined_22 k n v1 v2 M) := by
  intro n
  induction n with
  | zero => intro v2 M hI r0 r1 hn; exfalso; omega
  | succ n ih =>
    intro v2 M hI r0 r1 hn
    unfold l_G_findDefined_22
    refine Ok.okI (by omega) (by omega) ?_
    have f1 := rd_7 hI v1.toNatClampNeg
    refine Ok.le (fun c2 => ?_) (fun c2 => ?_)
    · exact hk M hI
    · refine Ok.okI (by omega) (by omega) ?_
      refine Ok.okI (by omega) (by omega) ?_
      have f3 := congrArg Int32.toInt (rd_kind (i := v1.toNatClampNeg) hI (tn_lt (by omega) (by omega)) v2.toNatClampNeg)
      refine Ok.bind (s_m_N_setsVariable (x0 := (M (43 + v1.toNatClampNeg) v2.toNatClampNeg)) hI) (fun r4 M5 q6 => ?_)
      dsimp only at q6
      obtain ⟨q7, q8, q9, q10⟩ := q6
      have q7 : M = M5 := q7
      subst q7
      dsimp only
      have n11 : (0 : Int32).toInt = 0 := rfl
      refine Ok.eq (fun c12 => ?_) (fun c12 => ?_)
      · exact s_j_G_findDefined_75 (v1 := v1) (v2 := v2) ih hk hI (by omega) (by omega) (by omega) (by omega) (by omega)
      · refine Ok.okI (by omega) (by omega) ?_
        refine Ok.okI (by omega) (by omega) ?_
        refine Ok.okI (by omega) (by omega) ?_
        have f13 := rd_53 (i := v1.toNatClampNeg) hI (tn_lt (by omega) (by omega)) v2.toNatClampNeg
        refine Ok.bind (s_m_N_bit (x0 := (M (53 + v1.toNatClampNeg) v2.toNatClampNeg)) hI) (fun r14 M15 q16 => ?_)
        dsimp only at q16
        have q17 := q16
        have q17 : M = M15 := q17
        subst q17
        dsimp only
        refine Ok.okI (by omega) (by omega) ?_
        refine Ok.wr (fun M20 q18 => ?_)
        have i19 := up_19 hI (j := v1.toNatClampNeg) (v := ((M 19 v1.toNatClampNeg) ||| r14))
        rw [← q18] at i19
        exact s_j_G_findDefined_75 (v1 := v1) (v2 := v2) ih hk i19 (by omega) (by omega) (by omega) (by omega) (by omega)
theorem s_l_G_findDefined_2 {bn bt : Int} {G : Sto} {P : Int32 × Sto → Prop} {k : Sto → Option (Int32 × Sto)} (hk : ∀ (M : Sto), IX bn bt G M → Ok P (k M)) : ∀ (n : Nat) (v1 : Int32) (M : Sto), IX bn bt G M → 0 ≤ v1.toInt → v1.toInt ≤ 10 → 11 - v1.toInt ≤ (n : Int) → Ok P (l_G_findDefined_2 k n v1 M) := by
  intro n
  induction n with
  | zero => intro v1 M hI r0 r1 hn; exfalso; omega
  | succ n ih =>
    intro v1 M hI r0 r1 hn
    unfold l_G_findDefined_2
    have f1 := rd_1_0 hI
    refine Ok.le (fun c2 => ?_) (fun c2 => ?_)
    · exact hk M hI
    · refine Ok.okI (by omega) (by omega) ?_
      have n6 : (0 : Int32).toInt = 0 := rfl
      refine Ok.wr (fun M5 q3 => ?_)
      have i4 := up_19 hI (j := v1.toNatClampNeg) (v := 0)
      rw [← q3] at i4
      have fu_ := fu_le
      refine s_l_G_findDefined_22 (v1 := v1) (by omega) (by omega) (fun M7 i8 => ?_) FU 0 M5 i4 (by omega) (by omega) (by omega)
      exact s_j_G_findDefined_81 (v1 := v1) ih hk i8 (by omega) (by omega) (by omega)
theorem s_m_G_findDefined {bn bt : Int} {G : Sto} {M : Sto} (hI : IX bn bt G M) : Ok (fun a => IX bn bt G a.2 ∧ 0 ≤ a.1.toInt ∧ a.1.toInt ≤ 0) (m_G_findDefined M) := by
  have hR : ∀ (r : Int32) (M : Sto), IX bn bt G M → 0 ≤ r.toInt → r.toInt ≤ 0 → (fun a : Int32 × Sto => IX bn bt G a.2 ∧ 0 ≤ a.1.toInt ∧ a.1.toInt ≤ 0) (r, M) := fun r M hI h0 h1 => ⟨hI, h0, h1⟩
  unfold m_G_findDefined
  have n1 : (0 : Int32).toInt = 0 := rfl
  have fu_ := fu_le
  refine s_l_G_findDefined_2 (fun M2 i3 => ?_) FU 0 M hI (by omega) (by omega) (by omega)
  exact s_j_G_findDefined_87 hR i3
theorem s_j_G_spread_59 {bn bt : Int} {G : Sto} {P : Int32 × Sto → Prop} {v3 : Int32} {M : Sto} (hR : ∀ (r : Int32) (M : Sto), IX bn bt G M → 0 ≤ r.toInt → r.toInt ≤ 1 → P (r, M)) (hI : IX bn bt G M) (r0 : 0 ≤ v3.toInt) (r1 : v3.toInt ≤ 1) : Ok P (j_G_spread_59 v3 M) := by
  unfold j_G_spread_59
  refine Ok.bzI (by omega) (by omega) ?_
  exact Ok.some (hR v3 _ hI (by omega) (by omega))
theorem s_j_G_spread_53 {bn bt : Int} {G : Sto} {P : Int32 × Sto → Prop} {g : Int32 → Int32 → Int32 → Int32 → Sto → Option (Int32 × Sto)} {k : Int32 → Sto → Option (Int32 × Sto)} {n : Nat} {v1 v2 v3 v4 : Int32} {M : Sto} (hg : ∀ (e3 e4 : Int32) (M : Sto), IX bn bt G M → 0 ≤ e3.toInt → e3.toInt ≤ 1 → 0 ≤ e4.toInt → e4.toInt ≤ 10 → 11 - e4.toInt ≤ (n : Int) → Ok P (g v1 v2 e3 e4 M)) (hk : ∀ (e3 : Int32) (M : Sto), IX bn bt G M → 0 ≤ e3.toInt → e3.toInt ≤ 1 → Ok P (k e3 M)) (hI : IX bn bt G M) (r0 : 0 ≤ v3.toInt) (r1 : v3.toInt ≤ 1) (r2 : 0 ≤ v4.toInt) (r3 : v4.toInt ≤ 9) (hn : 11 - v4.toInt ≤ (n : Int) + 1) : Ok P (j_G_spread_53 g k v1 v2 v3 v4 M) := by
  unfold j_G_spread_53
  have n1 : (1 : Int32).toInt = 1 := rfl
  have f2 : (v4 + 1).toInt = v4.toInt + (1 : Int32).toInt := addI (by omega) (by omega)
  exact hg v3 (v4 + 1) M hI (by omega) (by omega) (by omega) (by omega) (by omega)
theorem s_l_G_spread_5 {bn bt : Int} {G : Sto} {P : Int32 × Sto → Prop} {k : Int32 → Sto → Option (Int32 × Sto)} {v1 v2 : Int32} (hk : ∀ (e3 : Int32) (M : Sto), IX bn bt G M → 0 ≤ e3.toInt → e3.toInt ≤ 1 → Ok P (k e3 M)) : ∀ (n : Nat) (v3 v4 : Int32) (M : Sto), IX bn bt G M → 0 ≤ v3.toInt → v3.toInt ≤ 1 → 0 ≤ v4.toInt → v4.toInt ≤ 10 → 11 - v4.toInt ≤ (n : Int) → Ok P (l_G_spread_5 k n v1 v2 v3 v4 M) := by
  intro n
  induction n with
  | zero => intro v3 v4 M hI r0 r1 r2 r3 hn; exfalso; omega
  | succ n ih =>
    intro v3 v4 M hI r0 r1 r2 r3 hn
    unfold l_G_spread_5
    have f1 := rd_1_0 hI
    refine Ok.le (fun c2 => ?_) (fun c2 => ?_)
    · exact hk v3 M hI (by omega) (by omega)
    · refine Ok.bind (s_m_N_holds (x0 := v1) (x1 := v4) hI) (fun r3 M4 q5 => ?_)
      dsimp only at q5
      obtain ⟨q6, q7, q8⟩ := q5
      have q6 : M = M4 := q6
      subst q6
      dsimp only
      have n9 : (0 : Int32).toInt = 0 := rfl
      refine Ok.eq (fun c10 => ?_) (fun c10 => ?_)
      · exact s_j_G_spread_53 (v1 := v1) (v2 := v2) (v3 := v3) (v4 := v4) ih hk hI (by omega) (by omega) (by omega) (by omega) (by omega)
      · refine Ok.okI (by omega) (by omega) ?_
        have n11 : ((-1) : Int32).toInt = (-1) := rfl
        refine Ok.eq (fun c12 => ?_) (fun c12 => ?_)
        · exact s_j_G_spread_53 (v1 := v1) (v2 := v2) (v3 := v3) (v4 := v4) ih hk hI (by omega) (by omega) (by omega) (by omega) (by omega)
        · refine Ok.okI (by omega) (by omega) ?_
          refine Ok.okI (by omega) (by omega) ?_
          refine Ok.wr (fun M15 q13 => ?_)
          have i14 := up_18 hI (j := v4.toNatClampNeg) (v := ((M 18 v4.toNatClampNeg) ||| v2))
          rw [← q13] at i14
          have n16 : (1 : Int32).toInt = 1 := rfl
          exact s_j_G_spread_53 (v1 := v1) (v2 := v2) (v3 := 1) (v4 := v4) ih hk i14 (by omega) (by omega) (by omega) (by omega) (by omega)
theorem s_m_G_spread {bn bt : Int} {G : Sto} {x1 x2 : Int32} {M : Sto} (hI : IX bn bt G M) : Ok (fun a => IX bn bt G a.2 ∧ 0 ≤ a.1.toInt ∧ a.1.toInt ≤ 1) (m_G_spread x1 x2 M) := by
  have hR : ∀ (r : Int32) (M : Sto), IX bn bt G M → 0 ≤ r.toInt → r.toInt ≤ 1 → (fun a : Int32 × Sto => IX bn bt G a.2 ∧ 0 ≤ a.1.toInt ∧ a.1.toInt ≤ 1) (r, M) := fun r M hI h0 h1 => ⟨hI, h0, h1⟩
  unfold m_G_spread
  have n1 : (0 : Int32).toInt = 0 := rfl
  have fu_ := fu_le
  refine s_l_G_spread_5 (v1 := x1) (v2 := x2) (fun e2 M5 i6 y3 y4 => ?_) FU 0 0 M hI (by omega) (by omega) (by omega) (by omega) (by omega)
  exact s_j_G_spread_59 (v3 := e2) hR i6 (by omega) (by omega)
theorem s_j_G_placePhis_81 {bn bt : Int} {G : Sto} {P : Int32 × Sto → Prop} {M : Sto} (hR : ∀ (r : Int32) (M : Sto), IX bn bt G M → 0 ≤ r.toInt → r.toInt ≤ 0 → P (r, M)) (hI : IX bn bt G M) : Ok P (j_G_placePhis_81 M) := by
  unfold j_G_placePhis_81
  have n1 : (0 : Int32).toInt = 0 := rfl
  exact Ok.some (hR 0 _ hI (by omega) (by omega))
theorem s_j_G_placePhis_75 {bn bt : Int} {G : Sto} {P : Int32 × Sto → Prop} {g : Int32 → Int32 → Sto → Option (Int32 × Sto)} {k : Sto → Option (Int32 × Sto)} {n : Nat} {v1 v2 : Int32} {M : Sto} (hg : ∀ (e1 e2 : Int32) (M : Sto), IX bn bt G M → 0 ≤ e1.toInt → e1.toInt ≤ 1 → 0 ≤ e2.toInt → e2.toInt ≤ 1000 → 1001 - e2.toInt ≤ (n : Int) → Ok P (g e1 e2 M)) (hk : ∀ (M : Sto), IX bn bt G M → Ok P (k M)) (hI : IX bn bt G M) (r0 : 0 ≤ v1.toInt) (r1 : v1.toInt ≤ 1) (r2 : 0 ≤ v2.toInt) (r3 : v2.toInt ≤ 999) (hn : 1001 - v2.toInt ≤ (n : Int) + 1) : Ok P (j_G_placePhis_75 g k v1 v2 M) := by
  unfold j_G_placePhis_75
  have n1 : (1 : Int32).toInt = 1 := rfl
  have f2 : (v2 + 1).toInt = v2.toInt + (1 : Int32).toInt := addI (by omega) (by omega)
  exact hg v1 (v2 + 1) M hI (by omega) (by omega) (by omega) (by omega) (by omega)
theorem s_j_G_placePhis_69 {bn bt : Int} {G : Sto} {P : Int32 × Sto → Prop} {g : Int32 → Int32 → Int32 → Sto → Option (Int32 × Sto)} {k : Int32 → Int32 → Sto → Option (Int32 × Sto)} {n : Nat} {v1 v2 v3 : Int32} {M : Sto} (hg : ∀ (e1 e3 : Int32) (M : Sto), IX bn bt G M → 0 ≤ e1.toInt → e1.toInt ≤ 1 → 0 ≤ e3.toInt → e3.toInt ≤ 10 → 11 - e3.toInt ≤ (n : Int) → Ok P (g e1 v2 e3 M)) (hk : ∀ (e1 : Int32) (M : Sto), IX bn bt G M → 0 ≤ e1.toInt → e1.toInt ≤ 1 → Ok P (k e1 v2 M)) (hI : IX bn bt G M) (r0 : 0 ≤ v1.toInt) (r1 : v1.toInt ≤ 1) (r2 : 0 ≤ v2.toInt) (r3 : v2.toInt ≤ 999) (r4 : 0 ≤ v3.toInt) (r5 : v3.toInt ≤ 9) (hn : 11 - v3.toInt ≤ (n : Int) + 1) : Ok P (j_G_placePhis_69 g k v1 v2 v3 M) := by
  unfold j_G_placePhis_69
  have n1 : (1 : Int32).toInt = 1 := rfl
  have f2 : (v3 + 1).toInt = v3.toInt + (1 : Int32).toInt := addI (by omega) (by omega)
  exact hg v1 (v3 + 1) M hI (by omega) (by omega) (by omega) (by omega) (by omega)
theorem s_l_G_placePhis_27 {bn bt : Int} {G : Sto} {P : Int32 × Sto → Prop} {k : Int32 → Int32 → Sto → Option (Int32 × Sto)} {v2 : Int32} (rf0 : 0 ≤ v2.toInt) (rf1 : v2.toInt ≤ 999) (hk : ∀ (e1 : Int32) (M : Sto), IX bn bt G M → 0 ≤ e1.toInt → e1.toInt ≤ 1 → Ok P (k e1 v2 M)) : ∀ (n : Nat) (v1 v3 : Int32) (M : Sto), IX bn bt G M → 0 ≤ v1.toInt → v1.toInt ≤ 1 → 0 ≤ v3.toInt → v3.toInt ≤ 10 → 11 - v3.toInt ≤ (n : Int) → Ok P (l_G_placePhis_27 k n v1 v2 v3 M) := by
  intro n
  induction n with
  | zero => intro v1 v3 M hI r0 r1 r2 r3 hn; exfalso; omega
  | succ n ih =>
    intro v1 v3 M hI r0 r1 r2 r3 hn
    unfold l_G_placePhis_27
    have f1 := rd_1_0 hI
    refine Ok.le (fun c2 => ?_) (fun c2 => ?_)
    · exact hk v1 M hI (by omega) (by omega)
    · refine Ok.okI (by omega) (by omega) ?_
      refine Ok.okI (by omega) (by omega) ?_
      refine Ok.okI (by omega) (by omega) ?_
      refine Ok.bind (s_m_G_spread (x1 := (M 15 v3.toNatClampNeg)) (x2 := ((M 19 v3.toNatClampNeg) ||| (M 18 v3.toNatClampNeg))) hI) (fun r3 M4 q5 => ?_)
      dsimp only at q5
      obtain ⟨q6, q7, q8⟩ := q5
      dsimp only
      have n9 : (0 : Int32).toInt = 0 := rfl
      refine Ok.eq (fun c10 => ?_) (fun c10 => ?_)
      · exact s_j_G_placePhis_69 (v1 := v1) (v2 := v2) (v3 := v3) ih hk q6 (by omega) (by omega) (by omega) (by omega) (by omega) (by omega) (by omega)
      · have n11 : (1 : Int32).toInt = 1 := rfl
        exact s_j_G_placePhis_69 (v1 := 1) (v2 := v2) (v3 := v3) ih hk q6 (by omega) (by omega) (by omega) (by omega) (by omega) (by omega) (by omega)
theorem s_l_G_placePhis_12 {bn bt : Int} {G : Sto} {P : Int32 × Sto → Prop} {k : Sto → Option (Int32 × Sto)} (hk : ∀ (M : Sto), IX bn bt G M → Ok P (k M)) : ∀ (n : Nat) (v1 v2 : Int32) (M : Sto), IX bn bt G M → 0 ≤ v1.toInt → v1.toInt ≤ 1 → 0 ≤ v2.toInt → v2.toInt ≤ 1000 → 1001 - v2.toInt ≤ (n : Int) → Ok P (l_G_placePhis_12 k n v1 v2 M) := by
  intro n
  induction n with
  | zero => intro v1 v2 M hI r0 r1 r2 r3 hn; exfalso; omega
  | succ n ih =>
    intro v1 v2 M hI r0 r1 r2 r3 hn
    unfold l_G_placePhis_12
    have n1 : (0 : Int32).toInt = 0 := rfl
    refine Ok.eq (fun c2 => ?_) (fun c2 => ?_)
    · exact hk M hI
    · have n3 : (1000 : Int32).toInt = 1000 := rfl
      refine Ok.le (fun c4 => ?_) (fun c4 => ?_)
      · exact hk M hI
      · have fu_ := fu_le
        refine s_l_G_placePhis_27 (v2 := v2) (by omega) (by omega) (fun e5 M8 i9 y6 y7 => ?_) FU 0 0 M hI (by omega) (by omega) (by omega) (by omega) (by omega)
        exact s_j_G_placePhis_75 (v1 := e5) (v2 := v2) ih hk i9 (by omega) (by omega) (by omega) (by omega) (by omega)
theorem s_m_G_placePhis {bn bt : Int} {G : Sto} {M : Sto} (hI : IX bn bt G M) : Ok (fun a => IX bn bt G a.2 ∧ 0 ≤ a.1.toInt ∧ a.1.toInt ≤ 0) (m_G_placePhis M) := by
  have hR : ∀ (r : Int32) (M : Sto), IX bn bt G M → 0 ≤ r.toInt → r.toInt ≤ 0 → (fun a : Int32 × Sto => IX bn bt G a.2 ∧ 0 ≤ a.1.toInt ∧ a.1.toInt ≤ 0) (r, M) := fun r M hI h0 h1 => ⟨hI, h0, h1⟩
  unfold m_G_placePhis
  have n4 : (0 : Int32).toInt = 0 := rfl
  refine Ok.wr (fun M3 q1 => ?_)
  have i2 := fl_18 hI (n := 10) (v := 0)
  rw [← q1] at i2
  have n5 : (1 : Int32).toInt = 1 := rfl
  have fu_ := fu_le
  refine s_l_G_placePhis_12 (fun M6 i7 => ?_) FU 1 0 M3 i2 (by omega) (by omega) (by omega) (by omega) (by omega)
  exact s_j_G_placePhis_81 hR i7
theorem s_m_G_newName {bn bt : Int} {G : Sto} {x1 x2 x3 : Int32} {M : Sto} (hI : IX bn bt G M) (r0 : (-1) ≤ x1.toInt) (r1 : x1.toInt ≤ 9) (r2 : (-1) ≤ x2.toInt) (r3 : x2.toInt ≤ 5) (r4 : 0 ≤ x3.toInt) (r5 : x3.toInt ≤ 5) (x0_ : (bn ≤ 125)) : Ok (fun a => IX (bn + 1) bt G a.2 ∧ 0 ≤ a.1.toInt ∧ a.1.toInt ≤ 125) (m_G_newName x1 x2 x3 M) := by
  have hR : ∀ (r : Int32) (M : Sto), IX (bn + 1) bt G M → 0 ≤ r.toInt → r.toInt ≤ 125 → (fun a : Int32 × Sto => IX (bn + 1) bt G a.2 ∧ 0 ≤ a.1.toInt ∧ a.1.toInt ≤ 125) (r, M) := fun r M hI h0 h1 => ⟨hI, h0, h1⟩
  unfold m_G_newName
  have f1 := rd_3_2 hI
  refine Ok.okI (by omega) (by omega) ?_
  refine Ok.wr (fun M4 q2 => ?_)
  have i3 := up_21 hI (j := ((M 3 2).toNatClampNeg)) (v := x1) (by omega) (by omega)
  rw [← q2] at i3
  refine Ok.okI (by omega) (by omega) ?_
  refine Ok.wr (fun M7 q5 => ?_)
  have i6 := up_22 i3 (j := ((M 3 2).toNatClampNeg)) (v := x2) (by omega) (by omega)
  rw [← q5] at i6
  refine Ok.okI (by omega) (by omega) ?_
  refine Ok.wr (fun M10 q8 => ?_)
  have i9 := up_23 i6 (j := ((M 3 2).toNatClampNeg)) (v := x3) (by omega) (by omega)
  rw [← q8] at i9
  have f14 := rd_3_2 i9
  have n15 : (1 : Int32).toInt = 1 := rfl
  have f16 : ((M10 3 2) + 1).toInt = (M10 3 2).toInt + (1 : Int32).toInt := addI (by omega) (by omega)
  refine Ok.wr (fun M13 q11 => ?_)
  have i12 := set_3_2 (b := bn + 1) (v := ((M10 3 2) + 1)) i9 (by omega) (by omega)
  rw [← q11] at i12
  exact Ok.some (hR (M 3 2) _ (i12.mono (by omega) (by omega)) (by omega) (by omega))
theorem s_j_G_nameInstruction_133 {bn bt : Int} {G : Sto} {P : Int32 × Sto → Prop} {M : Sto} (hR : ∀ (r : Int32) (M : Sto), IX (bn + 1) bt G M → 0 ≤ r.toInt → r.toInt ≤ 0 → P (r, M)) (hI : IX (bn + 1) bt G M) : Ok P (j_G_nameInstruction_133 M) := by
  unfold j_G_nameInstruction_133
  have n1 : (0 : Int32).toInt = 0 := rfl
  exact Ok.some (hR 0 _ (hI.mono (by omega) (by omega)) (by omega) (by omega))
theorem s_j_G_nameInstruction_78 {bn bt : Int} {G : Sto} {P : Int32 × Sto → Prop} {s0 s1 s2 v1 v2 v3 v4 : Int32} {M : Sto} (hR : ∀ (r : Int32) (M : Sto), IX (bn + 1) bt G M → 0 ≤ r.toInt → r.toInt ≤ 0 → P (r, M)) (hI : IX bn bt G M) (r0 : (-1) ≤ s0.toInt) (r1 : s0.toInt ≤ 125) (r2 : 0 ≤ s1.toInt) (r3 : s1.toInt ≤ 5) (r4 : 0 ≤ s2.toInt) (r5 : s2.toInt ≤ 9) (r6 : 0 ≤ v1.toInt) (r7 : v1.toInt ≤ 9) (r8 : 0 ≤ v2.toInt) (r9 : v2.toInt ≤ 5) (r10 : 0 ≤ v3.toInt) (r11 : v3.toInt ≤ 9) (x0_ : (bn ≤ 125)) (x1_ : (v4.toInt = (G (43 + v1.toNatClampNeg) v2.toNatClampNeg).toInt)) : Ok P (j_G_nameInstruction_78 s0 s1 s2 v1 v2 v3 v4 M) := by
  unfold j_G_nameInstruction_78
  refine Ok.okI (by omega) (by omega) ?_
  refine Ok.wr (fun M3 q1 => ?_)
  have i2 := up_123 (i := s2.toNatClampNeg) hI (tn_lt (by omega) (by omega)) (j := s1.toNatClampNeg) (v := s0) (by omega) (by omega)
  rw [← q1] at i2
  refine Ok.okI (by omega) (by omega) ?_
  refine Ok.okI (by omega) (by omega) ?_
  have n7 : ((-1) : Int32).toInt = (-1) := rfl
  refine Ok.wr (fun M6 q4 => ?_)
  have i5 := up_103 (i := v1.toNatClampNeg) i2 (tn_lt (by omega) (by omega)) (j := v2.toNatClampNeg) (v := (-1)) (by omega) (by omega)
  rw [← q4] at i5
  refine Ok.bind (s_m_N_setsVariable (x0 := v4) i5) (fun r8 M9 q10 => ?_)
  dsimp only at q10
  obtain ⟨q11, q12, q13, q14⟩ := q10
  have q11 : M6 = M9 := q11
  subst q11
  dsimp only
  have n15 : (0 : Int32).toInt = 0 := rfl
  refine Ok.eq (fun c16 => ?_) (fun c16 => ?_)
  · exact s_j_G_nameInstruction_133 (bn := bn) (bt := bt) hR (i5.mono (by omega) (by omega))
  · refine Ok.okI (by omega) (by omega) ?_
    refine Ok.okI (by omega) (by omega) ?_
    have f17 := rd_53 (i := v1.toNatClampNeg) i5 (tn_lt (by omega) (by omega)) v2.toNatClampNeg
    refine Ok.bind (s_m_G_newName (x1 := v1) (x2 := v2) (x3 := (M6 (53 + v1.toNatClampNeg) v2.toNatClampNeg)) i5 (by omega) (by omega) (by omega) (by omega) (by omega) (by omega) (by omega)) (fun r18 M19 q20 => ?_)
    dsimp only at q20
    obtain ⟨q21, q22, q23⟩ := q20
    dsimp only
    refine Ok.okI (by omega) (by omega) ?_
    refine Ok.wr (fun M26 q24 => ?_)
    have i25 := up_93 (i := v3.toNatClampNeg) q21 (tn_lt (by omega) (by omega)) (j := ((M6 (53 + v1.toNatClampNeg) v2.toNatClampNeg).toNatClampNeg)) (v := r18) (by omega) (by omega)
    rw [← q24] at i25
    refine Ok.okI (by omega) (by omega) ?_
    refine Ok.okI (by omega) (by omega) ?_
    refine Ok.okI (by omega) (by omega) ?_
    have f30 := rd_93 (i := v3.toNatClampNeg) i25 (tn_lt (by omega) (by omega)) ((M6 (53 + v1.toNatClampNeg) v2.toNatClampNeg).toNatClampNeg)
    refine Ok.wr (fun M29 q27 => ?_)
    have i28 := up_103 (i := v1.toNatClampNeg) i25 (tn_lt (by omega) (by omega)) (j := v2.toNatClampNeg) (v := (M26 (93 + v3.toNatClampNeg) ((M6 (53 + v1.toNatClampNeg) v2.toNatClampNeg).toNatClampNeg))) (by omega) (by omega)
    rw [← q27] at i28
    exact s_j_G_nameInstruction_133 (bn := bn) (bt := bt) hR (i28.mono (by omega) (by omega))
theorem s_j_G_nameInstruction_45 {bn bt : Int} {G : Sto} {P : Int32 × Sto → Prop} {s0 s1 s2 v1 v2 v3 v4 : Int32} {M : Sto} (hR : ∀ (r : Int32) (M : Sto), IX (bn + 1) bt G M → 0 ≤ r.toInt → r.toInt ≤ 0 → P (r, M)) (hI : IX bn bt G M) (r0 : (-1) ≤ s0.toInt) (r1 : s0.toInt ≤ 125) (r2 : 0 ≤ s1.toInt) (r3 : s1.toInt ≤ 5) (r4 : 0 ≤ s2.toInt) (r5 : s2.toInt ≤ 9) (r6 : 0 ≤ v1.toInt) (r7 : v1.toInt ≤ 9) (r8 : 0 ≤ v2.toInt) (r9 : v2.toInt ≤ 5) (r10 : 0 ≤ v3.toInt) (r11 : v3.toInt ≤ 9) (x0_ : (bn ≤ 125)) (x1_ : (v4.toInt = (G (43 + v1.toNatClampNeg) v2.toNatClampNeg).toInt)) : Ok P (j_G_nameInstruction_45 s0 s1 s2 v1 v2 v3 v4 M) := by
  unfold j_G_nameInstruction_45
  refine Ok.okI (by omega) (by omega) ?_
  refine Ok.wr (fun M3 q1 => ?_)
  have i2 := up_113 (i := s2.toNatClampNeg) hI (tn_lt (by omega) (by omega)) (j := s1.toNatClampNeg) (v := s0) (by omega) (by omega)
  rw [← q1] at i2
  refine Ok.okI (by omega) (by omega) ?_
  refine Ok.bind (s_m_N_readsY (x0 := v4) i2) (fun r4 M5 q6 => ?_)
  dsimp only at q6
  obtain ⟨q7, q8, q9, q10⟩ := q6
  have q7 : M3 = M5 := q7
  subst q7
  dsimp only
  have n11 : (0 : Int32).toInt = 0 := rfl
  refine Ok.eq (fun c12 => ?_) (fun c12 => ?_)
  · have n13 : ((-1) : Int32).toInt = (-1) := rfl
    exact s_j_G_nameInstruction_78 (bn := bn) (bt := bt) (s0 := (-1)) (s1 := v2) (s2 := v1) (v1 := v1) (v2 := v2) (v3 := v3) (v4 := v4) hR (i2.mono (by omega) (by omega)) (by omega) (by omega) (by omega) (by omega) (by omega) (by omega) (by omega) (by omega) (by omega) (by omega) (by omega) (by omega) (by omega) (by omega)
  · refine Ok.okI (by omega) (by omega) ?_
    refine Ok.okI (by omega) (by omega) ?_
    have f14 := rd_73 (i := v1.toNatClampNeg) i2 (tn_lt (by omega) (by omega)) v2.toNatClampNeg
    refine Ok.okI (by omega) (by omega) ?_
    have f15 := rd_93 (i := v3.toNatClampNeg) i2 (tn_lt (by omega) (by omega)) ((M3 (73 + v1.toNatClampNeg) v2.toNatClampNeg).toNatClampNeg)
    exact s_j_G_nameInstruction_78 (bn := bn) (bt := bt) (s0 := (M3 (93 + v3.toNatClampNeg) ((M3 (73 + v1.toNatClampNeg) v2.toNatClampNeg).toNatClampNeg))) (s1 := v2) (s2 := v1) (v1 := v1) (v2 := v2) (v3 := v3) (v4 := v4) hR (i2.mono (by omega) (by omega)) (by omega) (by omega) (by omega) (by omega) (by omega) (by omega) (by omega) (by omega) (by omega) (by omega) (by omega) (by omega) (by omega) (by omega)
theorem s_m_G_nameInstruction {bn bt : Int} {G : Sto} {x1 x2 x3 : Int32} {M : Sto} (hI : IX bn bt G M) (r0 : 0 ≤ x1.toInt) (r1 : x1.toInt ≤ 9) (r2 : 0 ≤ x2.toInt) (r3 : x2.toInt ≤ 5) (r4 : 0 ≤ x3.toInt) (r5 : x3.toInt ≤ 9) (x0_ : (bn ≤ 125)) : Ok (fun a => IX (bn + 1) bt G a.2 ∧ 0 ≤ a.1.toInt ∧ a.1.toInt ≤ 0) (m_G_nameInstruction x1 x2 x3 M) := by
  have hR : ∀ (r : Int32) (M : Sto), IX (bn + 1) bt G M → 0 ≤ r.toInt → r.toInt ≤ 0 → (fun a : Int32 × Sto => IX (bn + 1) bt G a.2 ∧ 0 ≤ a.1.toInt ∧ a.1.toInt ≤ 0) (r, M) := fun r M hI h0 h1 => ⟨hI, h0, h1⟩
  unfold m_G_nameInstruction
  refine Ok.okI (by omega) (by omega) ?_
  refine Ok.okI (by omega) (by omega) ?_
  refine Ok.okI (by omega) (by omega) ?_
  have f1 := congrArg Int32.toInt (rd_kind (i := x1.toNatClampNeg) hI (tn_lt (by omega) (by omega)) x2.toNatClampNeg)
  refine Ok.bind (s_m_N_readsX (x0 := (M (43 + x1.toNatClampNeg) x2.toNatClampNeg)) hI) (fun r2 M3 q4 => ?_)
  dsimp only at q4
  obtain ⟨q5, q6, q7, q8⟩ := q4
  have q5 : M = M3 := q5
  subst q5
  dsimp only
  have n9 : (0 : Int32).toInt = 0 := rfl
  refine Ok.eq (fun c10 => ?_) (fun c10 => ?_)
  · have n11 : ((-1) : Int32).toInt = (-1) := rfl
    exact s_j_G_nameInstruction_45 (bn := bn) (bt := bt) (s0 := (-1)) (s1 := x2) (s2 := x1) (v1 := x1) (v2 := x2) (v3 := x3) (v4 := (M (43 + x1.toNatClampNeg) x2.toNatClampNeg)) hR (hI.mono (by omega) (by omega)) (by omega) (by omega) (by omega) (by omega) (by omega) (by omega) (by omega) (by omega) (by omega) (by omega) (by omega) (by omega) (by omega) (by omega)
  · refine Ok.okI (by omega) (by omega) ?_
    refine Ok.okI (by omega) (by omega) ?_
    have f12 := rd_63 (i := x1.toNatClampNeg) hI (tn_lt (by omega) (by omega)) x2.toNatClampNeg
    refine Ok.okI (by omega) (by omega) ?_
    have f13 := rd_93 (i := x3.toNatClampNeg) hI (tn_lt (by omega) (by omega)) ((M (63 + x1.toNatClampNeg) x2.toNatClampNeg).toNatClampNeg)
    exact s_j_G_nameInstruction_45 (bn := bn) (bt := bt) (s0 := (M (93 + x3.toNatClampNeg) ((M (63 + x1.toNatClampNeg) x2.toNatClampNeg).toNatClampNeg))) (s1 := x2) (s2 := x1) (v1 := x1) (v2 := x2) (v3 := x3) (v4 := (M (43 + x1.toNatClampNeg) x2.toNatClampNeg)) hR (hI.mono (by omega) (by omega)) (by omega) (by omega) (by omega) (by omega) (by omega) (by omega) (by omega) (by omega) (by omega) (by omega) (by omega) (by omega) (by omega) (by omega)
theorem s_j_G_nameBlock_172 {bn bt : Int} {G : Sto} {P : Int32 × Sto → Prop} {M : Sto} (hR : ∀ (r : Int32) (M : Sto), IX (bn + 12) bt G M → 0 ≤ r.toInt → r.toInt ≤ 0 → P (r, M)) (hI : IX (bn + 12) bt G M) : Ok P (j_G_nameBlock_172 M) := by
  unfold j_G_nameBlock_172
  have n1 : (0 : Int32).toInt = 0 := rfl
  exact Ok.some (hR 0 _ (hI.mono (by omega) (by omega)) (by omega) (by omega))
theorem s_j_G_nameBlock_142 {bn bt : Int} {G : Sto} {P : Int32 × Sto → Prop} {v1 v2 : Int32} {M : Sto} (hR : ∀ (r : Int32) (M : Sto), IX (bn + 12) bt G M → 0 ≤ r.toInt → r.toInt ≤ 0 → P (r, M)) (hI : IX (bn + 12) bt G M) (r0 : 0 ≤ v1.toInt) (r1 : v1.toInt ≤ 9) (r2 : 0 ≤ v2.toInt) (r3 : v2.toInt ≤ 9) : Ok P (j_G_nameBlock_142 v1 v2 M) := by
  unfold j_G_nameBlock_142
  refine Ok.okI (by omega) (by omega) ?_
  have n1 : (2 : Int32).toInt = 2 := rfl
  refine Ok.eq (fun c2 => ?_) (fun c2 => ?_)
  · refine Ok.okI (by omega) (by omega) ?_
    have f3 := rd_9 hI v1.toNatClampNeg
    refine Ok.okI (by omega) (by omega) ?_
    refine Ok.okI (by omega) (by omega) ?_
    have f7 := rd_93 (i := v2.toNatClampNeg) hI (tn_lt (by omega) (by omega)) ((M 9 v1.toNatClampNeg).toNatClampNeg)
    refine Ok.wr (fun M6 q4 => ?_)
    have i5 := up_20 hI (j := v1.toNatClampNeg) (v := (M (93 + v2.toNatClampNeg) ((M 9 v1.toNatClampNeg).toNatClampNeg))) (by omega) (by omega)
    rw [← q4] at i5
    exact s_j_G_nameBlock_172 (bn := bn) (bt := bt) hR (i5.mono (by omega) (by omega))
  · exact s_j_G_nameBlock_172 (bn := bn) (bt := bt) hR (hI.mono (by omega) (by omega))
theorem s_l_G_nameBlock_114 {bn bt : Int} {G : Sto} {P : Int32 × Sto → Prop} {k : Int32 → Int32 → Sto → Option (Int32 × Sto)} {v1 v2 : Int32} (rf0 : 0 ≤ v1.toInt) (rf1 : v1.toInt ≤ 9) (rf2 : 0 ≤ v2.toInt) (rf3 : v2.toInt ≤ 9) (hk : ∀ (M : Sto), IX (bn + 12) bt G M → Ok P (k v1 v2 M)) : ∀ (n : Nat) (v4 : Int32) (M : Sto), IX (bn + 6 + v4.toInt) bt G M → 0 ≤ v4.toInt → v4.toInt ≤ 6 → (bn + 12 ≤ 126) → 7 - v4.toInt ≤ (n : Int) → Ok P (l_G_nameBlock_114 k n v1 v2 v4 M) := by
  intro n
  induction n with
  | zero => intro v4 M hI r0 r1 x0_ hn; exfalso; omega
  | succ n ih =>
    intro v4 M hI r0 r1 x0_ hn
    unfold l_G_nameBlock_114
    refine Ok.okI (by omega) (by omega) ?_
    have f1 := rd_7 hI v1.toNatClampNeg
    refine Ok.le (fun c2 => ?_) (fun c2 => ?_)
    · exact hk M (hI.mono (by omega) (by omega))
    · refine Ok.bind (s_m_G_nameInstruction (x1 := v1) (x2 := v4) (x3 := v2) hI (by omega) (by omega) (by omega) (by omega) (by omega) (by omega) (by omega)) (fun r3 M4 q5 => ?_)
      dsimp only at q5
      obtain ⟨q6, q7, q8⟩ := q5
      dsimp only
      have n9 : (1 : Int32).toInt = 1 := rfl
      have f10 : (v4 + 1).toInt = v4.toInt + (1 : Int32).toInt := addI (by omega) (by omega)
      exact ih (v4 + 1) M4 (q6.mono (by omega) (by omega)) (by omega) (by omega) (by omega) (by omega)
theorem s_j_G_nameBlock_111 {bn bt : Int} {G : Sto} {P : Int32 × Sto → Prop} {v1 v2 : Int32} {M : Sto} (hR : ∀ (r : Int32) (M : Sto), IX (bn + 12) bt G M → 0 ≤ r.toInt → r.toInt ≤ 0 → P (r, M)) (hI : IX (bn + 6) bt G M) (r0 : 0 ≤ v1.toInt) (r1 : v1.toInt ≤ 9) (r2 : 0 ≤ v2.toInt) (r3 : v2.toInt ≤ 9) (x0_ : (bn + 12 ≤ 126)) : Ok P (j_G_nameBlock_111 v1 v2 M) := by
  unfold j_G_nameBlock_111
  have n1 : (0 : Int32).toInt = 0 := rfl
  have fu_ := fu_le
  refine s_l_G_nameBlock_114 (bn := bn) (bt := bt) (v1 := v1) (v2 := v2) (by omega) (by omega) (by omega) (by omega) (fun M2 i3 => ?_) FU 0 M (hI.mono (by omega) (by omega)) (by omega) (by omega) (by omega) (by omega)
  exact s_j_G_nameBlock_142 (bn := bn) (bt := bt) (v1 := v1) (v2 := v2) hR (i3.mono (by omega) (by omega)) (by omega) (by omega) (by omega) (by omega)
theorem s_j_G_nameBlock_105 {bn bt : Int} {G : Sto} {P : Int32 × Sto → Prop} {g : Int32 → Int32 → Int32 → Sto → Option (Int32 × Sto)} {k : Int32 → Int32 → Sto → Option (Int32 × Sto)} {n : Nat} {v1 v2 v4 : Int32} {M : Sto} (hg : ∀ (e4 : Int32) (M : Sto), IX (bn + e4.toInt) bt G M → 0 ≤ e4.toInt → e4.toInt ≤ 6 → (bn + 12 ≤ 126) → 7 - e4.toInt ≤ (n : Int) → Ok P (g v1 v2 e4 M)) (hk : ∀ (M : Sto), IX (bn + 6) bt G M → Ok P (k v1 v2 M)) (hI : IX (bn + v4.toInt + 1) bt G M) (r0 : 0 ≤ v1.toInt) (r1 : v1.toInt ≤ 9) (r2 : 0 ≤ v2.toInt) (r3 : v2.toInt ≤ 9) (r4 : 0 ≤ v4.toInt) (r5 : v4.toInt ≤ 5) (x0_ : (bn + 12 ≤ 126)) (hn : 7 - v4.toInt ≤ (n : Int) + 1) : Ok P (j_G_nameBlock_105 g k v1 v2 v4 M) := by
  unfold j_G_nameBlock_105
  have n1 : (1 : Int32).toInt = 1 := rfl
  have f2 : (v4 + 1).toInt = v4.toInt + (1 : Int32).toInt := addI (by omega) (by omega)
  exact hg (v4 + 1) M (hI.mono (by omega) (by omega)) (by omega) (by omega) (by omega) (by omega)
theorem s_l_G_nameBlock_59 {bn bt : Int} {G : Sto} {P : Int32 × Sto → Prop} {k : Int32 → Int32 → Sto → Option (Int32 × Sto)} {v1 v2 : Int32} (rf0 : 0 ≤ v1.toInt) (rf1 : v1.toInt ≤ 9) (rf2 : 0 ≤ v2.toInt) (rf3 : v2.toInt ≤ 9) (hk : ∀ (M : Sto), IX (bn + 6) bt G M → Ok P (k v1 v2 M)) : ∀ (n : Nat) (v4 : Int32) (M : Sto), IX (bn + v4.toInt) bt G M → 0 ≤ v4.toInt → v4.toInt ≤ 6 → (bn + 12 ≤ 126) → 7 - v4.toInt ≤ (n : Int) → Ok P (l_G_nameBlock_59 k n v1 v2 v4 M) := by
  intro n
  induction n with
  | zero => intro v4 M hI r0 r1 x0_ hn; exfalso; omega
  | succ n ih =>
    intro v4 M hI r0 r1 x0_ hn
    unfold l_G_nameBlock_59
    have n1 : (6 : Int32).toInt = 6 := rfl
    refine Ok.le (fun c2 => ?_) (fun c2 => ?_)
    · exact hk M (hI.mono (by omega) (by omega))
    · refine Ok.okI (by omega) (by omega) ?_
      refine Ok.bind (s_m_N_holds (x0 := (M 18 v1.toNatClampNeg)) (x1 := v4) hI) (fun r3 M4 q5 => ?_)
      dsimp only at q5
      obtain ⟨q6, q7, q8⟩ := q5
      have q6 : M = M4 := q6
      subst q6
      dsimp only
      have n9 : (0 : Int32).toInt = 0 := rfl
      refine Ok.eq (fun c10 => ?_) (fun c10 => ?_)
      · exact s_j_G_nameBlock_105 (bn := bn) (bt := bt) (v1 := v1) (v2 := v2) (v4 := v4) ih hk (hI.mono (by omega) (by omega)) (by omega) (by omega) (by omega) (by omega) (by omega) (by omega) (by omega) (by omega)
      · have n11 : ((-1) : Int32).toInt = (-1) := rfl
        refine Ok.bind (s_m_G_newName (x1 := v1) (x2 := (-1)) (x3 := v4) hI (by omega) (by omega) (by omega) (by omega) (by omega) (by omega) (by omega)) (fun r12 M13 q14 => ?_)
        dsimp only at q14
        obtain ⟨q15, q16, q17⟩ := q14
        dsimp only
        refine Ok.okI (by omega) (by omega) ?_
        refine Ok.wr (fun M20 q18 => ?_)
        have i19 := up_93 (i := v2.toNatClampNeg) q15 (tn_lt (by omega) (by omega)) (j := v4.toNatClampNeg) (v := r12) (by omega) (by omega)
        rw [← q18] at i19
        refine Ok.okI (by omega) (by omega) ?_
        refine Ok.okI (by omega) (by omega) ?_
        refine Ok.okI (by omega) (by omega) ?_
        have f24 := rd_93 (i := v2.toNatClampNeg) i19 (tn_lt (by omega) (by omega)) v4.toNatClampNeg
        refine Ok.wr (fun M23 q21 => ?_)
        have i22 := up_83 (i := v1.toNatClampNeg) i19 (tn_lt (by omega) (by omega)) (j := v4.toNatClampNeg) (v := (M20 (93 + v2.toNatClampNeg) v4.toNatClampNeg)) (by omega) (by omega)
        rw [← q21] at i22
        exact s_j_G_nameBlock_105 (bn := bn) (bt := bt) (v1 := v1) (v2 := v2) (v4 := v4) ih hk (i22.mono (by omega) (by omega)) (by omega) (by omega) (by omega) (by omega) (by omega) (by omega) (by omega) (by omega)
theorem s_j_G_nameBlock_56 {bn bt : Int} {G : Sto} {P : Int32 × Sto → Prop} {v1 v2 : Int32} {M : Sto} (hR : ∀ (r : Int32) (M : Sto), IX (bn + 12) bt G M → 0 ≤ r.toInt → r.toInt ≤ 0 → P (r, M)) (hI : IX bn bt G M) (r0 : 0 ≤ v1.toInt) (r1 : v1.toInt ≤ 9) (r2 : 0 ≤ v2.toInt) (r3 : v2.toInt ≤ 9) (x0_ : (bn + 12 ≤ 126)) : Ok P (j_G_nameBlock_56 v1 v2 M) := by
  unfold j_G_nameBlock_56
  have n1 : (0 : Int32).toInt = 0 := rfl
  have fu_ := fu_le
  refine s_l_G_nameBlock_59 (bn := bn) (bt := bt) (v1 := v1) (v2 := v2) (by omega) (by omega) (by omega) (by omega) (fun M2 i3 => ?_) FU 0 M (hI.mono (by omega) (by omega)) (by omega) (by omega) (by omega) (by omega)
  exact s_j_G_nameBlock_111 (bn := bn) (bt := bt) (v1 := v1) (v2 := v2) hR (i3.mono (by omega) (by omega)) (by omega) (by omega) (by omega) (by omega) (by omega)
theorem s_j_G_nameBlock_49 {bn bt : Int} {G : Sto} {P : Int32 × Sto → Prop} {g : Int32 → Int32 → Int32 → Int32 → Sto → Option (Int32 × Sto)} {k : Int32 → Int32 → Sto → Option (Int32 × Sto)} {n : Nat} {s0 s1 s2 v1 v2 v3 v4 : Int32} {M : Sto} (hg : ∀ (e4 : Int32) (M : Sto), IX bn bt G M → 0 ≤ e4.toInt → e4.toInt ≤ 6 → (bn + 12 ≤ 126) → 7 - e4.toInt ≤ (n : Int) → Ok P (g v1 v2 v3 e4 M)) (hk : ∀ (M : Sto), IX bn bt G M → Ok P (k v1 v2 M)) (hI : IX bn bt G M) (r0 : 0 ≤ s0.toInt) (r1 : s0.toInt ≤ 125) (r2 : 0 ≤ s1.toInt) (r3 : s1.toInt ≤ 5) (r4 : 0 ≤ s2.toInt) (r5 : s2.toInt ≤ 9) (r6 : 0 ≤ v1.toInt) (r7 : v1.toInt ≤ 9) (r8 : 0 ≤ v2.toInt) (r9 : v2.toInt ≤ 9) (r10 : (-1) ≤ v3.toInt) (r11 : v3.toInt ≤ 9) (r12 : 0 ≤ v4.toInt) (r13 : v4.toInt ≤ 5) (x0_ : (bn + 12 ≤ 126)) (hn : 7 - v4.toInt ≤ (n : Int) + 1) : Ok P (j_G_nameBlock_49 g k s0 s1 s2 v1 v2 v3 v4 M) := by
  unfold j_G_nameBlock_49
  refine Ok.okI (by omega) (by omega) ?_
  refine Ok.wr (fun M3 q1 => ?_)
  have i2 := up_93 (i := s2.toNatClampNeg) hI (tn_lt (by omega) (by omega)) (j := s1.toNatClampNeg) (v := s0) (by omega) (by omega)
  rw [← q1] at i2
  have n4 : (1 : Int32).toInt = 1 := rfl
  have f5 : (v4 + 1).toInt = v4.toInt + (1 : Int32).toInt := addI (by omega) (by omega)
  exact hg (v4 + 1) M3 (i2.mono (by omega) (by omega)) (by omega) (by omega) (by omega) (by omega)
theorem s_l_G_nameBlock_20 {bn bt : Int} {G : Sto} {P : Int32 × Sto → Prop} {k : Int32 → Int32 → Sto → Option (Int32 × Sto)} {v1 v2 v3 : Int32} (rf0 : 0 ≤ v1.toInt) (rf1 : v1.toInt ≤ 9) (rf2 : 0 ≤ v2.toInt) (rf3 : v2.toInt ≤ 9) (rf4 : (-1) ≤ v3.toInt) (rf5 : v3.toInt ≤ 9) (hk : ∀ (M : Sto), IX bn bt G M → Ok P (k v1 v2 M)) : ∀ (n : Nat) (v4 : Int32) (M : Sto), IX bn bt G M → 0 ≤ v4.toInt → v4.toInt ≤ 6 → (bn + 12 ≤ 126) → 7 - v4.toInt ≤ (n : Int) → Ok P (l_G_nameBlock_20 k n v1 v2 v3 v4 M) := by
  intro n
  induction n with
  | zero => intro v4 M hI r0 r1 x0_ hn; exfalso; omega
  | succ n ih =>
    intro v4 M hI r0 r1 x0_ hn
    unfold l_G_nameBlock_20
    have n1 : (6 : Int32).toInt = 6 := rfl
    refine Ok.le (fun c2 => ?_) (fun c2 => ?_)
    · exact hk M (hI.mono (by omega) (by omega))
    · have n3 : ((-1) : Int32).toInt = (-1) := rfl
      refine Ok.eq (fun c4 => ?_) (fun c4 => ?_)
      · exact s_j_G_nameBlock_49 (bn := bn) (bt := bt) (s0 := v4) (s1 := v4) (s2 := v2) (v1 := v1) (v2 := v2) (v3 := v3) (v4 := v4) ih hk (hI.mono (by omega) (by omega)) (by omega) (by omega) (by omega) (by omega) (by omega) (by omega) (by omega) (by omega) (by omega) (by omega) (by omega) (by omega) (by omega) (by omega) (by omega) (by omega)
      · refine Ok.okI (by omega) (by omega) ?_
        refine Ok.okI (by omega) (by omega) ?_
        have f5 := rd_93 (i := v3.toNatClampNeg) hI (tn_lt (by omega) (by omega)) v4.toNatClampNeg
        exact s_j_G_nameBlock_49 (bn := bn) (bt := bt) (s0 := (M (93 + v3.toNatClampNeg) v4.toNatClampNeg)) (s1 := v4) (s2 := v2) (v1 := v1) (v2 := v2) (v3 := v3) (v4 := v4) ih hk (hI.mono (by omega) (by omega)) (by omega) (by omega) (by omega) (by omega) (by omega) (by omega) (by omega) (by omega) (by omega) (by omega) (by omega) (by omega) (by omega) (by omega) (by omega) (by omega)
theorem s_m_G_nameBlock {bn bt : Int} {G : Sto} {x1 : Int32} {M : Sto} (hI : IX bn bt G M) (r0 : 0 ≤ x1.toInt) (r1 : x1.toInt ≤ 9) (x0_ : (bn + 12 ≤ 126)) : Ok (fun a => IX (bn + 12) bt G a.2 ∧ 0 ≤ a.1.toInt ∧ a.1.toInt ≤ 0) (m_G_nameBlock x1 M) := by
  have hR : ∀ (r : Int32) (M : Sto), IX (bn + 12) bt G M → 0 ≤ r.toInt → r.toInt ≤ 0 → (fun a : Int32 × Sto => IX (bn + 12) bt G a.2 ∧ 0 ≤ a.1.toInt ∧ a.1.toInt ≤ 0) (r, M) := fun r M hI h0 h1 => ⟨hI, h0, h1⟩
  unfold m_G_nameBlock
  refine Ok.okI (by omega) (by omega) ?_
  refine Ok.okI (by omega) (by omega) ?_
  have f1 := rd_14 hI x1.toNatClampNeg
  have n2 : (0 : Int32).toInt = 0 := rfl
  have fu_ := fu_le
  refine s_l_G_nameBlock_20 (bn := bn) (bt := bt) (v1 := x1) (v2 := x1) (v3 := (M 14 x1.toNatClampNeg)) (by omega) (by omega) (by omega) (by omega) (by omega) (by omega) (fun M3 i4 => ?_) FU 0 M (hI.mono (by omega) (by omega)) (by omega) (by omega) (by omega) (by omega)
  exact s_j_G_nameBlock_56 (bn := bn) (bt := bt) (v1 := x1) (v2 := x1) hR (i4.mono (by omega) (by omega)) (by omega) (by omega) (by omega) (by omega) (by omega)
theorem s_j_G_nameAll_75 {bn bt : Int} {G : Sto} {P : Int32 × Sto → Prop} {M : Sto} (hR : ∀ (r : Int32) (M : Sto), IX 126 bt G M → 0 ≤ r.toInt → r.toInt ≤ 0 → P (r, M)) (hI : IX 126 bt G M) : Ok P (j_G_nameAll_75 M) := by
  unfold j_G_nameAll_75
  have n1 : (0 : Int32).toInt = 0 := rfl
  exact Ok.some (hR 0 _ (hI.mono (by omega) (by omega)) (by omega) (by omega))
theorem s_l_G_nameAll_45 {bn bt : Int} {G : Sto} {P : Int32 × Sto → Prop} {k : Sto → Option (Int32 × Sto)} (hk : ∀ (M : Sto), IX 126 bt G M → Ok P (k M)) : ∀ (n : Nat) (v1 : Int32) (M : Sto), IX (6 + 12 * v1.toInt) bt G M → 0 ≤ v1.toInt → v1.toInt ≤ 10 → 11 - v1.toInt ≤ (n : Int) → Ok P (l_G_nameAll_45 k n v1 M) := by
  intro n
  induction n with
  | zero => intro v1 M hI r0 r1 hn; exfalso; omega
  | succ n ih =>
    intro v1 M hI r0 r1 hn
    unfold l_G_nameAll_45
    have f1 := rd_2_7 hI
    refine Ok.le (fun c2 => ?_) (fun c2 => ?_)
    · exact hk M (hI.mono (by omega) (by omega))
    · refine Ok.okI (by omega) (by omega) ?_
      have f3 := rd_16 hI v1.toNatClampNeg
      refine Ok.bind (s_m_G_nameBlock (x1 := (M 16 v1.toNatClampNeg)) hI (by omega) (by omega) (by omega)) (fun r4 M5 q6 => ?_)
      dsimp only at q6
      obtain ⟨q7, q8, q9⟩ := q6
      dsimp only
      have n10 : (1 : Int32).toInt = 1 := rfl
      have f11 : (v1 + 1).toInt = v1.toInt + (1 : Int32).toInt := addI (by omega) (by omega)
      exact ih (v1 + 1) M5 (q7.mono (by omega) (by omega)) (by omega) (by omega) (by omega)
theorem s_j_G_nameAll_43 {bn bt : Int} {G : Sto} {P : Int32 × Sto → Prop} {M : Sto} (hR : ∀ (r : Int32) (M : Sto), IX 126 bt G M → 0 ≤ r.toInt → r.toInt ≤ 0 → P (r, M)) (hI : IX 6 bt G M) : Ok P (j_G_nameAll_43 M) := by
  unfold j_G_nameAll_43
  have n1 : (0 : Int32).toInt = 0 := rfl
  have fu_ := fu_le
  refine s_l_G_nameAll_45 (bn := bn) (bt := bt) (fun M2 i3 => ?_) FU 0 M (hI.mono (by omega) (by omega)) (by omega) (by omega) (by omega)
  exact s_j_G_nameAll_75 (bn := bn) (bt := bt) hR (i3.mono (by omega) (by omega))
theorem s_l_G_nameAll_23 {bn bt : Int} {G : Sto} {P : Int32 × Sto → Prop} {k : Sto → Option (Int32 × Sto)} (hk : ∀ (M : Sto), IX 6 bt G M → Ok P (k M)) : ∀ (n : Nat) (v1 : Int32) (M : Sto), IX v1.toInt bt G M → 0 ≤ v1.toInt → v1.toInt ≤ 6 → 7 - v1.toInt ≤ (n : Int) → Ok P (l_G_nameAll_23 k n v1 M) := by
  intro n
  induction n with
  | zero => intro v1 M hI r0 r1 hn; exfalso; omega
  | succ n ih =>
    intro v1 M hI r0 r1 hn
    unfold l_G_nameAll_23
    have n1 : (6 : Int32).toInt = 6 := rfl
    refine Ok.le (fun c2 => ?_) (fun c2 => ?_)
    · exact hk M (hI.mono (by omega) (by omega))
    · have n3 : ((-1) : Int32).toInt = (-1) := rfl
      refine Ok.bind (s_m_G_newName (x1 := (-1)) (x2 := (-1)) (x3 := v1) hI (by omega) (by omega) (by omega) (by omega) (by omega) (by omega) (by omega)) (fun r4 M5 q6 => ?_)
      dsimp only at q6
      obtain ⟨q7, q8, q9⟩ := q6
      dsimp only
      have n10 : (1 : Int32).toInt = 1 := rfl
      have f11 : (v1 + 1).toInt = v1.toInt + (1 : Int32).toInt := addI (by omega) (by omega)
      exact ih (v1 + 1) M5 (q7.mono (by omega) (by omega)) (by omega) (by omega) (by omega)
theorem s_m_G_nameAll {bn bt : Int} {G : Sto} {M : Sto} (hI : IX bn bt G M) : Ok (fun a => IX 126 bt G a.2 ∧ 0 ≤ a.1.toInt ∧ a.1.toInt ≤ 0) (m_G_nameAll M) := by
  have hR : ∀ (r : Int32) (M : Sto), IX 126 bt G M → 0 ≤ r.toInt → r.toInt ≤ 0 → (fun a : Int32 × Sto => IX 126 bt G a.2 ∧ 0 ≤ a.1.toInt ∧ a.1.toInt ≤ 0) (r, M) := fun r M hI h0 h1 => ⟨hI, h0, h1⟩
  unfold m_G_nameAll
  refine Ok.bind (s_m_G_findDefined hI) (fun r1 M2 q3 => ?_)
  dsimp only at q3
  obtain ⟨q4, q5, q6⟩ := q3
  dsimp only
  refine Ok.bind (s_m_G_placePhis q4) (fun r7 M8 q9 => ?_)
  dsimp only at q9
  obtain ⟨q10, q11, q12⟩ := q9
  dsimp only
  have n16 : ((-1) : Int32).toInt = (-1) := rfl
  refine Ok.wr (fun M15 q13 => ?_)
  have i14 := fl_20 q10 (n := 10) (v := (-1)) (by omega) (by omega)
  rw [← q13] at i14
  have n20 : (0 : Int32).toInt = 0 := rfl
  refine Ok.wr (fun M19 q17 => ?_)
  have i18 := set_3_2 (b := 0) (v := 0) i14 (by omega) (by omega)
  rw [← q17] at i18
  have fu_ := fu_le
  refine s_l_G_nameAll_23 (bn := bn) (bt := bt) (fun M21 i22 => ?_) FU 0 M19 (i18.mono (by omega) (by omega)) (by omega) (by omega) (by omega)
  exact s_j_G_nameAll_43 (bn := bn) (bt := bt) hR (i22.mono (by omega) (by omega))
theorem s_j_G_phiVariable_42 {bn bt : Int} {G : Sto} {P : Int32 × Sto → Prop} {M : Sto} (hR : ∀ r : Int32, (-1) ≤ r.toInt → r.toInt ≤ 5 → P (r, M)) (hI : IX bn bt G M) : Ok P (j_G_phiVariable_42 M) := by
  unfold j_G_phiVariable_42
  have n1 : ((-1) : Int32).toInt = (-1) := rfl
  exact Ok.some (hR (-1) (by omega) (by omega))
theorem s_j_G_phiVariable_36 {bn bt : Int} {G : Sto} {P : Int32 × Sto → Prop} {g : Int32 → Int32 → Int32 → Sto → Option (Int32 × Sto)} {k : Sto → Option (Int32 × Sto)} {n : Nat} {v1 v3 v4 : Int32} {M : Sto} (hg : ∀ (e3 e4 : Int32), 0 ≤ e4.toInt → e4.toInt ≤ 6 → 7 - e4.toInt ≤ (n : Int) → Ok P (g v1 e3 e4 M)) (hk : Ok P (k M)) (hI : IX bn bt G M) (r0 : 0 ≤ v1.toInt) (r1 : v1.toInt ≤ 9) (r2 : 0 ≤ v4.toInt) (r3 : v4.toInt ≤ 5) (hn : 7 - v4.toInt ≤ (n : Int) + 1) : Ok P (j_G_phiVariable_36 g k v1 v3 v4 M) := by
  unfold j_G_phiVariable_36
  have n1 : (1 : Int32).toInt = 1 := rfl
  have f2 : (v4 + 1).toInt = v4.toInt + (1 : Int32).toInt := addI (by omega) (by omega)
  exact hg v3 (v4 + 1) (by omega) (by omega) (by omega)
theorem s_l_G_phiVariable_5 {bn bt : Int} {G : Sto} {P : Int32 × Sto → Prop} {k : Sto → Option (Int32 × Sto)} {v1 : Int32} {M : Sto} (hI : IX bn bt G M) (rf0 : 0 ≤ v1.toInt) (rf1 : v1.toInt ≤ 9) (hk : Ok P (k M)) (hR : ∀ r : Int32, (-1) ≤ r.toInt → r.toInt ≤ 5 → P (r, M)) : ∀ (n : Nat) (v3 v4 : Int32), 0 ≤ v4.toInt → v4.toInt ≤ 6 → 7 - v4.toInt ≤ (n : Int) → Ok P (l_G_phiVariable_5 k n v1 v3 v4 M) := by
  intro n
  induction n with
  | zero => intro v3 v4 r0 r1 hn; exfalso; omega
  | succ n ih =>
    intro v3 v4 r0 r1 hn
    unfold l_G_phiVariable_5
    have n1 : (6 : Int32).toInt = 6 := rfl
    refine Ok.le (fun c2 => ?_) (fun c2 => ?_)
    · exact hk
    · refine Ok.okI (by omega) (by omega) ?_
      refine Ok.bind (s_m_N_holds (x0 := (M 18 v1.toNatClampNeg)) (x1 := v4) hI) (fun r3 M4 q5 => ?_)
      dsimp only at q5
      obtain ⟨q6, q7, q8⟩ := q5
      have q6 : M = M4 := q6
      subst q6
      dsimp only
      have n9 : (0 : Int32).toInt = 0 := rfl
      refine Ok.eq (fun c10 => ?_) (fun c10 => ?_)
      · exact s_j_G_phiVariable_36 (v1 := v1) (v3 := v3) (v4 := v4) ih hk hI (by omega) (by omega) (by omega) (by omega) (by omega)
      · refine Ok.eq (fun c11 => ?_) (fun c11 => ?_)
        · exact Ok.some (hR v4 (by omega) (by omega))
        · have n12 : ((-1) : Int32).toInt = (-1) := rfl
          exact s_j_G_phiVariable_36 (v1 := v1) (v3 := (v3 + (-1))) (v4 := v4) ih hk hI (by omega) (by omega) (by omega) (by omega) (by omega)
theorem s_m_G_phiVariable {bn bt : Int} {G : Sto} {x1 x2 : Int32} {M : Sto} (hI : IX bn bt G M) (r0 : 0 ≤ x1.toInt) (r1 : x1.toInt ≤ 9) : Ok (fun a => M = a.2 ∧ (-1) ≤ a.1.toInt ∧ a.1.toInt ≤ 5) (m_G_phiVariable x1 x2 M) := by
  have hR : ∀ r : Int32, (-1) ≤ r.toInt → r.toInt ≤ 5 → (fun a : Int32 × Sto => M = a.2 ∧ (-1) ≤ a.1.toInt ∧ a.1.toInt ≤ 5) (r, M) := fun r h0 h1 => ⟨rfl, h0, h1⟩
  unfold m_G_phiVariable
  have n1 : (0 : Int32).toInt = 0 := rfl
  have fu_ := fu_le
  refine s_l_G_phiVariable_5 (v1 := x1) hI (by omega) (by omega) (?_) hR FU x2 0 (by omega) (by omega) (by omega)
  exact s_j_G_phiVariable_42 hR hI
end
section
theorem s_m_K_isWayTaken {bn bt : Int} {G : Sto} {x1 x2 : Int32} {M : Sto} (hI : IX bn bt G M) (r0 : 0 ≤ x1.toInt) (r1 : x1.toInt ≤ 9) : Ok (fun a => M = a.2 ∧ 0 ≤ a.1.toInt ∧ a.1.toInt ≤ 1) (m_K_isWayTaken x1 x2 M) := by
  have hR : ∀ r : Int32, 0 ≤ r.toInt → r.toInt ≤ 1 → (fun a : Int32 × Sto => M = a.2 ∧ 0 ≤ a.1.toInt ∧ a.1.toInt ≤ 1) (r, M) := fun r h0 h1 => ⟨rfl, h0, h1⟩
  unfold m_K_isWayTaken
  refine Ok.okI (by omega) (by omega) ?_
  refine Ok.bind (s_m_N_holds (x0 := (M 24 x1.toNatClampNeg)) (x1 := x2) hI) (fun r1 M2 q3 => ?_)
  dsimp only at q3
  obtain ⟨q4, q5, q6⟩ := q3
  have q4 : M = M2 := q4
  subst q4
  dsimp only
  refine Ok.bzI (by omega) (by omega) ?_
  exact Ok.some (hR r1 (by omega) (by omega))
theorem s_j_K_raise_14 {bn bt : Int} {G : Sto} {P : Int32 × Sto → Prop} {M : Sto} (hR : ∀ (r : Int32) (M : Sto), IX bn bt G M → 0 ≤ r.toInt → r.toInt ≤ 0 → P (r, M)) (hI : IX bn bt G M) : Ok P (j_K_raise_14 M) := by
  unfold j_K_raise_14
  have n1 : (0 : Int32).toInt = 0 := rfl
  exact Ok.some (hR 0 _ hI (by omega) (by omega))
theorem s_j_K_raise_80 {bn bt : Int} {G : Sto} {P : Int32 × Sto → Prop} {M : Sto} (hR : ∀ (r : Int32) (M : Sto), IX bn bt G M → 0 ≤ r.toInt → r.toInt ≤ 0 → P (r, M)) (hI : IX bn bt G M) : Ok P (j_K_raise_80 M) := by
  unfold j_K_raise_80
  have n1 : (0 : Int32).toInt = 0 := rfl
  exact Ok.some (hR 0 _ hI (by omega) (by omega))
theorem s_j_K_raise_61 {bn bt : Int} {G : Sto} {P : Int32 × Sto → Prop} {v1 : Int32} {M : Sto} (hR : ∀ (r : Int32) (M : Sto), IX bn bt G M → 0 ≤ r.toInt → r.toInt ≤ 0 → P (r, M)) (hI : IX bn bt G M) (r0 : 0 ≤ v1.toInt) (r1 : v1.toInt ≤ 125) : Ok P (j_K_raise_61 v1 M) := by
  unfold j_K_raise_61
  refine Ok.okI (by omega) (by omega) ?_
  have n4 : (2 : Int32).toInt = 2 := rfl
  refine Ok.wr (fun M3 q1 => ?_)
  have i2 := up_25 hI (j := v1.toNatClampNeg) (v := 2)
  rw [← q1] at i2
  refine Ok.okI (by omega) (by omega) ?_
  have n8 : (0 : Int32).toInt = 0 := rfl
  refine Ok.wr (fun M7 q5 => ?_)
  have i6 := up_26 i2 (j := v1.toNatClampNeg) (v := 0)
  rw [← q5] at i6
  have n9 : (1 : Int32).toInt = 1 := rfl
  refine Ok.bzI (by omega) (by omega) ?_
  refine Ok.wr (fun M12 q10 => ?_)
  have i11 := up_4_7 i6 (v := 1) (by omega) (by omega)
  rw [← q10] at i11
  exact s_j_K_raise_80 hR i11
theorem s_m_K_raise {bn bt : Int} {G : Sto} {x1 x2 x3 : Int32} {M : Sto} (hI : IX bn bt G M) (r0 : 0 ≤ x1.toInt) (r1 : x1.toInt ≤ 125) : Ok (fun a => IX bn bt G a.2 ∧ 0 ≤ a.1.toInt ∧ a.1.toInt ≤ 0) (m_K_raise x1 x2 x3 M) := by
  have hR : ∀ (r : Int32) (M : Sto), IX bn bt G M → 0 ≤ r.toInt → r.toInt ≤ 0 → (fun a : Int32 × Sto => IX bn bt G a.2 ∧ 0 ≤ a.1.toInt ∧ a.1.toInt ≤ 0) (r, M) := fun r M hI h0 h1 => ⟨hI, h0, h1⟩
  unfold m_K_raise
  have n1 : (0 : Int32).toInt = 0 := rfl
  refine Ok.eq (fun c2 => ?_) (fun c2 => ?_)
  · exact s_j_K_raise_14 hR hI
  · refine Ok.okI (by omega) (by omega) ?_
    have n3 : (2 : Int32).toInt = 2 := rfl
    refine Ok.eq (fun c4 => ?_) (fun c4 => ?_)
    · exact s_j_K_raise_14 hR hI
    · refine Ok.okI (by omega) (by omega) ?_
      refine Ok.eq (fun c5 => ?_) (fun c5 => ?_)
      · refine Ok.okI (by omega) (by omega) ?_
        refine Ok.wr (fun M8 q6 => ?_)
        have i7 := up_25 hI (j := x1.toNatClampNeg) (v := x2)
        rw [← q6] at i7
        refine Ok.okI (by omega) (by omega) ?_
        refine Ok.wr (fun M11 q9 => ?_)
        have i10 := up_26 i7 (j := x1.toNatClampNeg) (v := x3)
        rw [← q9] at i10
        have n12 : (1 : Int32).toInt = 1 := rfl
        refine Ok.bzI (by omega) (by omega) ?_
        refine Ok.wr (fun M15 q13 => ?_)
        have i14 := up_4_7 i10 (v := 1) (by omega) (by omega)
        rw [← q13] at i14
        exact s_j_K_raise_80 hR i14
      · refine Ok.eq (fun c16 => ?_) (fun c16 => ?_)
        · exact s_j_K_raise_61 (v1 := x1) hR hI (by omega) (by omega)
        · refine Ok.okI (by omega) (by omega) ?_
          refine Ok.eq (fun c17 => ?_) (fun c17 => ?_)
          · exact s_j_K_raise_80 hR hI
          · exact s_j_K_raise_61 (v1 := x1) hR hI (by omega) (by omega)
theorem s_j_K_passPhi_70 {bn bt : Int} {G : Sto} {P : Int32 × Sto → Prop} {M : Sto} (hR : ∀ (r : Int32) (M : Sto), IX bn bt G M → 0 ≤ r.toInt → r.toInt ≤ 0 → P (r, M)) (hI : IX bn bt G M) : Ok P (j_K_passPhi_70 M) := by
  unfold j_K_passPhi_70
  have n1 : (0 : Int32).toInt = 0 := rfl
  exact Ok.some (hR 0 _ hI (by omega) (by omega))
theorem s_j_K_passPhi_64 {bn bt : Int} {G : Sto} {P : Int32 × Sto → Prop} {g : Int32 → Int32 → Int32 → Sto → Option (Int32 × Sto)} {k : Sto → Option (Int32 × Sto)} {n : Nat} {v1 v2 v3 : Int32} {M : Sto} (hg : ∀ (e3 : Int32) (M : Sto), IX bn bt G M → 0 ≤ e3.toInt → e3.toInt ≤ 10 → 11 - e3.toInt ≤ (n : Int) → Ok P (g v1 v2 e3 M)) (hk : ∀ (M : Sto), IX bn bt G M → Ok P (k M)) (hI : IX bn bt G M) (r0 : 0 ≤ v1.toInt) (r1 : v1.toInt ≤ 9) (r2 : 0 ≤ v2.toInt) (r3 : v2.toInt ≤ 5) (r4 : 0 ≤ v3.toInt) (r5 : v3.toInt ≤ 9) (hn : 11 - v3.toInt ≤ (n : Int) + 1) : Ok P (j_K_passPhi_64 g k v1 v2 v3 M) := by
  unfold j_K_passPhi_64
  have n1 : (1 : Int32).toInt = 1 := rfl
  have f2 : (v3 + 1).toInt = v3.toInt + (1 : Int32).toInt := addI (by omega) (by omega)
  exact hg (v3 + 1) M hI (by omega) (by omega) (by omega)
theorem s_l_K_passPhi_2 {bn bt : Int} {G : Sto} {P : Int32 × Sto → Prop} {k : Sto → Option (Int32 × Sto)} {v1 v2 : Int32} (rf0 : 0 ≤ v1.toInt) (rf1 : v1.toInt ≤ 9) (rf2 : 0 ≤ v2.toInt) (rf3 : v2.toInt ≤ 5) (hk : ∀ (M : Sto), IX bn bt G M → Ok P (k M)) : ∀ (n : Nat) (v3 : Int32) (M : Sto), IX bn bt G M → 0 ≤ v3.toInt → v3.toInt ≤ 10 → 11 - v3.toInt ≤ (n : Int) → Ok P (l_K_passPhi_2 k n v1 v2 v3 M) := by
  intro n
  induction n with
  | zero => intro v3 M hI r0 r1 hn; exfalso; omega
  | succ n ih =>
    intro v3 M hI r0 r1 hn
    unfold l_K_passPhi_2
    have f1 := rd_1_0 hI
    refine Ok.le (fun c2 => ?_) (fun c2 => ?_)
    · exact hk M hI
    · refine Ok.bind (s_m_K_isWayTaken (x1 := v3) (x2 := v1) hI (by omega) (by omega)) (fun r3 M4 q5 => ?_)
      dsimp only at q5
      obtain ⟨q6, q7, q8⟩ := q5
      have q6 : M = M4 := q6
      subst q6
      dsimp only
      have n9 : (0 : Int32).toInt = 0 := rfl
      refine Ok.eq (fun c10 => ?_) (fun c10 => ?_)
      · exact s_j_K_passPhi_64 (v1 := v1) (v2 := v2) (v3 := v3) ih hk hI (by omega) (by omega) (by omega) (by omega) (by omega) (by omega) (by omega)
      · refine Ok.okI (by omega) (by omega) ?_
        refine Ok.okI (by omega) (by omega) ?_
        refine Ok.okI (by omega) (by omega) ?_
        refine Ok.okI (by omega) (by omega) ?_
        have f11 := rd_93 (i := v3.toNatClampNeg) hI (tn_lt (by omega) (by omega)) v2.toNatClampNeg
        refine Ok.okI (by omega) (by omega) ?_
        refine Ok.okI (by omega) (by omega) ?_
        have f12 := rd_83 (i := v1.toNatClampNeg) hI (tn_lt (by omega) (by omega)) v2.toNatClampNeg
        refine Ok.bind (s_m_K_raise (x1 := (M (83 + v1.toNatClampNeg) v2.toNatClampNeg)) (x2 := (M 25 ((M (93 + v3.toNatClampNeg) v2.toNatClampNeg).toNatClampNeg))) (x3 := (M 26 ((M (93 + v3.toNatClampNeg) v2.toNatClampNeg).toNatClampNeg))) hI (by omega) (by omega)) (fun r13 M14 q15 => ?_)
        dsimp only at q15
        obtain ⟨q16, q17, q18⟩ := q15
        dsimp only
        exact s_j_K_passPhi_64 (v1 := v1) (v2 := v2) (v3 := v3) ih hk q16 (by omega) (by omega) (by omega) (by omega) (by omega) (by omega) (by omega)
theorem s_m_K_passPhi {bn bt : Int} {G : Sto} {x1 x2 : Int32} {M : Sto} (hI : IX bn bt G M) (r0 : 0 ≤ x1.toInt) (r1 : x1.toInt ≤ 9) (r2 : 0 ≤ x2.toInt) (r3 : x2.toInt ≤ 5) : Ok (fun a => IX bn bt G a.2 ∧ 0 ≤ a.1.toInt ∧ a.1.toInt ≤ 0) (m_K_passPhi x1 x2 M) := by
  have hR : ∀ (r : Int32) (M : Sto), IX bn bt G M → 0 ≤ r.toInt → r.toInt ≤ 0 → (fun a : Int32 × Sto => IX bn bt G a.2 ∧ 0 ≤ a.1.toInt ∧ a.1.toInt ≤ 0) (r, M) := fun r M hI h0 h1 => ⟨hI, h0, h1⟩
  unfold m_K_passPhi
  have n1 : (0 : Int32).toInt = 0 := rfl
  have fu_ := fu_le
  refine s_l_K_passPhi_2 (v1 := x1) (v2 := x2) (by omega) (by omega) (by omega) (by omega) (fun M2 i3 => ?_) FU 0 M hI (by omega) (by omega) (by omega)
  exact s_j_K_passPhi_70 hR i3
theorem s_j_K_passInstruction_193 {bn bt : Int} {G : Sto} {P : Int32 × Sto → Prop} {M : Sto} (hR : ∀ (r : Int32) (M : Sto), IX bn bt G M → 0 ≤ r.toInt → r.toInt ≤ 0 → P (r, M)) (hI : IX bn bt G M) : Ok P (j_K_passInstruction_193 M) := by
  unfold j_K_passInstruction_193
  have n1 : (0 : Int32).toInt = 0 := rfl
  exact Ok.some (hR 0 _ hI (by omega) (by omega))
theorem s_j_K_passInstruction_107 {bn bt : Int} {G : Sto} {P : Int32 × Sto → Prop} {v8 : Int32} {M : Sto} (hR : ∀ (r : Int32) (M : Sto), IX bn bt G M → 0 ≤ r.toInt → r.toInt ≤ 0 → P (r, M)) (hI : IX bn bt G M) (r0 : (-1) ≤ v8.toInt) (r1 : v8.toInt ≤ 125) (x0_ : (0 ≤ v8.toInt)) : Ok P (j_K_passInstruction_107 v8 M) := by
  unfold j_K_passInstruction_107
  have n1 : (2 : Int32).toInt = 2 := rfl
  have n2 : (0 : Int32).toInt = 0 := rfl
  refine Ok.bind (s_m_K_raise (x1 := v8) (x2 := 2) (x3 := 0) hI (by omega) (by omega)) (fun r3 M4 q5 => ?_)
  dsimp only at q5
  obtain ⟨q6, q7, q8⟩ := q5
  dsimp only
  exact s_j_K_passInstruction_193 hR q6
theorem s_j_K_passInstruction_176 {bn bt : Int} {G : Sto} {P : Int32 × Sto → Prop} {s0 v3 v8 v9 : Int32} {M : Sto} (hR : ∀ (r : Int32) (M : Sto), IX bn bt G M → 0 ≤ r.toInt → r.toInt ≤ 0 → P (r, M)) (hI : IX bn bt G M) (r0 : (-1) ≤ v8.toInt) (r1 : v8.toInt ≤ 125) (x0_ : (0 ≤ v8.toInt)) : Ok P (j_K_passInstruction_176 s0 v3 v8 v9 M) := by
  unfold j_K_passInstruction_176
  refine Ok.bind (s_m_N_calculate (x0 := v3) (x1 := v9) (x2 := s0) hI) (fun r1 M2 q3 => ?_)
  dsimp only at q3
  have q4 := q3
  have q4 : M = M2 := q4
  subst q4
  dsimp only
  have n5 : (1 : Int32).toInt = 1 := rfl
  refine Ok.bind (s_m_K_raise (x1 := v8) (x2 := 1) (x3 := r1) hI (by omega) (by omega)) (fun r6 M7 q8 => ?_)
  dsimp only at q8
  obtain ⟨q9, q10, q11⟩ := q8
  dsimp only
  exact s_j_K_passInstruction_193 hR q9
theorem s_j_K_passInstruction_157 {bn bt : Int} {G : Sto} {P : Int32 × Sto → Prop} {s0 v3 v5 v8 : Int32} {M : Sto} (hR : ∀ (r : Int32) (M : Sto), IX bn bt G M → 0 ≤ r.toInt → r.toInt ≤ 0 → P (r, M)) (hI : IX bn bt G M) (r0 : (-1) ≤ v5.toInt) (r1 : v5.toInt ≤ 125) (r2 : (-1) ≤ v8.toInt) (r3 : v8.toInt ≤ 125) (x0_ : (0 ≤ v8.toInt)) : Ok P (j_K_passInstruction_157 s0 v3 v5 v8 M) := by
  unfold j_K_passInstruction_157
  have n1 : ((-1) : Int32).toInt = (-1) := rfl
  refine Ok.eq (fun c2 => ?_) (fun c2 => ?_)
  · have n3 : (0 : Int32).toInt = 0 := rfl
    exact s_j_K_passInstruction_176 (s0 := 0) (v3 := v3) (v8 := v8) (v9 := s0) hR hI (by omega) (by omega) (by omega)
  · refine Ok.okI (by omega) (by omega) ?_
    exact s_j_K_passInstruction_176 (s0 := (M 26 v5.toNatClampNeg)) (v3 := v3) (v8 := v8) (v9 := s0) hR hI (by omega) (by omega) (by omega)
theorem s_j_K_passInstruction_74 {bn bt : Int} {G : Sto} {P : Int32 × Sto → Prop} {s0 v1 v2 v3 v4 v5 v6 : Int32} {M : Sto} (hR : ∀ (r : Int32) (M : Sto), IX bn bt G M → 0 ≤ r.toInt → r.toInt ≤ 0 → P (r, M)) (hI : IX bn bt G M) (r0 : 0 ≤ v1.toInt) (r1 : v1.toInt ≤ 9) (r2 : 0 ≤ v2.toInt) (r3 : v2.toInt ≤ 5) (r4 : (-1) ≤ v4.toInt) (r5 : v4.toInt ≤ 125) (r6 : (-1) ≤ v5.toInt) (r7 : v5.toInt ≤ 125) (x0_ : (0 ≤ (M (103 + v1.toNatClampNeg) v2.toNatClampNeg).toInt)) : Ok P (j_K_passInstruction_74 s0 v1 v2 v3 v4 v5 v6 M) := by
  unfold j_K_passInstruction_74
  refine Ok.okI (by omega) (by omega) ?_
  refine Ok.okI (by omega) (by omega) ?_
  have n1 : (6 : Int32).toInt = 6 := rfl
  refine Ok.eq (fun c2 => ?_) (fun c2 => ?_)
  · have f3 := rd_103 (i := v1.toNatClampNeg) hI (tn_lt (by omega) (by omega)) v2.toNatClampNeg
    exact s_j_K_passInstruction_107 (v8 := (M (103 + v1.toNatClampNeg) v2.toNatClampNeg)) hR hI (by omega) (by omega) (by omega)
  · have n4 : (2 : Int32).toInt = 2 := rfl
    refine Ok.eq (fun c5 => ?_) (fun c5 => ?_)
    · have f6 := rd_103 (i := v1.toNatClampNeg) hI (tn_lt (by omega) (by omega)) v2.toNatClampNeg
      exact s_j_K_passInstruction_107 (v8 := (M (103 + v1.toNatClampNeg) v2.toNatClampNeg)) hR hI (by omega) (by omega) (by omega)
    · refine Ok.eq (fun c7 => ?_) (fun c7 => ?_)
      · have f8 := rd_103 (i := v1.toNatClampNeg) hI (tn_lt (by omega) (by omega)) v2.toNatClampNeg
        exact s_j_K_passInstruction_107 (v8 := (M (103 + v1.toNatClampNeg) v2.toNatClampNeg)) hR hI (by omega) (by omega) (by omega)
      · have n9 : (1 : Int32).toInt = 1 := rfl
        refine Ok.eq (fun c10 => ?_) (fun c10 => ?_)
        · refine Ok.eq (fun c11 => ?_) (fun c11 => ?_)
          · have n12 : ((-1) : Int32).toInt = (-1) := rfl
            refine Ok.eq (fun c13 => ?_) (fun c13 => ?_)
            · refine Ok.okI (by omega) (by omega) ?_
              refine Ok.okI (by omega) (by omega) ?_
              have f14 := rd_63 (i := v1.toNatClampNeg) hI (tn_lt (by omega) (by omega)) v2.toNatClampNeg
              have f15 := rd_103 (i := v1.toNatClampNeg) hI (tn_lt (by omega) (by omega)) v2.toNatClampNeg
              exact s_j_K_passInstruction_157 (s0 := (M (63 + v1.toNatClampNeg) v2.toNatClampNeg)) (v3 := v3) (v5 := v5) (v8 := (M (103 + v1.toNatClampNeg) v2.toNatClampNeg)) hR hI (by omega) (by omega) (by omega) (by omega) (by omega)
            · refine Ok.okI (by omega) (by omega) ?_
              have f16 := rd_103 (i := v1.toNatClampNeg) hI (tn_lt (by omega) (by omega)) v2.toNatClampNeg
              exact s_j_K_passInstruction_157 (s0 := (M 26 v4.toNatClampNeg)) (v3 := v3) (v5 := v5) (v8 := (M (103 + v1.toNatClampNeg) v2.toNatClampNeg)) hR hI (by omega) (by omega) (by omega) (by omega) (by omega)
          · exact s_j_K_passInstruction_193 hR hI
        · exact s_j_K_passInstruction_193 hR hI
theorem s_j_K_passInstruction_55 {bn bt : Int} {G : Sto} {P : Int32 × Sto → Prop} {s0 v1 v2 v3 v4 v5 : Int32} {M : Sto} (hR : ∀ (r : Int32) (M : Sto), IX bn bt G M → 0 ≤ r.toInt → r.toInt ≤ 0 → P (r, M)) (hI : IX bn bt G M) (r0 : 0 ≤ v1.toInt) (r1 : v1.toInt ≤ 9) (r2 : 0 ≤ v2.toInt) (r3 : v2.toInt ≤ 5) (r4 : (-1) ≤ v4.toInt) (r5 : v4.toInt ≤ 125) (r6 : (-1) ≤ v5.toInt) (r7 : v5.toInt ≤ 125) (x0_ : (0 ≤ (M (103 + v1.toNatClampNeg) v2.toNatClampNeg).toInt)) : Ok P (j_K_passInstruction_55 s0 v1 v2 v3 v4 v5 M) := by
  unfold j_K_passInstruction_55
  have n1 : ((-1) : Int32).toInt = (-1) := rfl
  refine Ok.eq (fun c2 => ?_) (fun c2 => ?_)
  · have n3 : (1 : Int32).toInt = 1 := rfl
    exact s_j_K_passInstruction_74 (s0 := 1) (v1 := v1) (v2 := v2) (v3 := v3) (v4 := v4) (v5 := v5) (v6 := s0) hR hI (by omega) (by omega) (by omega) (by omega) (by omega) (by omega) (by omega) (by omega) (by omega)
  · refine Ok.okI (by omega) (by omega) ?_
    exact s_j_K_passInstruction_74 (s0 := (M 25 v5.toNatClampNeg)) (v1 := v1) (v2 := v2) (v3 := v3) (v4 := v4) (v5 := v5) (v6 := s0) hR hI (by omega) (by omega) (by omega) (by omega) (by omega) (by omega) (by omega) (by omega) (by omega)
theorem s_m_K_passInstruction {bn bt : Int} {G : Sto} {x1 x2 : Int32} {M : Sto} (hI : IX bn bt G M) (r0 : 0 ≤ x1.toInt) (r1 : x1.toInt ≤ 9) (r2 : 0 ≤ x2.toInt) (r3 : x2.toInt ≤ 5) (x0_ : (0 ≤ (M (103 + x1.toNatClampNeg) x2.toNatClampNeg).toInt)) : Ok (fun a => IX bn bt G a.2 ∧ 0 ≤ a.1.toInt ∧ a.1.toInt ≤ 0) (m_K_passInstruction x1 x2 M) := by
  have hR : ∀ (r : Int32) (M : Sto), IX bn bt G M → 0 ≤ r.toInt → r.toInt ≤ 0 → (fun a : Int32 × Sto => IX bn bt G a.2 ∧ 0 ≤ a.1.toInt ∧ a.1.toInt ≤ 0) (r, M) := fun r M hI h0 h1 => ⟨hI, h0, h1⟩
  unfold m_K_passInstruction
  refine Ok.okI (by omega) (by omega) ?_
  refine Ok.okI (by omega) (by omega) ?_
  refine Ok.okI (by omega) (by omega) ?_
  refine Ok.okI (by omega) (by omega) ?_
  refine Ok.okI (by omega) (by omega) ?_
  refine Ok.okI (by omega) (by omega) ?_
  have f1 := rd_113 (i := x1.toNatClampNeg) hI (tn_lt (by omega) (by omega)) x2.toNatClampNeg
  have n2 : ((-1) : Int32).toInt = (-1) := rfl
  refine Ok.eq (fun c3 => ?_) (fun c3 => ?_)
  · have n4 : (1 : Int32).toInt = 1 := rfl
    have f5 := congrArg Int32.toInt (rd_kind (i := x1.toNatClampNeg) hI (tn_lt (by omega) (by omega)) x2.toNatClampNeg)
    have f6 := rd_123 (i := x1.toNatClampNeg) hI (tn_lt (by omega) (by omega)) x2.toNatClampNeg
    exact s_j_K_passInstruction_55 (s0 := 1) (v1 := x1) (v2 := x2) (v3 := (M (43 + x1.toNatClampNeg) x2.toNatClampNeg)) (v4 := (M (113 + x1.toNatClampNeg) x2.toNatClampNeg)) (v5 := (M (123 + x1.toNatClampNeg) x2.toNatClampNeg)) hR hI (by omega) (by omega) (by omega) (by omega) (by omega) (by omega) (by omega) (by omega) (by omega)
  · refine Ok.okI (by omega) (by omega) ?_
    have f7 := congrArg Int32.toInt (rd_kind (i := x1.toNatClampNeg) hI (tn_lt (by omega) (by omega)) x2.toNatClampNeg)
    have f8 := rd_123 (i := x1.toNatClampNeg) hI (tn_lt (by omega) (by omega)) x2.toNatClampNeg
    exact s_j_K_passInstruction_55 (s0 := (M 25 ((M (113 + x1.toNatClampNeg) x2.toNatClampNeg).toNatClampNeg))) (v1 := x1) (v2 := x2) (v3 := (M (43 + x1.toNatClampNeg) x2.toNatClampNeg)) (v4 := (M (113 + x1.toNatClampNeg) x2.toNatClampNeg)) (v5 := (M (123 + x1.toNatClampNeg) x2.toNatClampNeg)) hR hI (by omega) (by omega) (by omega) (by omega) (by omega) (by omega) (by omega) (by omega) (by omega)
theorem s_j_K_waysTaken_25 {bn bt : Int} {G : Sto} {P : Int32 × Sto → Prop} {v1 : Int32} {M : Sto} (hR : ∀ r : Int32, P (r, M)) (hI : IX bn bt G M) (r0 : 0 ≤ v1.toInt) (r1 : v1.toInt ≤ 9) : Ok P (j_K_waysTaken_25 v1 M) := by
  unfold j_K_waysTaken_25
  refine Ok.bind (s_m_P_ways (x1 := v1) hI (by omega) (by omega)) (fun r1 M2 q3 => ?_)
  dsimp only at q3
  have q4 := q3
  have q4 : M = M2 := q4
  subst q4
  dsimp only
  exact Ok.some (hR r1)
theorem s_j_K_waysTaken_75 {bn bt : Int} {G : Sto} {P : Int32 × Sto → Prop} {s0 : Int32} {M : Sto} (hR : ∀ r : Int32, P (r, M)) (hI : IX bn bt G M) (r0 : 0 ≤ s0.toInt) (r1 : s0.toInt ≤ 9) : Ok P (j_K_waysTaken_75 s0 M) := by
  unfold j_K_waysTaken_75
  refine Ok.bind (s_m_N_bit (x0 := s0) hI) (fun r1 M2 q3 => ?_)
  dsimp only at q3
  have q4 := q3
  have q4 : M = M2 := q4
  subst q4
  dsimp only
  exact Ok.some (hR r1)
theorem s_m_K_waysTaken {bn bt : Int} {G : Sto} {x1 : Int32} {M : Sto} (hI : IX bn bt G M) (r0 : 0 ≤ x1.toInt) (r1 : x1.toInt ≤ 9) : Ok (fun a => M = a.2) (m_K_waysTaken x1 M) := by
  have hR : ∀ r : Int32, (fun a : Int32 × Sto => M = a.2) (r, M) := fun r => rfl
  unfold m_K_waysTaken
  refine Ok.okI (by omega) (by omega) ?_
  have f1 := rd_20 hI x1.toNatClampNeg
  have n2 : ((-1) : Int32).toInt = (-1) := rfl
  refine Ok.eq (fun c3 => ?_) (fun c3 => ?_)
  · exact s_j_K_waysTaken_25 (v1 := x1) hR hI (by omega) (by omega)
  · refine Ok.okI (by omega) (by omega) ?_
    have n4 : (2 : Int32).toInt = 2 := rfl
    refine Ok.eq (fun c5 => ?_) (fun c5 => ?_)
    · exact s_j_K_waysTaken_25 (v1 := x1) hR hI (by omega) (by omega)
    · refine Ok.okI (by omega) (by omega) ?_
      have n6 : (0 : Int32).toInt = 0 := rfl
      refine Ok.eq (fun c7 => ?_) (fun c7 => ?_)
      · exact Ok.some (hR 0)
      · refine Ok.okI (by omega) (by omega) ?_
        refine Ok.eq (fun c8 => ?_) (fun c8 => ?_)
        · refine Ok.okI (by omega) (by omega) ?_
          have f9 := rd_11 hI x1.toNatClampNeg
          exact s_j_K_waysTaken_75 (s0 := (M 11 x1.toNatClampNeg)) hR hI (by omega) (by omega)
        · refine Ok.okI (by omega) (by omega) ?_
          have f10 := rd_10 hI x1.toNatClampNeg
          exact s_j_K_waysTaken_75 (s0 := (M 10 x1.toNatClampNeg)) hR hI (by omega) (by omega)
theorem s_j_K_passEnd_45 {bn bt : Int} {G : Sto} {P : Int32 × Sto → Prop} {M : Sto} (hR : ∀ (r : Int32) (M : Sto), IX bn bt G M → 0 ≤ r.toInt → r.toInt ≤ 0 → P (r, M)) (hI : IX bn bt G M) : Ok P (j_K_passEnd_45 M) := by
  unfold j_K_passEnd_45
  have n1 : (0 : Int32).toInt = 0 := rfl
  exact Ok.some (hR 0 _ hI (by omega) (by omega))
theorem s_m_K_passEnd {bn bt : Int} {G : Sto} {x1 : Int32} {M : Sto} (hI : IX bn bt G M) (r0 : 0 ≤ x1.toInt) (r1 : x1.toInt ≤ 9) : Ok (fun a => IX bn bt G a.2 ∧ 0 ≤ a.1.toInt ∧ a.1.toInt ≤ 0) (m_K_passEnd x1 M) := by
  have hR : ∀ (r : Int32) (M : Sto), IX bn bt G M → 0 ≤ r.toInt → r.toInt ≤ 0 → (fun a : Int32 × Sto => IX bn bt G a.2 ∧ 0 ≤ a.1.toInt ∧ a.1.toInt ≤ 0) (r, M) := fun r M hI h0 h1 => ⟨hI, h0, h1⟩
  unfold m_K_passEnd
  refine Ok.okI (by omega) (by omega) ?_
  refine Ok.bind (s_m_K_waysTaken (x1 := x1) hI (by omega) (by omega)) (fun r1 M2 q3 => ?_)
  dsimp only at q3
  have q4 := q3
  have q4 : M = M2 := q4
  subst q4
  dsimp only
  refine Ok.okI (by omega) (by omega) ?_
  refine Ok.eq (fun c5 => ?_) (fun c5 => ?_)
  · exact s_j_K_passEnd_45 hR hI
  · refine Ok.okI (by omega) (by omega) ?_
    refine Ok.wr (fun M8 q6 => ?_)
    have i7 := up_24 hI (j := x1.toNatClampNeg) (v := ((M 24 x1.toNatClampNeg) ||| r1))
    rw [← q6] at i7
    refine Ok.wr (fun M11 q9 => ?_)
    have i10 := up_4_3 i7 (v := ((M8 4 3) ||| ((M 24 x1.toNatClampNeg) ||| r1)))
    rw [← q9] at i10
    have n12 : (1 : Int32).toInt = 1 := rfl
    refine Ok.bzI (by omega) (by omega) ?_
    refine Ok.wr (fun M15 q13 => ?_)
    have i14 := up_4_7 i10 (v := 1) (by omega) (by omega)
    rw [← q13] at i14
    exact s_j_K_passEnd_45 hR i14
theorem s_j_K_passBlock_78 {bn bt : Int} {G : Sto} {P : Int32 × Sto → Prop} {v1 : Int32} {M : Sto} (hR : ∀ (r : Int32) (M : Sto), IX bn bt G M → 0 ≤ r.toInt → r.toInt ≤ 0 → P (r, M)) (hI : IX bn bt G M) (r0 : 0 ≤ v1.toInt) (r1 : v1.toInt ≤ 9) : Ok P (j_K_passBlock_78 v1 M) := by
  unfold j_K_passBlock_78
  refine Ok.bind (s_m_K_passEnd (x1 := v1) hI (by omega) (by omega)) (fun r1 M2 q3 => ?_)
  dsimp only at q3
  obtain ⟨q4, q5, q6⟩ := q3
  dsimp only
  have n7 : (0 : Int32).toInt = 0 := rfl
  exact Ok.some (hR 0 _ q4 (by omega) (by omega))
theorem s_j_K_passBlock_72 {bn bt : Int} {G : Sto} {P : Int32 × Sto → Prop} {g : Int32 → Int32 → Sto → Option (Int32 × Sto)} {k : Int32 → Sto → Option (Int32 × Sto)} {n : Nat} {v1 v2 : Int32} {M : Sto} (hg : ∀ (e2 : Int32) (M : Sto), IX bn bt G M → 0 ≤ e2.toInt → e2.toInt ≤ 6 → 7 - e2.toInt ≤ (n : Int) → Ok P (g v1 e2 M)) (hk : ∀ (M : Sto), IX bn bt G M → Ok P (k v1 M)) (hI : IX bn bt G M) (r0 : 0 ≤ v1.toInt) (r1 : v1.toInt ≤ 9) (r2 : 0 ≤ v2.toInt) (r3 : v2.toInt ≤ 5) (hn : 7 - v2.toInt ≤ (n : Int) + 1) : Ok P (j_K_passBlock_72 g k v1 v2 M) := by
  unfold j_K_passBlock_72
  have n1 : (1 : Int32).toInt = 1 := rfl
  have f2 : (v2 + 1).toInt = v2.toInt + (1 : Int32).toInt := addI (by omega) (by omega)
  exact hg (v2 + 1) M hI (by omega) (by omega) (by omega)
theorem s_l_K_passBlock_38 {bn bt : Int} {G : Sto} {P : Int32 × Sto → Prop} {k : Int32 → Sto → Option (Int32 × Sto)} {v1 : Int32} (rf0 : 0 ≤ v1.toInt) (rf1 : v1.toInt ≤ 9) (hk : ∀ (M : Sto), IX bn bt G M → Ok P (k v1 M)) : ∀ (n : Nat) (v2 : Int32) (M : Sto), IX bn bt G M → 0 ≤ v2.toInt → v2.toInt ≤ 6 → 7 - v2.toInt ≤ (n : Int) → Ok P (l_K_passBlock_38 k n v1 v2 M) := by
  intro n
  induction n with
  | zero => intro v2 M hI r0 r1 hn; exfalso; omega
  | succ n ih =>
    intro v2 M hI r0 r1 hn
    unfold l_K_passBlock_38
    refine Ok.okI (by omega) (by omega) ?_
    have f1 := rd_7 hI v1.toNatClampNeg
    refine Ok.le (fun c2 => ?_) (fun c2 => ?_)
    · exact hk M hI
    · refine Ok.okI (by omega) (by omega) ?_
      refine Ok.okI (by omega) (by omega) ?_
      have f3 := rd_103 (i := v1.toNatClampNeg) hI (tn_lt (by omega) (by omega)) v2.toNatClampNeg
      have n4 : ((-1) : Int32).toInt = (-1) := rfl
      refine Ok.eq (fun c5 => ?_) (fun c5 => ?_)
      · exact s_j_K_passBlock_72 (v1 := v1) (v2 := v2) ih hk hI (by omega) (by omega) (by omega) (by omega) (by omega)
      · refine Ok.bind (s_m_K_passInstruction (x1 := v1) (x2 := v2) hI (by omega) (by omega) (by omega) (by omega) (by omega)) (fun r6 M7 q8 => ?_)
        dsimp only at q8
        obtain ⟨q9, q10, q11⟩ := q8
        dsimp only
        exact s_j_K_passBlock_72 (v1 := v1) (v2 := v2) ih hk q9 (by omega) (by omega) (by omega) (by omega) (by omega)
theorem s_j_K_passBlock_36 {bn bt : Int} {G : Sto} {P : Int32 × Sto → Prop} {v1 : Int32} {M : Sto} (hR : ∀ (r : Int32) (M : Sto), IX bn bt G M → 0 ≤ r.toInt → r.toInt ≤ 0 → P (r, M)) (hI : IX bn bt G M) (r0 : 0 ≤ v1.toInt) (r1 : v1.toInt ≤ 9) : Ok P (j_K_passBlock_36 v1 M) := by
  unfold j_K_passBlock_36
  have n1 : (0 : Int32).toInt = 0 := rfl
  have fu_ := fu_le
  refine s_l_K_passBlock_38 (v1 := v1) (by omega) (by omega) (fun M2 i3 => ?_) FU 0 M hI (by omega) (by omega) (by omega)
  exact s_j_K_passBlock_78 (v1 := v1) hR i3 (by omega) (by omega)
theorem s_j_K_passBlock_30 {bn bt : Int} {G : Sto} {P : Int32 × Sto → Prop} {g : Int32 → Int32 → Sto → Option (Int32 × Sto)} {k : Int32 → Sto → Option (Int32 × Sto)} {n : Nat} {v1 v2 : Int32} {M : Sto} (hg : ∀ (e2 : Int32) (M : Sto), IX bn bt G M → 0 ≤ e2.toInt → e2.toInt ≤ 6 → 7 - e2.toInt ≤ (n : Int) → Ok P (g v1 e2 M)) (hk : ∀ (M : Sto), IX bn bt G M → Ok P (k v1 M)) (hI : IX bn bt G M) (r0 : 0 ≤ v1.toInt) (r1 : v1.toInt ≤ 9) (r2 : 0 ≤ v2.toInt) (r3 : v2.toInt ≤ 5) (hn : 7 - v2.toInt ≤ (n : Int) + 1) : Ok P (j_K_passBlock_30 g k v1 v2 M) := by
  unfold j_K_passBlock_30
  have n1 : (1 : Int32).toInt = 1 := rfl
  have f2 : (v2 + 1).toInt = v2.toInt + (1 : Int32).toInt := addI (by omega) (by omega)
  exact hg (v2 + 1) M hI (by omega) (by omega) (by omega)
theorem s_l_K_passBlock_2 {bn bt : Int} {G : Sto} {P : Int32 × Sto → Prop} {k : Int32 → Sto → Option (Int32 × Sto)} {v1 : Int32} (rf0 : 0 ≤ v1.toInt) (rf1 : v1.toInt ≤ 9) (hk : ∀ (M : Sto), IX bn bt G M → Ok P (k v1 M)) : ∀ (n : Nat) (v2 : Int32) (M : Sto), IX bn bt G M → 0 ≤ v2.toInt → v2.toInt ≤ 6 → 7 - v2.toInt ≤ (n : Int) → Ok P (l_K_passBlock_2 k n v1 v2 M) := by
  intro n
  induction n with
  | zero => intro v2 M hI r0 r1 hn; exfalso; omega
  | succ n ih =>
    intro v2 M hI r0 r1 hn
    unfold l_K_passBlock_2
    have n1 : (6 : Int32).toInt = 6 := rfl
    refine Ok.le (fun c2 => ?_) (fun c2 => ?_)
    · exact hk M hI
    · refine Ok.okI (by omega) (by omega) ?_
      refine Ok.bind (s_m_N_holds (x0 := (M 18 v1.toNatClampNeg)) (x1 := v2) hI) (fun r3 M4 q5 => ?_)
      dsimp only at q5
      obtain ⟨q6, q7, q8⟩ := q5
      have q6 : M = M4 := q6
      subst q6
      dsimp only
      have n9 : (0 : Int32).toInt = 0 := rfl
      refine Ok.eq (fun c10 => ?_) (fun c10 => ?_)
      · exact s_j_K_passBlock_30 (v1 := v1) (v2 := v2) ih hk hI (by omega) (by omega) (by omega) (by omega) (by omega)
      · refine Ok.bind (s_m_K_passPhi (x1 := v1) (x2 := v2) hI (by omega) (by omega) (by omega) (by omega)) (fun r11 M12 q13 => ?_)
        dsimp only at q13
        obtain ⟨q14, q15, q16⟩ := q13
        dsimp only
        exact s_j_K_passBlock_30 (v1 := v1) (v2 := v2) ih hk q14 (by omega) (by omega) (by omega) (by omega) (by omega)
theorem s_m_K_passBlock {bn bt : Int} {G : Sto} {x1 : Int32} {M : Sto} (hI : IX bn bt G M) (r0 : 0 ≤ x1.toInt) (r1 : x1.toInt ≤ 9) : Ok (fun a => IX bn bt G a.2 ∧ 0 ≤ a.1.toInt ∧ a.1.toInt ≤ 0) (m_K_passBlock x1 M) := by
  have hR : ∀ (r : Int32) (M : Sto), IX bn bt G M → 0 ≤ r.toInt → r.toInt ≤ 0 → (fun a : Int32 × Sto => IX bn bt G a.2 ∧ 0 ≤ a.1.toInt ∧ a.1.toInt ≤ 0) (r, M) := fun r M hI h0 h1 => ⟨hI, h0, h1⟩
  unfold m_K_passBlock
  have n1 : (0 : Int32).toInt = 0 := rfl
  have fu_ := fu_le
  refine s_l_K_passBlock_2 (v1 := x1) (by omega) (by omega) (fun M2 i3 => ?_) FU 0 M hI (by omega) (by omega) (by omega)
  exact s_j_K_passBlock_36 (v1 := x1) hR i3 (by omega) (by omega)
theorem s_j_K_settle_136 {bn bt : Int} {G : Sto} {P : Int32 × Sto → Prop} {M : Sto} (hR : ∀ (r : Int32) (M : Sto), IX bn bt G M → 0 ≤ r.toInt → r.toInt ≤ 0 → P (r, M)) (hI : IX bn bt G M) : Ok P (j_K_settle_136 M) := by
  unfold j_K_settle_136
  have n1 : (0 : Int32).toInt = 0 := rfl
  exact Ok.some (hR 0 _ hI (by omega) (by omega))
theorem s_j_K_settle_130 {bn bt : Int} {G : Sto} {P : Int32 × Sto → Prop} {g : Int32 → Sto → Option (Int32 × Sto)} {k : Sto → Option (Int32 × Sto)} {n : Nat} {v1 : Int32} {M : Sto} (hg : ∀ (e1 : Int32) (M : Sto), IX bn bt G M → 0 ≤ e1.toInt → e1.toInt ≤ 1000 → 1001 - e1.toInt ≤ (n : Int) → Ok P (g e1 M)) (hk : ∀ (M : Sto), IX bn bt G M → Ok P (k M)) (hI : IX bn bt G M) (r0 : 0 ≤ v1.toInt) (r1 : v1.toInt ≤ 999) (hn : 1001 - v1.toInt ≤ (n : Int) + 1) : Ok P (j_K_settle_130 g k v1 M) := by
  unfold j_K_settle_130
  have n1 : (1 : Int32).toInt = 1 := rfl
  have f2 : (v1 + 1).toInt = v1.toInt + (1 : Int32).toInt := addI (by omega) (by omega)
  exact hg (v1 + 1) M hI (by omega) (by omega) (by omega)
theorem s_j_K_settle_124 {bn bt : Int} {G : Sto} {P : Int32 × Sto → Prop} {g : Int32 → Int32 → Sto → Option (Int32 × Sto)} {k : Int32 → Sto → Option (Int32 × Sto)} {n : Nat} {v1 v2 : Int32} {M : Sto} (hg : ∀ (e2 : Int32) (M : Sto), IX bn bt G M → 0 ≤ e2.toInt → e2.toInt ≤ 10 → 11 - e2.toInt ≤ (n : Int) → Ok P (g v1 e2 M)) (hk : ∀ (M : Sto), IX bn bt G M → Ok P (k v1 M)) (hI : IX bn bt G M) (r0 : 0 ≤ v1.toInt) (r1 : v1.toInt ≤ 999) (r2 : 0 ≤ v2.toInt) (r3 : v2.toInt ≤ 9) (hn : 11 - v2.toInt ≤ (n : Int) + 1) : Ok P (j_K_settle_124 g k v1 v2 M) := by
  unfold j_K_settle_124
  have n1 : (1 : Int32).toInt = 1 := rfl
  have f2 : (v2 + 1).toInt = v2.toInt + (1 : Int32).toInt := addI (by omega) (by omega)
  exact hg (v2 + 1) M hI (by omega) (by omega) (by omega)
theorem s_l_K_settle_81 {bn bt : Int} {G : Sto} {P : Int32 × Sto → Prop} {k : Int32 → Sto → Option (Int32 × Sto)} {v1 : Int32} (rf0 : 0 ≤ v1.toInt) (rf1 : v1.toInt ≤ 999) (hk : ∀ (M : Sto), IX bn bt G M → Ok P (k v1 M)) : ∀ (n : Nat) (v2 : Int32) (M : Sto), IX bn bt G M → 0 ≤ v2.toInt → v2.toInt ≤ 10 → 11 - v2.toInt ≤ (n : Int) → Ok P (l_K_settle_81 k n v1 v2 M) := by
  intro n
  induction n with
  | zero => intro v2 M hI r0 r1 hn; exfalso; omega
  | succ n ih =>
    intro v2 M hI r0 r1 hn
    unfold l_K_settle_81
    have f1 := rd_2_7 hI
    refine Ok.le (fun c2 => ?_) (fun c2 => ?_)
    · exact hk M hI
    · refine Ok.okI (by omega) (by omega) ?_
      have f3 := rd_16 hI v2.toNatClampNeg
      refine Ok.bind (s_m_N_holds (x0 := (M 4 3)) (x1 := (M 16 v2.toNatClampNeg)) hI) (fun r4 M5 q6 => ?_)
      dsimp only at q6
      obtain ⟨q7, q8, q9⟩ := q6
      have q7 : M = M5 := q7
      subst q7
      dsimp only
      have n10 : (0 : Int32).toInt = 0 := rfl
      refine Ok.eq (fun c11 => ?_) (fun c11 => ?_)
      · exact s_j_K_settle_124 (v1 := v1) (v2 := v2) ih hk hI (by omega) (by omega) (by omega) (by omega) (by omega)
      · refine Ok.okI (by omega) (by omega) ?_
        refine Ok.bind (s_m_K_passBlock (x1 := (M 16 v2.toNatClampNeg)) hI (by omega) (by omega)) (fun r12 M13 q14 => ?_)
        dsimp only at q14
        obtain ⟨q15, q16, q17⟩ := q14
        dsimp only
        exact s_j_K_settle_124 (v1 := v1) (v2 := v2) ih hk q15 (by omega) (by omega) (by omega) (by omega) (by omega)
theorem s_l_K_settle_60 {bn bt : Int} {G : Sto} {P : Int32 × Sto → Prop} {k : Sto → Option (Int32 × Sto)} (hk : ∀ (M : Sto), IX bn bt G M → Ok P (k M)) : ∀ (n : Nat) (v1 : Int32) (M : Sto), IX bn bt G M → 0 ≤ v1.toInt → v1.toInt ≤ 1000 → 1001 - v1.toInt ≤ (n : Int) → Ok P (l_K_settle_60 k n v1 M) := by
  intro n
  induction n with
  | zero => intro v1 M hI r0 r1 hn; exfalso; omega
  | succ n ih =>
    intro v1 M hI r0 r1 hn
    unfold l_K_settle_60
    have f1 := rd_4_7 hI
    have n2 : (0 : Int32).toInt = 0 := rfl
    refine Ok.eq (fun c3 => ?_) (fun c3 => ?_)
    · exact hk M hI
    · have n4 : (1000 : Int32).toInt = 1000 := rfl
      refine Ok.le (fun c5 => ?_) (fun c5 => ?_)
      · exact hk M hI
      · refine Ok.bzI (by omega) (by omega) ?_
        refine Ok.wr (fun M8 q6 => ?_)
        have i7 := up_4_7 hI (v := 0) (by omega) (by omega)
        rw [← q6] at i7
        have fu_ := fu_le
        refine s_l_K_settle_81 (v1 := v1) (by omega) (by omega) (fun M9 i10 => ?_) FU 0 M8 i7 (by omega) (by omega) (by omega)
        exact s_j_K_settle_130 (v1 := v1) ih hk i10 (by omega) (by omega) (by omega)
theorem s_j_K_settle_45 {bn bt : Int} {G : Sto} {P : Int32 × Sto → Prop} {M : Sto} (hR : ∀ (r : Int32) (M : Sto), IX bn bt G M → 0 ≤ r.toInt → r.toInt ≤ 0 → P (r, M)) (hI : IX bn bt G M) : Ok P (j_K_settle_45 M) := by
  unfold j_K_settle_45
  have n1 : (0 : Int32).toInt = 0 := rfl
  refine Ok.bind (s_m_N_bit (x0 := 0) hI) (fun r2 M3 q4 => ?_)
  dsimp only at q4
  have q5 := q4
  have q5 : M = M3 := q5
  subst q5
  dsimp only
  refine Ok.wr (fun M8 q6 => ?_)
  have i7 := up_4_3 hI (v := r2)
  rw [← q6] at i7
  have n9 : (1 : Int32).toInt = 1 := rfl
  refine Ok.bzI (by omega) (by omega) ?_
  refine Ok.wr (fun M12 q10 => ?_)
  have i11 := up_4_7 i7 (v := 1) (by omega) (by omega)
  rw [← q10] at i11
  have fu_ := fu_le
  refine s_l_K_settle_60 (fun M13 i14 => ?_) FU 0 M12 i11 (by omega) (by omega) (by omega)
  exact s_j_K_settle_136 hR i14
theorem s_l_K_settle_26 {bn bt : Int} {G : Sto} {P : Int32 × Sto → Prop} {k : Sto → Option (Int32 × Sto)} (hk : ∀ (M : Sto), IX bn bt G M → Ok P (k M)) : ∀ (n : Nat) (v1 : Int32) (M : Sto), IX bn bt G M → 0 ≤ v1.toInt → v1.toInt ≤ 6 → 7 - v1.toInt ≤ (n : Int) → Ok P (l_K_settle_26 k n v1 M) := by
  intro n
  induction n with
  | zero => intro v1 M hI r0 r1 hn; exfalso; omega
  | succ n ih =>
    intro v1 M hI r0 r1 hn
    unfold l_K_settle_26
    have n1 : (6 : Int32).toInt = 6 := rfl
    refine Ok.le (fun c2 => ?_) (fun c2 => ?_)
    · exact hk M hI
    · refine Ok.okI (by omega) (by omega) ?_
      have n6 : (1 : Int32).toInt = 1 := rfl
      refine Ok.wr (fun M5 q3 => ?_)
      have i4 := up_25 hI (j := v1.toNatClampNeg) (v := 1)
      rw [← q3] at i4
      have f7 : (v1 + 1).toInt = v1.toInt + (1 : Int32).toInt := addI (by omega) (by omega)
      exact ih (v1 + 1) M5 i4 (by omega) (by omega) (by omega)
theorem s_m_K_settle {bn bt : Int} {G : Sto} {M : Sto} (hI : IX bn bt G M) : Ok (fun a => IX bn bt G a.2 ∧ 0 ≤ a.1.toInt ∧ a.1.toInt ≤ 0) (m_K_settle M) := by
  have hR : ∀ (r : Int32) (M : Sto), IX bn bt G M → 0 ≤ r.toInt → r.toInt ≤ 0 → (fun a : Int32 × Sto => IX bn bt G a.2 ∧ 0 ≤ a.1.toInt ∧ a.1.toInt ≤ 0) (r, M) := fun r M hI h0 h1 => ⟨hI, h0, h1⟩
  unfold m_K_settle
  have n4 : (0 : Int32).toInt = 0 := rfl
  refine Ok.wr (fun M3 q1 => ?_)
  have i2 := fl_24 hI (n := 10) (v := 0)
  rw [← q1] at i2
  refine Ok.wr (fun M7 q5 => ?_)
  have i6 := fl_25 i2 (n := 126) (v := 0)
  rw [← q5] at i6
  refine Ok.wr (fun M10 q8 => ?_)
  have i9 := fl_26 i6 (n := 126) (v := 0)
  rw [← q8] at i9
  have fu_ := fu_le
  refine s_l_K_settle_26 (fun M11 i12 => ?_) FU 0 M10 i9 (by omega) (by omega) (by omega)
  exact s_j_K_settle_45 hR i12
end
section
def IY (bn bt : Int) (G M : Sto) : Prop := RgX bn bt M ∧ (∀ k j : Nat, pcl k j = true → M k j = G k j) ∧ KP G
theorem IY.up {bn bt : Int} {G M : Sto} {v : Int32} (h : IY bn bt G M) {k j : Nat} (hp : pcl k j = false) (h1 : loX k j ≤ v.toInt) (h2 : v.toInt ≤ hiX bn bt k j) : IY bn bt G (up2 M k j v) := by
  refine ⟨h.1.up h1 h2, fun a b hab => ?_, h.2.2⟩
  rw [up2_at, if_neg (fun q => by rw [q.1, q.2, hp] at hab; exact Bool.noConfusion hab)]; exact h.2.1 a b hab
theorem IX.toY {bn bt : Int} {G M : Sto} (h : IX bn bt G M) : IY bn bt G M := ⟨h.1, h.2.1, h.2.2.1⟩
theorem IY.toX {bn bt : Int} {G M : Sto} (h : IY bn bt G M) (hc : CN M) : IX bn bt G M := ⟨h.1, h.2.1, h.2.2, hc⟩
theorem s_m_D_need {bn bt : Int} {G : Sto} {x1 : Int32} {M : Sto} (hI : IX bn bt G M) (r0 : (-1) ≤ x1.toInt) (r1 : x1.toInt ≤ 125) : Ok (fun a => IX bn bt G a.2 ∧ 0 ≤ a.1.toInt ∧ a.1.toInt ≤ 0) (m_D_need x1 M) := by
  have n0 : (0 : Int32).toInt = 0 := rfl
  have n1 : (1 : Int32).toInt = 1 := rfl
  have n2 : (-1 : Int32).toInt = -1 := rfl
  have z0 : (0 : Int) ≤ 0 := Int.le_refl 0
  unfold m_D_need
  refine Ok.eq (fun c => ?_) (fun c => ?_)
  · exact Ok.some ⟨hI, z0, z0⟩
  refine Ok.okI (by omega) (by omega) ?_
  refine Ok.eq (fun hz => ?_) (fun _ => Ok.some ⟨hI, z0, z0⟩)
  refine Ok.okI (by omega) (by omega) ?_
  refine Ok.bzI (by omega) (by omega) ?_
  have hN : x1.toNatClampNeg < 126 := tn_lt (by omega) (by omega)
  have hz2 : M 27 x1.toNatClampNeg = 0 := Int32.toInt_inj.mp hz
  have hc : (M 5 5).toInt = cnt (M 27) 126 := hI.2.2.2
  have hl := cnt_lt (M 27) hz2 126 hN
  have hg := cnt_ge (M 27) 126
  refine Ok.wr (fun M1 e1 => ?_)
  have i1 : IY bn bt G M1 := by rw [e1]; exact hI.toY.up rfl (show (0 : Int) ≤ 1 by decide) (show (1 : Int) ≤ 1 by decide)
  have a1 : M1 5 5 = M 5 5 := by rw [e1, up2_ne _ _ _ (by decide)]
  have b1 : M1 27 = upd (M 27) x1.toNatClampNeg 1 := by rw [e1, up2_self]
  rw [← a1] at hc
  refine Ok.okI (by omega) (by omega) ?_
  refine Ok.wr (fun M2 e2 => ?_)
  have i2 : IY bn bt G M2 := by rw [e2]; exact i1.up rfl (show (0 : Int) ≤ _ by omega) (show _ ≤ (125 : Int) by omega)
  have a2 : M2 5 5 = M1 5 5 := by rw [e2, up2_ne _ _ _ (by decide)]
  have b2 : M2 27 = M1 27 := by rw [e2, up2_ne _ _ _ (by decide)]
  rw [← a2] at hc
  have ha : (M2 5 5 + 1).toInt = (M2 5 5).toInt + (1 : Int32).toInt := addI (by omega) (by omega)
  refine Ok.wr (fun M3 e3 => ?_)
  have i3 : IY bn bt G M3 := by rw [e3]; exact i2.up rfl (show (0 : Int) ≤ _ by omega) (show _ ≤ (126 : Int) by omega)
  refine Ok.some ⟨i3.toX ?_, z0, z0⟩
  show (M3 5 5).toInt = cnt (M3 27) 126
  have b3 : M3 27 = M2 27 := by rw [e3, up2_ne _ _ _ (by decide)]
  rw [b3, b2, b1, e3, cnt_upd _ hz2 126 hN, up2_at, if_pos ⟨rfl, rfl⟩, ha]
  omega
end
section
theorem s_j_D_needByBlock_111 {bn bt : Int} {G : Sto} {P : Int32 × Sto → Prop} {M : Sto} (hR : ∀ (r : Int32) (M : Sto), IX bn bt G M → 0 ≤ r.toInt → r.toInt ≤ 0 → P (r, M)) (hI : IX bn bt G M) : Ok P (j_D_needByBlock_111 M) := by
  unfold j_D_needByBlock_111
  have n1 : (0 : Int32).toInt = 0 := rfl
  exact Ok.some (hR 0 _ hI (by omega) (by omega))
theorem s_j_D_needByBlock_78 {bn bt : Int} {G : Sto} {P : Int32 × Sto → Prop} {v1 : Int32} {M : Sto} (hR : ∀ (r : Int32) (M : Sto), IX bn bt G M → 0 ≤ r.toInt → r.toInt ≤ 0 → P (r, M)) (hI : IX bn bt G M) (r0 : 0 ≤ v1.toInt) (r1 : v1.toInt ≤ 9) : Ok P (j_D_needByBlock_78 v1 M) := by
  unfold j_D_needByBlock_78
  refine Ok.okI (by omega) (by omega) ?_
  have f1 := rd_20 hI v1.toNatClampNeg
  have n2 : ((-1) : Int32).toInt = (-1) := rfl
  refine Ok.eq (fun c3 => ?_) (fun c3 => ?_)
  · exact s_j_D_needByBlock_111 hR hI
  · refine Ok.okI (by omega) (by omega) ?_
    have n4 : (2 : Int32).toInt = 2 := rfl
    refine Ok.eq (fun c5 => ?_) (fun c5 => ?_)
    · refine Ok.bind (s_m_D_need (x1 := (M 20 v1.toNatClampNeg)) hI (by omega) (by omega)) (fun r6 M7 q8 => ?_)
      dsimp only at q8
      obtain ⟨q9, q10, q11⟩ := q8
      dsimp only
      exact s_j_D_needByBlock_111 hR q9
    · exact s_j_D_needByBlock_111 hR hI
theorem s_j_D_needByBlock_72 {bn bt : Int} {G : Sto} {P : Int32 × Sto → Prop} {g : Int32 → Int32 → Sto → Option (Int32 × Sto)} {k : Int32 → Sto → Option (Int32 × Sto)} {n : Nat} {v1 v2 : Int32} {M : Sto} (hg : ∀ (e2 : Int32) (M : Sto), IX bn bt G M → 0 ≤ e2.toInt → e2.toInt ≤ 6 → 7 - e2.toInt ≤ (n : Int) → Ok P (g v1 e2 M)) (hk : ∀ (M : Sto), IX bn bt G M → Ok P (k v1 M)) (hI : IX bn bt G M) (r0 : 0 ≤ v1.toInt) (r1 : v1.toInt ≤ 9) (r2 : 0 ≤ v2.toInt) (r3 : v2.toInt ≤ 5) (hn : 7 - v2.toInt ≤ (n : Int) + 1) : Ok P (j_D_needByBlock_72 g k v1 v2 M) := by
  unfold j_D_needByBlock_72
  have n1 : (1 : Int32).toInt = 1 := rfl
  have f2 : (v2 + 1).toInt = v2.toInt + (1 : Int32).toInt := addI (by omega) (by omega)
  exact hg (v2 + 1) M hI (by omega) (by omega) (by omega)
theorem s_l_D_needByBlock_2 {bn bt : Int} {G : Sto} {P : Int32 × Sto → Prop} {k : Int32 → Sto → Option (Int32 × Sto)} {v1 : Int32} (rf0 : 0 ≤ v1.toInt) (rf1 : v1.toInt ≤ 9) (hk : ∀ (M : Sto), IX bn bt G M → Ok P (k v1 M)) : ∀ (n : Nat) (v2 : Int32) (M : Sto), IX bn bt G M → 0 ≤ v2.toInt → v2.toInt ≤ 6 → 7 - v2.toInt ≤ (n : Int) → Ok P (l_D_needByBlock_2 k n v1 v2 M) := by
  intro n
  induction n with
  | zero => intro v2 M hI r0 r1 hn; exfalso; omega
  | succ n ih =>
    intro v2 M hI r0 r1 hn
    unfold l_D_needByBlock_2
    refine Ok.okI (by omega) (by omega) ?_
    have f1 := rd_7 hI v1.toNatClampNeg
    refine Ok.le (fun c2 => ?_) (fun c2 => ?_)
    · exact hk M hI
    · refine Ok.okI (by omega) (by omega) ?_
      refine Ok.okI (by omega) (by omega) ?_
      have f3 := congrArg Int32.toInt (rd_kind (i := v1.toNatClampNeg) hI (tn_lt (by omega) (by omega)) v2.toNatClampNeg)
      have n4 : (7 : Int32).toInt = 7 := rfl
      refine Ok.eq (fun c5 => ?_) (fun c5 => ?_)
      · refine Ok.okI (by omega) (by omega) ?_
        refine Ok.okI (by omega) (by omega) ?_
        have f6 := rd_113 (i := v1.toNatClampNeg) hI (tn_lt (by omega) (by omega)) v2.toNatClampNeg
        refine Ok.bind (s_m_D_need (x1 := (M (113 + v1.toNatClampNeg) v2.toNatClampNeg)) hI (by omega) (by omega)) (fun r7 M8 q9 => ?_)
        dsimp only at q9
        obtain ⟨q10, q11, q12⟩ := q9
        dsimp only
        exact s_j_D_needByBlock_72 (v1 := v1) (v2 := v2) ih hk q10 (by omega) (by omega) (by omega) (by omega) (by omega)
      · have n13 : (6 : Int32).toInt = 6 := rfl
        refine Ok.eq (fun c14 => ?_) (fun c14 => ?_)
        · refine Ok.okI (by omega) (by omega) ?_
          refine Ok.okI (by omega) (by omega) ?_
          have f15 := rd_103 (i := v1.toNatClampNeg) hI (tn_lt (by omega) (by omega)) v2.toNatClampNeg
          refine Ok.bind (s_m_D_need (x1 := (M (103 + v1.toNatClampNeg) v2.toNatClampNeg)) hI (by omega) (by omega)) (fun r16 M17 q18 => ?_)
          dsimp only at q18
          obtain ⟨q19, q20, q21⟩ := q18
          dsimp only
          exact s_j_D_needByBlock_72 (v1 := v1) (v2 := v2) ih hk q19 (by omega) (by omega) (by omega) (by omega) (by omega)
        · exact s_j_D_needByBlock_72 (v1 := v1) (v2 := v2) ih hk hI (by omega) (by omega) (by omega) (by omega) (by omega)
theorem s_m_D_needByBlock {bn bt : Int} {G : Sto} {x1 : Int32} {M : Sto} (hI : IX bn bt G M) (r0 : 0 ≤ x1.toInt) (r1 : x1.toInt ≤ 9) : Ok (fun a => IX bn bt G a.2 ∧ 0 ≤ a.1.toInt ∧ a.1.toInt ≤ 0) (m_D_needByBlock x1 M) := by
  have hR : ∀ (r : Int32) (M : Sto), IX bn bt G M → 0 ≤ r.toInt → r.toInt ≤ 0 → (fun a : Int32 × Sto => IX bn bt G a.2 ∧ 0 ≤ a.1.toInt ∧ a.1.toInt ≤ 0) (r, M) := fun r M hI h0 h1 => ⟨hI, h0, h1⟩
  unfold m_D_needByBlock
  have n1 : (0 : Int32).toInt = 0 := rfl
  have fu_ := fu_le
  refine s_l_D_needByBlock_2 (v1 := x1) (by omega) (by omega) (fun M2 i3 => ?_) FU 0 M hI (by omega) (by omega) (by omega)
  exact s_j_D_needByBlock_78 (v1 := x1) hR i3 (by omega) (by omega)
theorem s_j_D_needPartsOfPhi_46 {bn bt : Int} {G : Sto} {P : Int32 × Sto → Prop} {M : Sto} (hR : ∀ (r : Int32) (M : Sto), IX bn bt G M → 0 ≤ r.toInt → r.toInt ≤ 0 → P (r, M)) (hI : IX bn bt G M) : Ok P (j_D_needPartsOfPhi_46 M) := by
  unfold j_D_needPartsOfPhi_46
  have n1 : (0 : Int32).toInt = 0 := rfl
  exact Ok.some (hR 0 _ hI (by omega) (by omega))
theorem s_j_D_needPartsOfPhi_40 {bn bt : Int} {G : Sto} {P : Int32 × Sto → Prop} {g : Int32 → Int32 → Int32 → Sto → Option (Int32 × Sto)} {k : Sto → Option (Int32 × Sto)} {n : Nat} {v1 v2 v3 : Int32} {M : Sto} (hg : ∀ (e3 : Int32) (M : Sto), IX bn bt G M → 0 ≤ e3.toInt → e3.toInt ≤ 10 → 11 - e3.toInt ≤ (n : Int) → Ok P (g v1 v2 e3 M)) (hk : ∀ (M : Sto), IX bn bt G M → Ok P (k M)) (hI : IX bn bt G M) (r0 : 0 ≤ v1.toInt) (r1 : v1.toInt ≤ 9) (r2 : 0 ≤ v2.toInt) (r3 : v2.toInt ≤ 5) (r4 : 0 ≤ v3.toInt) (r5 : v3.toInt ≤ 9) (hn : 11 - v3.toInt ≤ (n : Int) + 1) : Ok P (j_D_needPartsOfPhi_40 g k v1 v2 v3 M) := by
  unfold j_D_needPartsOfPhi_40
  have n1 : (1 : Int32).toInt = 1 := rfl
  have f2 : (v3 + 1).toInt = v3.toInt + (1 : Int32).toInt := addI (by omega) (by omega)
  exact hg (v3 + 1) M hI (by omega) (by omega) (by omega)
theorem s_l_D_needPartsOfPhi_2 {bn bt : Int} {G : Sto} {P : Int32 × Sto → Prop} {k : Sto → Option (Int32 × Sto)} {v1 v2 : Int32} (rf0 : 0 ≤ v1.toInt) (rf1 : v1.toInt ≤ 9) (rf2 : 0 ≤ v2.toInt) (rf3 : v2.toInt ≤ 5) (hk : ∀ (M : Sto), IX bn bt G M → Ok P (k M)) : ∀ (n : Nat) (v3 : Int32) (M : Sto), IX bn bt G M → 0 ≤ v3.toInt → v3.toInt ≤ 10 → 11 - v3.toInt ≤ (n : Int) → Ok P (l_D_needPartsOfPhi_2 k n v1 v2 v3 M) := by
  intro n
  induction n with
  | zero => intro v3 M hI r0 r1 hn; exfalso; omega
  | succ n ih =>
    intro v3 M hI r0 r1 hn
    unfold l_D_needPartsOfPhi_2
    have f1 := rd_1_0 hI
    refine Ok.le (fun c2 => ?_) (fun c2 => ?_)
    · exact hk M hI
    · refine Ok.bind (s_m_K_isWayTaken (x1 := v3) (x2 := v1) hI (by omega) (by omega)) (fun r3 M4 q5 => ?_)
      dsimp only at q5
      obtain ⟨q6, q7, q8⟩ := q5
      have q6 : M = M4 := q6
      subst q6
      dsimp only
      have n9 : (0 : Int32).toInt = 0 := rfl
      refine Ok.eq (fun c10 => ?_) (fun c10 => ?_)
      · exact s_j_D_needPartsOfPhi_40 (v1 := v1) (v2 := v2) (v3 := v3) ih hk hI (by omega) (by omega) (by omega) (by omega) (by omega) (by omega) (by omega)
      · refine Ok.okI (by omega) (by omega) ?_
        refine Ok.okI (by omega) (by omega) ?_
        have f11 := rd_93 (i := v3.toNatClampNeg) hI (tn_lt (by omega) (by omega)) v2.toNatClampNeg
        refine Ok.bind (s_m_D_need (x1 := (M (93 + v3.toNatClampNeg) v2.toNatClampNeg)) hI (by omega) (by omega)) (fun r12 M13 q14 => ?_)
        dsimp only at q14
        obtain ⟨q15, q16, q17⟩ := q14
        dsimp only
        exact s_j_D_needPartsOfPhi_40 (v1 := v1) (v2 := v2) (v3 := v3) ih hk q15 (by omega) (by omega) (by omega) (by omega) (by omega) (by omega) (by omega)
theorem s_m_D_needPartsOfPhi {bn bt : Int} {G : Sto} {x1 x2 : Int32} {M : Sto} (hI : IX bn bt G M) (r0 : 0 ≤ x1.toInt) (r1 : x1.toInt ≤ 9) (r2 : 0 ≤ x2.toInt) (r3 : x2.toInt ≤ 5) : Ok (fun a => IX bn bt G a.2 ∧ 0 ≤ a.1.toInt ∧ a.1.toInt ≤ 0) (m_D_needPartsOfPhi x1 x2 M) := by
  have hR : ∀ (r : Int32) (M : Sto), IX bn bt G M → 0 ≤ r.toInt → r.toInt ≤ 0 → (fun a : Int32 × Sto => IX bn bt G a.2 ∧ 0 ≤ a.1.toInt ∧ a.1.toInt ≤ 0) (r, M) := fun r M hI h0 h1 => ⟨hI, h0, h1⟩
  unfold m_D_needPartsOfPhi
  have n1 : (0 : Int32).toInt = 0 := rfl
  have fu_ := fu_le
  refine s_l_D_needPartsOfPhi_2 (v1 := x1) (v2 := x2) (by omega) (by omega) (by omega) (by omega) (fun M2 i3 => ?_) FU 0 M hI (by omega) (by omega) (by omega)
  exact s_j_D_needPartsOfPhi_46 hR i3
theorem s_j_D_needPartsOf_78 {bn bt : Int} {G : Sto} {P : Int32 × Sto → Prop} {M : Sto} (hR : ∀ (r : Int32) (M : Sto), IX bn bt G M → 0 ≤ r.toInt → r.toInt ≤ 0 → P (r, M)) (hI : IX bn bt G M) : Ok P (j_D_needPartsOf_78 M) := by
  unfold j_D_needPartsOf_78
  have n1 : (0 : Int32).toInt = 0 := rfl
  exact Ok.some (hR 0 _ hI (by omega) (by omega))
theorem s_m_D_needPartsOf {bn bt : Int} {G : Sto} {x1 : Int32} {M : Sto} (hI : IX bn bt G M) (r0 : 0 ≤ x1.toInt) (r1 : x1.toInt ≤ 125) : Ok (fun a => IX bn bt G a.2 ∧ 0 ≤ a.1.toInt ∧ a.1.toInt ≤ 0) (m_D_needPartsOf x1 M) := by
  have hR : ∀ (r : Int32) (M : Sto), IX bn bt G M → 0 ≤ r.toInt → r.toInt ≤ 0 → (fun a : Int32 × Sto => IX bn bt G a.2 ∧ 0 ≤ a.1.toInt ∧ a.1.toInt ≤ 0) (r, M) := fun r M hI h0 h1 => ⟨hI, h0, h1⟩
  unfold m_D_needPartsOf
  refine Ok.okI (by omega) (by omega) ?_
  refine Ok.okI (by omega) (by omega) ?_
  have f1 := rd_21 hI x1.toNatClampNeg
  have n2 : ((-1) : Int32).toInt = (-1) := rfl
  refine Ok.eq (fun c3 => ?_) (fun c3 => ?_)
  · have n4 : (0 : Int32).toInt = 0 := rfl
    exact Ok.some (hR 0 _ hI (by omega) (by omega))
  · have f5 := rd_22 hI x1.toNatClampNeg
    refine Ok.eq (fun c6 => ?_) (fun c6 => ?_)
    · refine Ok.okI (by omega) (by omega) ?_
      have f7 := rd_23 hI x1.toNatClampNeg
      refine Ok.bind (s_m_D_needPartsOfPhi (x1 := (M 21 x1.toNatClampNeg)) (x2 := (M 23 x1.toNatClampNeg)) hI (by omega) (by omega) (by omega) (by omega)) (fun r8 M9 q10 => ?_)
      dsimp only at q10
      obtain ⟨q11, q12, q13⟩ := q10
      dsimp only
      exact s_j_D_needPartsOf_78 hR q11
    · refine Ok.okI (by omega) (by omega) ?_
      refine Ok.okI (by omega) (by omega) ?_
      have f14 := rd_113 (i := (M 21 x1.toNatClampNeg).toNatClampNeg) hI (tn_lt (by omega) (by omega)) ((M 22 x1.toNatClampNeg).toNatClampNeg)
      refine Ok.bind (s_m_D_need (x1 := (M (113 + ((M 21 x1.toNatClampNeg).toNatClampNeg)) ((M 22 x1.toNatClampNeg).toNatClampNeg))) hI (by omega) (by omega)) (fun r15 M16 q17 => ?_)
      dsimp only at q17
      obtain ⟨q18, q19, q20⟩ := q17
      dsimp only
      refine Ok.okI (by omega) (by omega) ?_
      refine Ok.okI (by omega) (by omega) ?_
      have f21 := rd_123 (i := (M 21 x1.toNatClampNeg).toNatClampNeg) q18 (tn_lt (by omega) (by omega)) ((M 22 x1.toNatClampNeg).toNatClampNeg)
      refine Ok.bind (s_m_D_need (x1 := (M16 (123 + ((M 21 x1.toNatClampNeg).toNatClampNeg)) ((M 22 x1.toNatClampNeg).toNatClampNeg))) q18 (by omega) (by omega)) (fun r22 M23 q24 => ?_)
      dsimp only at q24
      obtain ⟨q25, q26, q27⟩ := q24
      dsimp only
      exact s_j_D_needPartsOf_78 hR q25
theorem s_j_D_collect_114 {bn bt : Int} {G : Sto} {P : Int32 × Sto → Prop} {M : Sto} (hR : ∀ (r : Int32) (M : Sto), IX bn bt G M → 0 ≤ r.toInt → r.toInt ≤ 0 → P (r, M)) (hI : IX bn bt G M) : Ok P (j_D_collect_114 M) := by
  unfold j_D_collect_114
  have n1 : (0 : Int32).toInt = 0 := rfl
  exact Ok.some (hR 0 _ hI (by omega) (by omega))
theorem s_j_D_collect_108 {bn bt : Int} {G : Sto} {P : Int32 × Sto → Prop} {g : Int32 → Sto → Option (Int32 × Sto)} {k : Sto → Option (Int32 × Sto)} {n : Nat} {v1 : Int32} {M : Sto} (hg : ∀ (e1 : Int32) (M : Sto), IX bn bt G M → 0 ≤ e1.toInt → e1.toInt ≤ 126 → 127 - e1.toInt ≤ (n : Int) → Ok P (g e1 M)) (hk : ∀ (M : Sto), IX bn bt G M → Ok P (k M)) (hI : IX bn bt G M) (r0 : 0 ≤ v1.toInt) (r1 : v1.toInt ≤ 125) (hn : 127 - v1.toInt ≤ (n : Int) + 1) : Ok P (j_D_collect_108 g k v1 M) := by
  unfold j_D_collect_108
  have n1 : (1 : Int32).toInt = 1 := rfl
  have f2 : (v1 + 1).toInt = v1.toInt + (1 : Int32).toInt := addI (by omega) (by omega)
  exact hg (v1 + 1) M hI (by omega) (by omega) (by omega)
theorem s_l_D_collect_66 {bn bt : Int} {G : Sto} {P : Int32 × Sto → Prop} {k : Sto → Option (Int32 × Sto)} (hk : ∀ (M : Sto), IX bn bt G M → Ok P (k M)) : ∀ (n : Nat) (v1 : Int32) (M : Sto), IX bn bt G M → 0 ≤ v1.toInt → v1.toInt ≤ 126 → 127 - v1.toInt ≤ (n : Int) → Ok P (l_D_collect_66 k n v1 M) := by
  intro n
  induction n with
  | zero => intro v1 M hI r0 r1 hn; exfalso; omega
  | succ n ih =>
    intro v1 M hI r0 r1 hn
    unfold l_D_collect_66
    have f1 := rd_5_5 hI
    refine Ok.le (fun c2 => ?_) (fun c2 => ?_)
    · exact hk M hI
    · have n3 : (126 : Int32).toInt = 126 := rfl
      refine Ok.le (fun c4 => ?_) (fun c4 => ?_)
      · exfalso; omega
      · refine Ok.okI (by omega) (by omega) ?_
        have f5 := rd_28 hI v1.toNatClampNeg
        refine Ok.okI (by omega) (by omega) ?_
        have n6 : (1 : Int32).toInt = 1 := rfl
        refine Ok.eq (fun c7 => ?_) (fun c7 => ?_)
        · exact s_j_D_collect_108 (v1 := v1) ih hk hI (by omega) (by omega) (by omega)
        · refine Ok.okI (by omega) (by omega) ?_
          refine Ok.bind (s_m_D_needPartsOf (x1 := (M 28 v1.toNatClampNeg)) hI (by omega) (by omega)) (fun r8 M9 q10 => ?_)
          dsimp only at q10
          obtain ⟨q11, q12, q13⟩ := q10
          dsimp only
          exact s_j_D_collect_108 (v1 := v1) ih hk q11 (by omega) (by omega) (by omega)
theorem s_j_D_collect_64 {bn bt : Int} {G : Sto} {P : Int32 × Sto → Prop} {M : Sto} (hR : ∀ (r : Int32) (M : Sto), IX bn bt G M → 0 ≤ r.toInt → r.toInt ≤ 0 → P (r, M)) (hI : IX bn bt G M) : Ok P (j_D_collect_64 M) := by
  unfold j_D_collect_64
  have n1 : (0 : Int32).toInt = 0 := rfl
  have fu_ := fu_le
  refine s_l_D_collect_66 (fun M2 i3 => ?_) FU 0 M hI (by omega) (by omega) (by omega)
  exact s_j_D_collect_114 hR i3
theorem s_j_D_collect_58 {bn bt : Int} {G : Sto} {P : Int32 × Sto → Prop} {g : Int32 → Sto → Option (Int32 × Sto)} {k : Sto → Option (Int32 × Sto)} {n : Nat} {v1 : Int32} {M : Sto} (hg : ∀ (e1 : Int32) (M : Sto), IX bn bt G M → 0 ≤ e1.toInt → e1.toInt ≤ 10 → 11 - e1.toInt ≤ (n : Int) → Ok P (g e1 M)) (hk : ∀ (M : Sto), IX bn bt G M → Ok P (k M)) (hI : IX bn bt G M) (r0 : 0 ≤ v1.toInt) (r1 : v1.toInt ≤ 9) (hn : 11 - v1.toInt ≤ (n : Int) + 1) : Ok P (j_D_collect_58 g k v1 M) := by
  unfold j_D_collect_58
  have n1 : (1 : Int32).toInt = 1 := rfl
  have f2 : (v1 + 1).toInt = v1.toInt + (1 : Int32).toInt := addI (by omega) (by omega)
  exact hg (v1 + 1) M hI (by omega) (by omega) (by omega)
theorem s_l_D_collect_28 {bn bt : Int} {G : Sto} {P : Int32 × Sto → Prop} {k : Sto → Option (Int32 × Sto)} (hk : ∀ (M : Sto), IX bn bt G M → Ok P (k M)) : ∀ (n : Nat) (v1 : Int32) (M : Sto), IX bn bt G M → 0 ≤ v1.toInt → v1.toInt ≤ 10 → 11 - v1.toInt ≤ (n : Int) → Ok P (l_D_collect_28 k n v1 M) := by
  intro n
  induction n with
  | zero => intro v1 M hI r0 r1 hn; exfalso; omega
  | succ n ih =>
    intro v1 M hI r0 r1 hn
    unfold l_D_collect_28
    have f1 := rd_1_0 hI
    refine Ok.le (fun c2 => ?_) (fun c2 => ?_)
    · exact hk M hI
    · refine Ok.bind (s_m_N_holds (x0 := (M 4 3)) (x1 := v1) hI) (fun r3 M4 q5 => ?_)
      dsimp only at q5
      obtain ⟨q6, q7, q8⟩ := q5
      have q6 : M = M4 := q6
      subst q6
      dsimp only
      have n9 : (0 : Int32).toInt = 0 := rfl
      refine Ok.eq (fun c10 => ?_) (fun c10 => ?_)
      · exact s_j_D_collect_58 (v1 := v1) ih hk hI (by omega) (by omega) (by omega)
      · refine Ok.bind (s_m_D_needByBlock (x1 := v1) hI (by omega) (by omega)) (fun r11 M12 q13 => ?_)
        dsimp only at q13
        obtain ⟨q14, q15, q16⟩ := q13
        dsimp only
        exact s_j_D_collect_58 (v1 := v1) ih hk q14 (by omega) (by omega) (by omega)
theorem s_j_D_collect_26 {bn bt : Int} {G : Sto} {P : Int32 × Sto → Prop} {M : Sto} (hR : ∀ (r : Int32) (M : Sto), IX bn bt G M → 0 ≤ r.toInt → r.toInt ≤ 0 → P (r, M)) (hI : IX bn bt G M) : Ok P (j_D_collect_26 M) := by
  unfold j_D_collect_26
  have n1 : (0 : Int32).toInt = 0 := rfl
  have fu_ := fu_le
  refine s_l_D_collect_28 (fun M2 i3 => ?_) FU 0 M hI (by omega) (by omega) (by omega)
  exact s_j_D_collect_64 hR i3
end
section
theorem s_l_D_collect_7 {bn bt : Int} {G : Sto} {P : Int32 × Sto → Prop} {k : Sto → Option (Int32 × Sto)} (hk : ∀ (M : Sto), IX bn bt G M → Ok P (k M)) : ∀ (n : Nat) (v1 : Int32) (M : Sto), IY bn bt G M → (M 5 5).toInt = 0 → (∀ j : Nat, (j : Int) < v1.toInt → M 27 j = 0) → 0 ≤ v1.toInt → v1.toInt ≤ 126 → 127 - v1.toInt ≤ (n : Int) → Ok P (l_D_collect_7 k n v1 M) := by
  intro n
  induction n with
  | zero => intro v1 M _ _ _ _ _ _; exfalso; omega
  | succ n ih =>
    intro v1 M hI h5 h27 r0 r1 hn
    have n0 : (0 : Int32).toInt = 0 := rfl
    have n1 : (1 : Int32).toInt = 1 := rfl
    have n2 : (126 : Int32).toInt = 126 := rfl
    unfold l_D_collect_7
    refine Ok.le (fun c => ?_) (fun c => ?_)
    · refine hk M (hI.toX ?_)
      show (M 5 5).toInt = cnt (M 27) 126
      rw [h5, cnt_zero]
      intro j hj
      exact h27 j (by omega)
    refine Ok.okI (by omega) (by omega) ?_
    refine Ok.bzI (by omega) (by omega) ?_
    refine Ok.wr (fun M1 e1 => ?_)
    have f : (v1 + 1).toInt = v1.toInt + (1 : Int32).toInt := addI (by omega) (by omega)
    refine ih (v1 + 1) M1 ?_ ?_ ?_ (by omega) (by omega) (by omega)
    · rw [e1]; exact hI.up rfl (show (0 : Int) ≤ 0 by decide) (show (0 : Int) ≤ 1 by decide)
    · rw [e1, up2_ne _ _ _ (by decide)]; exact h5
    · intro j hj
      rw [e1, up2_at]
      by_cases q : j = v1.toNatClampNeg
      · rw [if_pos ⟨rfl, q⟩]
      · rw [if_neg (fun z => q z.2)]
        have := tn_eq r0
        exact h27 j (by omega)
theorem s_m_D_collect {bn bt : Int} {G : Sto} {M : Sto} (hI : IX bn bt G M) : Ok (fun a => IX bn bt G a.2 ∧ 0 ≤ a.1.toInt ∧ a.1.toInt ≤ 0) (m_D_collect M) := by
  have hR : ∀ (r : Int32) (M : Sto), IX bn bt G M → 0 ≤ r.toInt → r.toInt ≤ 0 → (fun a : Int32 × Sto => IX bn bt G a.2 ∧ 0 ≤ a.1.toInt ∧ a.1.toInt ≤ 0) (r, M) := fun r M hI h0 h1 => ⟨hI, h0, h1⟩
  have n0 : (0 : Int32).toInt = 0 := rfl
  have fu_ := fu_le
  unfold m_D_collect
  refine Ok.wr (fun M1 e1 => ?_)
  refine s_l_D_collect_7 (fun M2 i3 => s_j_D_collect_26 hR i3) FU 0 M1 ?_ ?_ ?_ (by omega) (by omega) (by omega)
  · rw [e1]; exact hI.toY.up rfl (show (0 : Int) ≤ 0 by decide) (show (0 : Int) ≤ 126 by decide)
  · rw [e1, up2_at, if_pos ⟨rfl, rfl⟩]; rfl
  · intro j hj
    omega
end
section
theorem s_m_A_begin {bn bt : Int} {G : Sto} {M : Sto} (hI : IX bn bt G M) : Ok (fun a => IX bn 0 G a.2 ∧ 0 ≤ a.1.toInt ∧ a.1.toInt ≤ 0) (m_A_begin M) := by
  have hR : ∀ (r : Int32) (M : Sto), IX bn 0 G M → 0 ≤ r.toInt → r.toInt ≤ 0 → (fun a : Int32 × Sto => IX bn 0 G a.2 ∧ 0 ≤ a.1.toInt ∧ a.1.toInt ≤ 0) (r, M) := fun r M hI h0 h1 => ⟨hI, h0, h1⟩
  unfold m_A_begin
  have n4 : (0 : Int32).toInt = 0 := rfl
  refine Ok.wr (fun M3 q1 => ?_)
  have i2 := fl_30 hI (n := 6) (v := 0)
  rw [← q1] at i2
  refine Ok.wr (fun M7 q5 => ?_)
  have i6 := fl_31 i2 (n := 126) (v := 0)
  rw [← q5] at i6
  refine Ok.wr (fun M10 q8 => ?_)
  have i9 := set_6_9 (b := 0) (v := 0) i6 (by omega) (by omega)
  rw [← q8] at i9
  refine Ok.wr (fun M13 q11 => ?_)
  have i12 := up_6_11 i9 (v := 0)
  rw [← q11] at i12
  refine Ok.wr (fun M16 q14 => ?_)
  have i15 := up_6_12 i12 (v := 0)
  rw [← q14] at i15
  refine Ok.wr (fun M19 q17 => ?_)
  have i18 := up_6_13 i15 (v := 0) (by omega) (by omega)
  rw [← q17] at i18
  exact Ok.some (hR 0 _ (i18.mono (by omega) (by omega)) (by omega) (by omega))
theorem s_j_A_keep_19 {bn bt : Int} {G : Sto} {P : Int32 × Sto → Prop} {M : Sto} (hR : ∀ (r : Int32) (M : Sto), IX bn (bt + 1) G M → 0 ≤ r.toInt → r.toInt ≤ 0 → P (r, M)) (hI : IX bn bt G M) (x0_ : (bt ≤ 100000)) : Ok P (j_A_keep_19 M) := by
  unfold j_A_keep_19
  have f4 := rd_6_9 hI
  have n5 : (1 : Int32).toInt = 1 := rfl
  have f6 : ((M 6 9) + 1).toInt = (M 6 9).toInt + (1 : Int32).toInt := addI (by omega) (by omega)
  refine Ok.wr (fun M3 q1 => ?_)
  have i2 := set_6_9 (b := bt + 1) (v := ((M 6 9) + 1)) hI (by omega) (by omega)
  rw [← q1] at i2
  have n7 : (0 : Int32).toInt = 0 := rfl
  exact Ok.some (hR 0 _ (i2.mono (by omega) (by omega)) (by omega) (by omega))
theorem s_m_A_keep {bn bt : Int} {G : Sto} {x1 : Int32} {M : Sto} (hI : IX bn bt G M) (x0_ : (bt ≤ 100000)) : Ok (fun a => IX bn (bt + 1) G a.2 ∧ 0 ≤ a.1.toInt ∧ a.1.toInt ≤ 0) (m_A_keep x1 M) := by
  have hR : ∀ (r : Int32) (M : Sto), IX bn (bt + 1) G M → 0 ≤ r.toInt → r.toInt ≤ 0 → (fun a : Int32 × Sto => IX bn (bt + 1) G a.2 ∧ 0 ≤ a.1.toInt ∧ a.1.toInt ≤ 0) (r, M) := fun r M hI h0 h1 => ⟨hI, h0, h1⟩
  unfold m_A_keep
  have n1 : (40 : Int32).toInt = 40 := rfl
  have f2 := rd_6_9 hI
  refine Ok.le (fun c3 => ?_) (fun c3 => ?_)
  · exact s_j_A_keep_19 (bn := bn) (bt := bt) hR (hI.mono (by omega) (by omega)) (by omega)
  · refine Ok.okI (by omega) (by omega) ?_
    refine Ok.wr (fun M6 q4 => ?_)
    have i5 := up_33 hI (j := ((M 6 9).toNatClampNeg)) (v := x1)
    rw [← q4] at i5
    exact s_j_A_keep_19 (bn := bn) (bt := bt) hR (i5.mono (by omega) (by omega)) (by omega)
theorem s_m_A_nextInput {bn bt : Int} {G : Sto} {M : Sto} (hI : IX bn bt G M) : Ok (fun a => IX bn bt G a.2) (m_A_nextInput M) := by
  have hR : ∀ (r : Int32) (M : Sto), IX bn bt G M → (fun a : Int32 × Sto => IX bn bt G a.2) (r, M) := fun r M hI  => hI
  unfold m_A_nextInput
  have f1 := rd_6_13 hI
  have f2 := rd_6_4 hI
  refine Ok.lt (fun c3 => ?_) (fun c3 => ?_)
  · refine Ok.okI (by omega) (by omega) ?_
    have n7 : (1 : Int32).toInt = 1 := rfl
    have f8 : ((M 6 13) + 1).toInt = (M 6 13).toInt + (1 : Int32).toInt := addI (by omega) (by omega)
    refine Ok.wr (fun M6 q4 => ?_)
    have i5 := up_6_13 hI (v := ((M 6 13) + 1)) (by omega) (by omega)
    rw [← q4] at i5
    exact Ok.some (hR (M 29 ((M 6 13).toNatClampNeg)) _ i5)
  · have n9 : (0 : Int32).toInt = 0 := rfl
    exact Ok.some (hR 0 _ hI)
theorem s_j_A_perform_40 {bn bt : Int} {G : Sto} {P : Int32 × Sto → Prop} {s0 : Int32} {M : Sto} (hR : ∀ (r : Int32) (M : Sto), IX bn (bt + 1) G M → P (r, M)) (hI : IX bn (bt + 1) G M) : Ok P (j_A_perform_40 s0 M) := by
  unfold j_A_perform_40
  exact Ok.some (hR s0 _ (hI.mono (by omega) (by omega)))
theorem s_j_A_perform_21 {bn bt : Int} {G : Sto} {P : Int32 × Sto → Prop} {v1 v2 v3 : Int32} {M : Sto} (hR : ∀ (r : Int32) (M : Sto), IX bn (bt + 1) G M → P (r, M)) (hI : IX bn (bt + 1) G M) : Ok P (j_A_perform_21 v1 v2 v3 M) := by
  unfold j_A_perform_21
  have n1 : (6 : Int32).toInt = 6 := rfl
  refine Ok.eq (fun c2 => ?_) (fun c2 => ?_)
  · refine Ok.bind (s_m_A_nextInput hI) (fun r3 M4 q5 => ?_)
    dsimp only at q5
    have q6 := q5
    dsimp only
    exact s_j_A_perform_40 (bn := bn) (bt := bt) (s0 := r3) hR (q6.mono (by omega) (by omega))
  · refine Ok.bind (s_m_N_calculate (x0 := v1) (x1 := v2) (x2 := v3) hI) (fun r7 M8 q9 => ?_)
    dsimp only at q9
    have q10 := q9
    have q10 : M = M8 := q10
    subst q10
    dsimp only
    exact s_j_A_perform_40 (bn := bn) (bt := bt) (s0 := r7) hR (hI.mono (by omega) (by omega))
theorem s_m_A_perform {bn bt : Int} {G : Sto} {x1 x2 x3 : Int32} {M : Sto} (hI : IX bn bt G M) (x0_ : (bt ≤ 100000)) : Ok (fun a => IX bn (bt + 1) G a.2) (m_A_perform x1 x2 x3 M) := by
  have hR : ∀ (r : Int32) (M : Sto), IX bn (bt + 1) G M → (fun a : Int32 × Sto => IX bn (bt + 1) G a.2) (r, M) := fun r M hI  => hI
  unfold m_A_perform
  have n4 : (1 : Int32).toInt = 1 := rfl
  refine Ok.wr (fun M3 q1 => ?_)
  have i2 := up_6_12 hI (v := ((M 6 12) + 1))
  rw [← q1] at i2
  have n5 : (7 : Int32).toInt = 7 := rfl
  refine Ok.eq (fun c6 => ?_) (fun c6 => ?_)
  · refine Ok.bind (s_m_A_keep (x1 := x2) i2 (by omega)) (fun r7 M8 q9 => ?_)
    dsimp only at q9
    obtain ⟨q10, q11, q12⟩ := q9
    dsimp only
    exact s_j_A_perform_21 (bn := bn) (bt := bt) (v1 := x1) (v2 := x2) (v3 := x3) hR (q10.mono (by omega) (by omega))
  · exact s_j_A_perform_21 (bn := bn) (bt := bt) (v1 := x1) (v2 := x2) (v3 := x3) hR (i2.mono (by omega) (by omega))
theorem s_j_A_nextOf_39 {bn bt : Int} {G : Sto} {P : Int32 × Sto → Prop} {s0 : Int32} {M : Sto} (hR : ∀ r : Int32, (-1) ≤ r.toInt → r.toInt ≤ 9 → P (r, M)) (hI : IX bn bt G M) (r0 : 0 ≤ s0.toInt) (r1 : s0.toInt ≤ 9) : Ok P (j_A_nextOf_39 s0 M) := by
  unfold j_A_nextOf_39
  exact Ok.some (hR s0 (by omega) (by omega))
theorem s_m_A_nextOf {bn bt : Int} {G : Sto} {x1 x2 : Int32} {M : Sto} (hI : IX bn bt G M) (r0 : 0 ≤ x1.toInt) (r1 : x1.toInt ≤ 9) : Ok (fun a => M = a.2 ∧ (-1) ≤ a.1.toInt ∧ a.1.toInt ≤ 9) (m_A_nextOf x1 x2 M) := by
  have hR : ∀ r : Int32, (-1) ≤ r.toInt → r.toInt ≤ 9 → (fun a : Int32 × Sto => M = a.2 ∧ (-1) ≤ a.1.toInt ∧ a.1.toInt ≤ 9) (r, M) := fun r h0 h1 => ⟨rfl, h0, h1⟩
  unfold m_A_nextOf
  refine Ok.okI (by omega) (by omega) ?_
  have n1 : (0 : Int32).toInt = 0 := rfl
  refine Ok.eq (fun c2 => ?_) (fun c2 => ?_)
  · have n3 : ((-1) : Int32).toInt = (-1) := rfl
    exact Ok.some (hR (-1) (by omega) (by omega))
  · refine Ok.eq (fun c4 => ?_) (fun c4 => ?_)
    · refine Ok.okI (by omega) (by omega) ?_
      have f5 := rd_11 hI x1.toNatClampNeg
      exact s_j_A_nextOf_39 (s0 := (M 11 x1.toNatClampNeg)) hR hI (by omega) (by omega)
    · refine Ok.okI (by omega) (by omega) ?_
      have f6 := rd_10 hI x1.toNatClampNeg
      exact s_j_A_nextOf_39 (s0 := (M 10 x1.toNatClampNeg)) hR hI (by omega) (by omega)
theorem s_j_A_passPlain_136 {bn bt : Int} {G : Sto} {P : Int32 × Sto → Prop} {v1 : Int32} {M : Sto} (hR : ∀ (r : Int32) (M : Sto), IX bn (bt + 6) G M → (-1) ≤ r.toInt → r.toInt ≤ 9 → P (r, M)) (hI : IX bn (bt + 6) G M) (r0 : 0 ≤ v1.toInt) (r1 : v1.toInt ≤ 9) : Ok P (j_A_passPlain_136 v1 M) := by
  unfold j_A_passPlain_136
  refine Ok.okI (by omega) (by omega) ?_
  have f1 := rd_9 hI v1.toNatClampNeg
  refine Ok.okI (by omega) (by omega) ?_
  refine Ok.bind (s_m_A_nextOf (x1 := v1) (x2 := (M 30 ((M 9 v1.toNatClampNeg).toNatClampNeg))) hI (by omega) (by omega)) (fun r2 M3 q4 => ?_)
  dsimp only at q4
  obtain ⟨q5, q6, q7⟩ := q4
  have q5 : M = M3 := q5
  subst q5
  dsimp only
  exact Ok.some (hR r2 _ (hI.mono (by omega) (by omega)) (by omega) (by omega))
theorem s_j_A_passPlain_130 {bn bt : Int} {G : Sto} {P : Int32 × Sto → Prop} {g : Int32 → Int32 → Sto → Option (Int32 × Sto)} {k : Int32 → Sto → Option (Int32 × Sto)} {n : Nat} {v1 v2 : Int32} {M : Sto} (hg : ∀ (e2 : Int32) (M : Sto), IX bn (bt + e2.toInt) G M → 0 ≤ e2.toInt → e2.toInt ≤ 6 → (bt ≤ 90000) → 7 - e2.toInt ≤ (n : Int) → Ok P (g v1 e2 M)) (hk : ∀ (M : Sto), IX bn (bt + 6) G M → Ok P (k v1 M)) (hI : IX bn (bt + v2.toInt + 1) G M) (r0 : 0 ≤ v1.toInt) (r1 : v1.toInt ≤ 9) (r2 : 0 ≤ v2.toInt) (r3 : v2.toInt ≤ 5) (x0_ : (bt ≤ 90000)) (hn : 7 - v2.toInt ≤ (n : Int) + 1) : Ok P (j_A_passPlain_130 g k v1 v2 M) := by
  unfold j_A_passPlain_130
  have n1 : (1 : Int32).toInt = 1 := rfl
  have f2 : (v2 + 1).toInt = v2.toInt + (1 : Int32).toInt := addI (by omega) (by omega)
  exact hg (v2 + 1) M (hI.mono (by omega) (by omega)) (by omega) (by omega) (by omega) (by omega)
theorem s_j_A_passPlain_92 {bn bt : Int} {G : Sto} {P : Int32 × Sto → Prop} {g : Int32 → Int32 → Sto → Option (Int32 × Sto)} {k : Int32 → Sto → Option (Int32 × Sto)} {n : Nat} {s0 v1 v2 v3 v6 : Int32} {M : Sto} (hg : ∀ (e2 : Int32) (M : Sto), IX bn (bt + e2.toInt) G M → 0 ≤ e2.toInt → e2.toInt ≤ 6 → (bt ≤ 90000) → 7 - e2.toInt ≤ (n : Int) → Ok P (g v1 e2 M)) (hk : ∀ (M : Sto), IX bn (bt + 6) G M → Ok P (k v1 M)) (hI : IX bn (bt + v2.toInt) G M) (r0 : 0 ≤ v1.toInt) (r1 : v1.toInt ≤ 9) (r2 : 0 ≤ v2.toInt) (r3 : v2.toInt ≤ 5) (x0_ : (bt ≤ 90000)) (x1_ : (v3.toInt = (G (43 + v1.toNatClampNeg) v2.toNatClampNeg).toInt)) (hn : 7 - v2.toInt ≤ (n : Int) + 1) : Ok P (j_A_passPlain_92 g k s0 v1 v2 v3 v6 M) := by
  unfold j_A_passPlain_92
  refine Ok.bind (s_m_A_perform (x1 := v3) (x2 := v6) (x3 := s0) hI (by omega)) (fun r1 M2 q3 => ?_)
  dsimp only at q3
  have q4 := q3
  dsimp only
  refine Ok.bind (s_m_N_setsVariable (x0 := v3) q4) (fun r5 M6 q7 => ?_)
  dsimp only at q7
  obtain ⟨q8, q9, q10, q11⟩ := q7
  have q8 : M2 = M6 := q8
  subst q8
  dsimp only
  have n12 : (0 : Int32).toInt = 0 := rfl
  refine Ok.eq (fun c13 => ?_) (fun c13 => ?_)
  · exact s_j_A_passPlain_130 (bn := bn) (bt := bt) (v1 := v1) (v2 := v2) hg hk (q4.mono (by omega) (by omega)) (by omega) (by omega) (by omega) (by omega) (by omega) (by omega)
  · refine Ok.okI (by omega) (by omega) ?_
    refine Ok.okI (by omega) (by omega) ?_
    have f14 := rd_53 (i := v1.toNatClampNeg) q4 (tn_lt (by omega) (by omega)) v2.toNatClampNeg
    refine Ok.okI (by omega) (by omega) ?_
    refine Ok.wr (fun M17 q15 => ?_)
    have i16 := up_30 q4 (j := ((M2 (53 + v1.toNatClampNeg) v2.toNatClampNeg).toNatClampNeg)) (v := r1)
    rw [← q15] at i16
    exact s_j_A_passPlain_130 (bn := bn) (bt := bt) (v1 := v1) (v2 := v2) hg hk (i16.mono (by omega) (by omega)) (by omega) (by omega) (by omega) (by omega) (by omega) (by omega)
theorem s_j_A_passPlain_72 {bn bt : Int} {G : Sto} {P : Int32 × Sto → Prop} {g : Int32 → Int32 → Sto → Option (Int32 × Sto)} {k : Int32 → Sto → Option (Int32 × Sto)} {n : Nat} {s0 v1 v2 v3 v5 : Int32} {M : Sto} (hg : ∀ (e2 : Int32) (M : Sto), IX bn (bt + e2.toInt) G M → 0 ≤ e2.toInt → e2.toInt ≤ 6 → (bt ≤ 90000) → 7 - e2.toInt ≤ (n : Int) → Ok P (g v1 e2 M)) (hk : ∀ (M : Sto), IX bn (bt + 6) G M → Ok P (k v1 M)) (hI : IX bn (bt + v2.toInt) G M) (r0 : 0 ≤ v1.toInt) (r1 : v1.toInt ≤ 9) (r2 : 0 ≤ v2.toInt) (r3 : v2.toInt ≤ 5) (x0_ : (bt ≤ 90000)) (x1_ : (v3.toInt = (G (43 + v1.toNatClampNeg) v2.toNatClampNeg).toInt)) (x2_ : (2 ≤ v3.toInt → v3.toInt ≤ 5 → 0 ≤ v5.toInt ∧ v5.toInt ≤ 5)) (hn : 7 - v2.toInt ≤ (n : Int) + 1) : Ok P (j_A_passPlain_72 g k s0 v1 v2 v3 v5 M) := by
  unfold j_A_passPlain_72
  refine Ok.bind (s_m_N_readsY (x0 := v3) hI) (fun r1 M2 q3 => ?_)
  dsimp only at q3
  obtain ⟨q4, q5, q6, q7⟩ := q3
  have q4 : M = M2 := q4
  subst q4
  dsimp only
  have n8 : (0 : Int32).toInt = 0 := rfl
  refine Ok.eq (fun c9 => ?_) (fun c9 => ?_)
  · exact s_j_A_passPlain_92 (bn := bn) (bt := bt) (s0 := 0) (v1 := v1) (v2 := v2) (v3 := v3) (v6 := s0) hg hk (hI.mono (by omega) (by omega)) (by omega) (by omega) (by omega) (by omega) (by omega) (by omega) (by omega)
  · refine Ok.okI (by omega) (by omega) ?_
    exact s_j_A_passPlain_92 (bn := bn) (bt := bt) (s0 := (M 30 v5.toNatClampNeg)) (v1 := v1) (v2 := v2) (v3 := v3) (v6 := s0) hg hk (hI.mono (by omega) (by omega)) (by omega) (by omega) (by omega) (by omega) (by omega) (by omega) (by omega)
theorem s_l_A_passPlain_2 {bn bt : Int} {G : Sto} {P : Int32 × Sto → Prop} {k : Int32 → Sto → Option (Int32 × Sto)} {v1 : Int32} (rf0 : 0 ≤ v1.toInt) (rf1 : v1.toInt ≤ 9) (hk : ∀ (M : Sto), IX bn (bt + 6) G M → Ok P (k v1 M)) : ∀ (n : Nat) (v2 : Int32) (M : Sto), IX bn (bt + v2.toInt) G M → 0 ≤ v2.toInt → v2.toInt ≤ 6 → (bt ≤ 90000) → 7 - v2.toInt ≤ (n : Int) → Ok P (l_A_passPlain_2 k n v1 v2 M) := by
  intro n
  induction n with
  | zero => intro v2 M hI r0 r1 x0_ hn; exfalso; omega
  | succ n ih =>
    intro v2 M hI r0 r1 x0_ hn
    unfold l_A_passPlain_2
    refine Ok.okI (by omega) (by omega) ?_
    have f1 := rd_7 hI v1.toNatClampNeg
    refine Ok.le (fun c2 => ?_) (fun c2 => ?_)
    · exact hk M (hI.mono (by omega) (by omega))
    · refine Ok.okI (by omega) (by omega) ?_
      refine Ok.okI (by omega) (by omega) ?_
      refine Ok.okI (by omega) (by omega) ?_
      refine Ok.okI (by omega) (by omega) ?_
      refine Ok.okI (by omega) (by omega) ?_
      refine Ok.okI (by omega) (by omega) ?_
      have f3 := congrArg Int32.toInt (rd_kind (i := v1.toNatClampNeg) hI (tn_lt (by omega) (by omega)) v2.toNatClampNeg)
      refine Ok.bind (s_m_N_readsX (x0 := (M (43 + v1.toNatClampNeg) v2.toNatClampNeg)) hI) (fun r4 M5 q6 => ?_)
      dsimp only at q6
      obtain ⟨q7, q8, q9, q10⟩ := q6
      have q7 : M = M5 := q7
      subst q7
      dsimp only
      have n11 : (0 : Int32).toInt = 0 := rfl
      refine Ok.eq (fun c12 => ?_) (fun c12 => ?_)
      · have f13 := rd_63 (i := v1.toNatClampNeg) hI (tn_lt (by omega) (by omega)) v2.toNatClampNeg
        have f14 := rd_73 (i := v1.toNatClampNeg) hI (tn_lt (by omega) (by omega)) v2.toNatClampNeg
        exact s_j_A_passPlain_72 (bn := bn) (bt := bt) (s0 := (M (63 + v1.toNatClampNeg) v2.toNatClampNeg)) (v1 := v1) (v2 := v2) (v3 := (M (43 + v1.toNatClampNeg) v2.toNatClampNeg)) (v5 := (M (73 + v1.toNatClampNeg) v2.toNatClampNeg)) ih hk (hI.mono (by omega) (by omega)) (by omega) (by omega) (by omega) (by omega) (by omega) (by omega) (by omega) (by omega)
      · have f15 := rd_63 (i := v1.toNatClampNeg) hI (tn_lt (by omega) (by omega)) v2.toNatClampNeg
        refine Ok.okI (by omega) (by omega) ?_
        have f16 := rd_73 (i := v1.toNatClampNeg) hI (tn_lt (by omega) (by omega)) v2.toNatClampNeg
        exact s_j_A_passPlain_72 (bn := bn) (bt := bt) (s0 := (M 30 ((M (63 + v1.toNatClampNeg) v2.toNatClampNeg).toNatClampNeg))) (v1 := v1) (v2 := v2) (v3 := (M (43 + v1.toNatClampNeg) v2.toNatClampNeg)) (v5 := (M (73 + v1.toNatClampNeg) v2.toNatClampNeg)) ih hk (hI.mono (by omega) (by omega)) (by omega) (by omega) (by omega) (by omega) (by omega) (by omega) (by omega) (by omega)
theorem s_m_A_passPlain {bn bt : Int} {G : Sto} {x1 : Int32} {M : Sto} (hI : IX bn bt G M) (r0 : 0 ≤ x1.toInt) (r1 : x1.toInt ≤ 9) (x0_ : (bt ≤ 90000)) : Ok (fun a => IX bn (bt + 6) G a.2 ∧ (-1) ≤ a.1.toInt ∧ a.1.toInt ≤ 9) (m_A_passPlain x1 M) := by
  have hR : ∀ (r : Int32) (M : Sto), IX bn (bt + 6) G M → (-1) ≤ r.toInt → r.toInt ≤ 9 → (fun a : Int32 × Sto => IX bn (bt + 6) G a.2 ∧ (-1) ≤ a.1.toInt ∧ a.1.toInt ≤ 9) (r, M) := fun r M hI h0 h1 => ⟨hI, h0, h1⟩
  unfold m_A_passPlain
  have n1 : (0 : Int32).toInt = 0 := rfl
  have fu_ := fu_le
  refine s_l_A_passPlain_2 (bn := bn) (bt := bt) (v1 := x1) (by omega) (by omega) (fun M2 i3 => ?_) FU 0 M (hI.mono (by omega) (by omega)) (by omega) (by omega) (by omega) (by omega)
  exact s_j_A_passPlain_136 (bn := bn) (bt := bt) (v1 := x1) hR (i3.mono (by omega) (by omega)) (by omega) (by omega)
theorem s_j_A_valueOf_38 {bn bt : Int} {G : Sto} {P : Int32 × Sto → Prop} {s0 : Int32} {M : Sto} (hR : ∀ r : Int32, P (r, M)) (hI : IX bn bt G M) : Ok P (j_A_valueOf_38 s0 M) := by
  unfold j_A_valueOf_38
  exact Ok.some (hR s0)
theorem s_m_A_valueOf {bn bt : Int} {G : Sto} {x1 : Int32} {M : Sto} (hI : IX bn bt G M) (r0 : (-1) ≤ x1.toInt) (r1 : x1.toInt ≤ 125) : Ok (fun a => M = a.2) (m_A_valueOf x1 M) := by
  have hR : ∀ r : Int32, (fun a : Int32 × Sto => M = a.2) (r, M) := fun r => rfl
  unfold m_A_valueOf
  have n1 : ((-1) : Int32).toInt = (-1) := rfl
  refine Ok.eq (fun c2 => ?_) (fun c2 => ?_)
  · have n3 : (0 : Int32).toInt = 0 := rfl
    exact Ok.some (hR 0)
  · refine Ok.okI (by omega) (by omega) ?_
    have n4 : (1 : Int32).toInt = 1 := rfl
    refine Ok.eq (fun c5 => ?_) (fun c5 => ?_)
    · refine Ok.okI (by omega) (by omega) ?_
      exact s_j_A_valueOf_38 (s0 := (M 26 x1.toNatClampNeg)) hR hI
    · refine Ok.okI (by omega) (by omega) ?_
      exact s_j_A_valueOf_38 (s0 := (M 31 x1.toNatClampNeg)) hR hI
theorem s_j_A_choose_87 {bn bt : Int} {G : Sto} {P : Int32 × Sto → Prop} {M : Sto} (hR : ∀ (r : Int32) (M : Sto), IX bn bt G M → 0 ≤ r.toInt → r.toInt ≤ 0 → P (r, M)) (hI : IX bn bt G M) : Ok P (j_A_choose_87 M) := by
  unfold j_A_choose_87
  have n1 : (0 : Int32).toInt = 0 := rfl
  exact Ok.some (hR 0 _ hI (by omega) (by omega))
theorem s_j_A_choose_81 {bn bt : Int} {G : Sto} {P : Int32 × Sto → Prop} {g : Int32 → Int32 → Sto → Option (Int32 × Sto)} {k : Sto → Option (Int32 × Sto)} {n : Nat} {v2 v3 : Int32} {M : Sto} (hg : ∀ (e3 : Int32) (M : Sto), IX bn bt G M → 0 ≤ e3.toInt → e3.toInt ≤ 6 → 7 - e3.toInt ≤ (n : Int) → Ok P (g v2 e3 M)) (hk : ∀ (M : Sto), IX bn bt G M → Ok P (k M)) (hI : IX bn bt G M) (r0 : 0 ≤ v2.toInt) (r1 : v2.toInt ≤ 9) (r2 : 0 ≤ v3.toInt) (r3 : v3.toInt ≤ 5) (hn : 7 - v3.toInt ≤ (n : Int) + 1) : Ok P (j_A_choose_81 g k v2 v3 M) := by
  unfold j_A_choose_81
  have n1 : (1 : Int32).toInt = 1 := rfl
  have f2 : (v3 + 1).toInt = v3.toInt + (1 : Int32).toInt := addI (by omega) (by omega)
  exact hg (v3 + 1) M hI (by omega) (by omega) (by omega)
theorem s_l_A_choose_37 {bn bt : Int} {G : Sto} {P : Int32 × Sto → Prop} {k : Sto → Option (Int32 × Sto)} {v2 : Int32} (rf0 : 0 ≤ v2.toInt) (rf1 : v2.toInt ≤ 9) (hk : ∀ (M : Sto), IX bn bt G M → Ok P (k M)) : ∀ (n : Nat) (v3 : Int32) (M : Sto), IX bn bt G M → 0 ≤ v3.toInt → v3.toInt ≤ 6 → 7 - v3.toInt ≤ (n : Int) → Ok P (l_A_choose_37 k n v2 v3 M) := by
  intro n
  induction n with
  | zero => intro v3 M hI r0 r1 hn; exfalso; omega
  | succ n ih =>
    intro v3 M hI r0 r1 hn
    unfold l_A_choose_37
    have n1 : (6 : Int32).toInt = 6 := rfl
    refine Ok.le (fun c2 => ?_) (fun c2 => ?_)
    · exact hk M hI
    · refine Ok.okI (by omega) (by omega) ?_
      refine Ok.bind (s_m_N_holds (x0 := (M 18 v2.toNatClampNeg)) (x1 := v3) hI) (fun r3 M4 q5 => ?_)
      dsimp only at q5
      obtain ⟨q6, q7, q8⟩ := q5
      have q6 : M = M4 := q6
      subst q6
      dsimp only
      have n9 : (0 : Int32).toInt = 0 := rfl
      refine Ok.eq (fun c10 => ?_) (fun c10 => ?_)
      · exact s_j_A_choose_81 (v2 := v2) (v3 := v3) ih hk hI (by omega) (by omega) (by omega) (by omega) (by omega)
      · refine Ok.okI (by omega) (by omega) ?_
        refine Ok.okI (by omega) (by omega) ?_
        refine Ok.okI (by omega) (by omega) ?_
        have f11 := rd_83 (i := v2.toNatClampNeg) hI (tn_lt (by omega) (by omega)) v3.toNatClampNeg
        refine Ok.okI (by omega) (by omega) ?_
        refine Ok.wr (fun M14 q12 => ?_)
        have i13 := up_31 hI (j := ((M (83 + v2.toNatClampNeg) v3.toNatClampNeg).toNatClampNeg)) (v := (M 32 v3.toNatClampNeg))
        rw [← q12] at i13
        exact s_j_A_choose_81 (v2 := v2) (v3 := v3) ih hk i13 (by omega) (by omega) (by omega) (by omega) (by omega)
theorem s_j_A_choose_35 {bn bt : Int} {G : Sto} {P : Int32 × Sto → Prop} {v2 : Int32} {M : Sto} (hR : ∀ (r : Int32) (M : Sto), IX bn bt G M → 0 ≤ r.toInt → r.toInt ≤ 0 → P (r, M)) (hI : IX bn bt G M) (r0 : 0 ≤ v2.toInt) (r1 : v2.toInt ≤ 9) : Ok P (j_A_choose_35 v2 M) := by
  unfold j_A_choose_35
  have n1 : (0 : Int32).toInt = 0 := rfl
  have fu_ := fu_le
  refine s_l_A_choose_37 (v2 := v2) (by omega) (by omega) (fun M2 i3 => ?_) FU 0 M hI (by omega) (by omega) (by omega)
  exact s_j_A_choose_87 hR i3
theorem s_l_A_choose_2 {bn bt : Int} {G : Sto} {P : Int32 × Sto → Prop} {k : Int32 → Sto → Option (Int32 × Sto)} {v1 v2 : Int32} (rf0 : 0 ≤ v1.toInt) (rf1 : v1.toInt ≤ 9) (rf2 : 0 ≤ v2.toInt) (rf3 : v2.toInt ≤ 9) (hk : ∀ (M : Sto), IX bn bt G M → Ok P (k v2 M)) : ∀ (n : Nat) (v3 : Int32) (M : Sto), IX bn bt G M → 0 ≤ v3.toInt → v3.toInt ≤ 6 → 7 - v3.toInt ≤ (n : Int) → Ok P (l_A_choose_2 k n v1 v2 v3 M) := by
  intro n
  induction n with
  | zero => intro v3 M hI r0 r1 hn; exfalso; omega
  | succ n ih =>
    intro v3 M hI r0 r1 hn
    unfold l_A_choose_2
    have n1 : (6 : Int32).toInt = 6 := rfl
    refine Ok.le (fun c2 => ?_) (fun c2 => ?_)
    · exact hk M hI
    · refine Ok.okI (by omega) (by omega) ?_
      refine Ok.okI (by omega) (by omega) ?_
      have f3 := rd_93 (i := v1.toNatClampNeg) hI (tn_lt (by omega) (by omega)) v3.toNatClampNeg
      refine Ok.bind (s_m_A_valueOf (x1 := (M (93 + v1.toNatClampNeg) v3.toNatClampNeg)) hI (by omega) (by omega)) (fun r4 M5 q6 => ?_)
      dsimp only at q6
      have q7 := q6
      have q7 : M = M5 := q7
      subst q7
      dsimp only
      refine Ok.okI (by omega) (by omega) ?_
      refine Ok.wr (fun M10 q8 => ?_)
      have i9 := up_32 hI (j := v3.toNatClampNeg) (v := r4)
      rw [← q8] at i9
      have n11 : (1 : Int32).toInt = 1 := rfl
      have f12 : (v3 + 1).toInt = v3.toInt + (1 : Int32).toInt := addI (by omega) (by omega)
      exact ih (v3 + 1) M10 i9 (by omega) (by omega) (by omega)
theorem s_m_A_choose {bn bt : Int} {G : Sto} {x1 x2 : Int32} {M : Sto} (hI : IX bn bt G M) (r0 : 0 ≤ x1.toInt) (r1 : x1.toInt ≤ 9) (r2 : 0 ≤ x2.toInt) (r3 : x2.toInt ≤ 9) : Ok (fun a => IX bn bt G a.2 ∧ 0 ≤ a.1.toInt ∧ a.1.toInt ≤ 0) (m_A_choose x1 x2 M) := by
  have hR : ∀ (r : Int32) (M : Sto), IX bn bt G M → 0 ≤ r.toInt → r.toInt ≤ 0 → (fun a : Int32 × Sto => IX bn bt G a.2 ∧ 0 ≤ a.1.toInt ∧ a.1.toInt ≤ 0) (r, M) := fun r M hI h0 h1 => ⟨hI, h0, h1⟩
  unfold m_A_choose
  have n1 : (0 : Int32).toInt = 0 := rfl
  have fu_ := fu_le
  refine s_l_A_choose_2 (v1 := x1) (v2 := x2) (by omega) (by omega) (by omega) (by omega) (fun M2 i3 => ?_) FU 0 M hI (by omega) (by omega) (by omega)
  exact s_j_A_choose_35 (v2 := x2) hR i3 (by omega) (by omega)
theorem s_j_A_isKept_30 {bn bt : Int} {G : Sto} {P : Int32 × Sto → Prop} {s0 : Int32} {M : Sto} (hR : ∀ r : Int32, 0 ≤ r.toInt → r.toInt ≤ 1 → P (r, M)) (hI : IX bn bt G M) (r0 : 0 ≤ s0.toInt) (r1 : s0.toInt ≤ 1) : Ok P (j_A_isKept_30 s0 M) := by
  unfold j_A_isKept_30
  refine Ok.bzI (by omega) (by omega) ?_
  exact Ok.some (hR s0 (by omega) (by omega))
theorem s_j_A_isKept_29 {bn bt : Int} {G : Sto} {P : Int32 × Sto → Prop} {M : Sto} (hR : ∀ r : Int32, 0 ≤ r.toInt → r.toInt ≤ 1 → P (r, M)) (hI : IX bn bt G M) : Ok P (j_A_isKept_29 M) := by
  unfold j_A_isKept_29
  have n1 : (0 : Int32).toInt = 0 := rfl
  exact s_j_A_isKept_30 (s0 := 0) hR hI (by omega) (by omega)
theorem s_m_A_isKept {bn bt : Int} {G : Sto} {x1 : Int32} {M : Sto} (hI : IX bn bt G M) (r0 : 0 ≤ x1.toInt) (r1 : x1.toInt ≤ 125) : Ok (fun a => M = a.2 ∧ 0 ≤ a.1.toInt ∧ a.1.toInt ≤ 1) (m_A_isKept x1 M) := by
  have hR : ∀ r : Int32, 0 ≤ r.toInt → r.toInt ≤ 1 → (fun a : Int32 × Sto => M = a.2 ∧ 0 ≤ a.1.toInt ∧ a.1.toInt ≤ 1) (r, M) := fun r h0 h1 => ⟨rfl, h0, h1⟩
  unfold m_A_isKept
  refine Ok.okI (by omega) (by omega) ?_
  have f1 := rd_27 hI x1.toNatClampNeg
  have n2 : (0 : Int32).toInt = 0 := rfl
  refine Ok.eq (fun c3 => ?_) (fun c3 => ?_)
  · exact s_j_A_isKept_29 hR hI
  · refine Ok.okI (by omega) (by omega) ?_
    have n4 : (1 : Int32).toInt = 1 := rfl
    refine Ok.eq (fun c5 => ?_) (fun c5 => ?_)
    · exact s_j_A_isKept_29 hR hI
    · exact s_j_A_isKept_30 (s0 := 1) hR hI (by omega) (by omega)
theorem s_j_A_passBecome_130 {bn bt : Int} {G : Sto} {P : Int32 × Sto → Prop} {v2 : Int32} {M : Sto} (hR : ∀ (r : Int32) (M : Sto), IX bn (bt + 6) G M → (-1) ≤ r.toInt → r.toInt ≤ 9 → P (r, M)) (hI : IX bn (bt + 6) G M) (r0 : 0 ≤ v2.toInt) (r1 : v2.toInt ≤ 9) : Ok P (j_A_passBecome_130 v2 M) := by
  unfold j_A_passBecome_130
  refine Ok.okI (by omega) (by omega) ?_
  have f1 := rd_20 hI v2.toNatClampNeg
  refine Ok.bind (s_m_A_valueOf (x1 := (M 20 v2.toNatClampNeg)) hI (by omega) (by omega)) (fun r2 M3 q4 => ?_)
  dsimp only at q4
  have q5 := q4
  have q5 : M = M3 := q5
  subst q5
  dsimp only
  refine Ok.bind (s_m_A_nextOf (x1 := v2) (x2 := r2) hI (by omega) (by omega)) (fun r6 M7 q8 => ?_)
  dsimp only at q8
  obtain ⟨q9, q10, q11⟩ := q8
  have q9 : M = M7 := q9
  subst q9
  dsimp only
  exact Ok.some (hR r6 _ (hI.mono (by omega) (by omega)) (by omega) (by omega))
theorem s_j_A_passBecome_124 {bn bt : Int} {G : Sto} {P : Int32 × Sto → Prop} {g : Int32 → Int32 → Sto → Option (Int32 × Sto)} {k : Int32 → Sto → Option (Int32 × Sto)} {n : Nat} {v2 v3 : Int32} {M : Sto} (hg : ∀ (e3 : Int32) (M : Sto), IX bn (bt + e3.toInt) G M → 0 ≤ e3.toInt → e3.toInt ≤ 6 → (bt ≤ 90000) → 7 - e3.toInt ≤ (n : Int) → Ok P (g v2 e3 M)) (hk : ∀ (M : Sto), IX bn (bt + 6) G M → Ok P (k v2 M)) (hI : IX bn (bt + v3.toInt + 1) G M) (r0 : 0 ≤ v2.toInt) (r1 : v2.toInt ≤ 9) (r2 : 0 ≤ v3.toInt) (r3 : v3.toInt ≤ 5) (x0_ : (bt ≤ 90000)) (hn : 7 - v3.toInt ≤ (n : Int) + 1) : Ok P (j_A_passBecome_124 g k v2 v3 M) := by
  unfold j_A_passBecome_124
  have n1 : (1 : Int32).toInt = 1 := rfl
  have f2 : (v3 + 1).toInt = v3.toInt + (1 : Int32).toInt := addI (by omega) (by omega)
  exact hg (v3 + 1) M (hI.mono (by omega) (by omega)) (by omega) (by omega) (by omega) (by omega)
theorem s_j_A_passBecome_54 {bn bt : Int} {G : Sto} {P : Int32 × Sto → Prop} {g : Int32 → Int32 → Sto → Option (Int32 × Sto)} {k : Int32 → Sto → Option (Int32 × Sto)} {n : Nat} {v2 v3 v4 : Int32} {M : Sto} (hg : ∀ (e3 : Int32) (M : Sto), IX bn (bt + e3.toInt) G M → 0 ≤ e3.toInt → e3.toInt ≤ 6 → (bt ≤ 90000) → 7 - e3.toInt ≤ (n : Int) → Ok P (g v2 e3 M)) (hk : ∀ (M : Sto), IX bn (bt + 6) G M → Ok P (k v2 M)) (hI : IX bn (bt + v3.toInt) G M) (r0 : 0 ≤ v2.toInt) (r1 : v2.toInt ≤ 9) (r2 : 0 ≤ v3.toInt) (r3 : v3.toInt ≤ 5) (r4 : (-1) ≤ v4.toInt) (r5 : v4.toInt ≤ 125) (x0_ : (bt ≤ 90000)) (hn : 7 - v3.toInt ≤ (n : Int) + 1) : Ok P (j_A_passBecome_54 g k v2 v3 v4 M) := by
  unfold j_A_passBecome_54
  refine Ok.okI (by omega) (by omega) ?_
  refine Ok.okI (by omega) (by omega) ?_
  have f1 := rd_113 (i := v2.toNatClampNeg) hI (tn_lt (by omega) (by omega)) v3.toNatClampNeg
  refine Ok.bind (s_m_A_valueOf (x1 := (M (113 + v2.toNatClampNeg) v3.toNatClampNeg)) hI (by omega) (by omega)) (fun r2 M3 q4 => ?_)
  dsimp only at q4
  have q5 := q4
  have q5 : M = M3 := q5
  subst q5
  dsimp only
  refine Ok.okI (by omega) (by omega) ?_
  refine Ok.okI (by omega) (by omega) ?_
  have f6 := rd_123 (i := v2.toNatClampNeg) hI (tn_lt (by omega) (by omega)) v3.toNatClampNeg
  refine Ok.bind (s_m_A_valueOf (x1 := (M (123 + v2.toNatClampNeg) v3.toNatClampNeg)) hI (by omega) (by omega)) (fun r7 M8 q9 => ?_)
  dsimp only at q9
  have q10 := q9
  have q10 : M = M8 := q10
  subst q10
  dsimp only
  refine Ok.okI (by omega) (by omega) ?_
  refine Ok.okI (by omega) (by omega) ?_
  have f11 := congrArg Int32.toInt (rd_kind (i := v2.toNatClampNeg) hI (tn_lt (by omega) (by omega)) v3.toNatClampNeg)
  refine Ok.bind (s_m_A_perform (x1 := (M (43 + v2.toNatClampNeg) v3.toNatClampNeg)) (x2 := r2) (x3 := r7) hI (by omega)) (fun r12 M13 q14 => ?_)
  dsimp only at q14
  have q15 := q14
  dsimp only
  have n16 : ((-1) : Int32).toInt = (-1) := rfl
  refine Ok.eq (fun c17 => ?_) (fun c17 => ?_)
  · exact s_j_A_passBecome_124 (bn := bn) (bt := bt) (v2 := v2) (v3 := v3) hg hk (q15.mono (by omega) (by omega)) (by omega) (by omega) (by omega) (by omega) (by omega) (by omega)
  · refine Ok.okI (by omega) (by omega) ?_
    refine Ok.wr (fun M20 q18 => ?_)
    have i19 := up_31 q15 (j := v4.toNatClampNeg) (v := r12)
    rw [← q18] at i19
    exact s_j_A_passBecome_124 (bn := bn) (bt := bt) (v2 := v2) (v3 := v3) hg hk (i19.mono (by omega) (by omega)) (by omega) (by omega) (by omega) (by omega) (by omega) (by omega)
theorem s_l_A_passBecome_13 {bn bt : Int} {G : Sto} {P : Int32 × Sto → Prop} {k : Int32 → Sto → Option (Int32 × Sto)} {v2 : Int32} (rf0 : 0 ≤ v2.toInt) (rf1 : v2.toInt ≤ 9) (hk : ∀ (M : Sto), IX bn (bt + 6) G M → Ok P (k v2 M)) : ∀ (n : Nat) (v3 : Int32) (M : Sto), IX bn (bt + v3.toInt) G M → 0 ≤ v3.toInt → v3.toInt ≤ 6 → (bt ≤ 90000) → 7 - v3.toInt ≤ (n : Int) → Ok P (l_A_passBecome_13 k n v2 v3 M) := by
  intro n
  induction n with
  | zero => intro v3 M hI r0 r1 x0_ hn; exfalso; omega
  | succ n ih =>
    intro v3 M hI r0 r1 x0_ hn
    unfold l_A_passBecome_13
    refine Ok.okI (by omega) (by omega) ?_
    have f1 := rd_7 hI v2.toNatClampNeg
    refine Ok.le (fun c2 => ?_) (fun c2 => ?_)
    · exact hk M (hI.mono (by omega) (by omega))
    · refine Ok.okI (by omega) (by omega) ?_
      refine Ok.okI (by omega) (by omega) ?_
      have f3 := rd_103 (i := v2.toNatClampNeg) hI (tn_lt (by omega) (by omega)) v3.toNatClampNeg
      have n4 : ((-1) : Int32).toInt = (-1) := rfl
      refine Ok.eq (fun c5 => ?_) (fun c5 => ?_)
      · exact s_j_A_passBecome_54 (bn := bn) (bt := bt) (v2 := v2) (v3 := v3) (v4 := (M (103 + v2.toNatClampNeg) v3.toNatClampNeg)) ih hk (hI.mono (by omega) (by omega)) (by omega) (by omega) (by omega) (by omega) (by omega) (by omega) (by omega) (by omega)
      · refine Ok.bind (s_m_A_isKept (x1 := (M (103 + v2.toNatClampNeg) v3.toNatClampNeg)) hI (by omega) (by omega)) (fun r6 M7 q8 => ?_)
        dsimp only at q8
        obtain ⟨q9, q10, q11⟩ := q8
        have q9 : M = M7 := q9
        subst q9
        dsimp only
        have n12 : (0 : Int32).toInt = 0 := rfl
        refine Ok.eq (fun c13 => ?_) (fun c13 => ?_)
        · exact s_j_A_passBecome_124 (bn := bn) (bt := bt) (v2 := v2) (v3 := v3) ih hk (hI.mono (by omega) (by omega)) (by omega) (by omega) (by omega) (by omega) (by omega) (by omega)
        · exact s_j_A_passBecome_54 (bn := bn) (bt := bt) (v2 := v2) (v3 := v3) (v4 := (M (103 + v2.toNatClampNeg) v3.toNatClampNeg)) ih hk (hI.mono (by omega) (by omega)) (by omega) (by omega) (by omega) (by omega) (by omega) (by omega) (by omega) (by omega)
theorem s_j_A_passBecome_11 {bn bt : Int} {G : Sto} {P : Int32 × Sto → Prop} {v2 : Int32} {M : Sto} (hR : ∀ (r : Int32) (M : Sto), IX bn (bt + 6) G M → (-1) ≤ r.toInt → r.toInt ≤ 9 → P (r, M)) (hI : IX bn bt G M) (r0 : 0 ≤ v2.toInt) (r1 : v2.toInt ≤ 9) (x0_ : (bt ≤ 90000)) : Ok P (j_A_passBecome_11 v2 M) := by
  unfold j_A_passBecome_11
  have n1 : (0 : Int32).toInt = 0 := rfl
  have fu_ := fu_le
  refine s_l_A_passBecome_13 (bn := bn) (bt := bt) (v2 := v2) (by omega) (by omega) (fun M2 i3 => ?_) FU 0 M (hI.mono (by omega) (by omega)) (by omega) (by omega) (by omega) (by omega)
  exact s_j_A_passBecome_130 (bn := bn) (bt := bt) (v2 := v2) hR (i3.mono (by omega) (by omega)) (by omega) (by omega)
theorem s_m_A_passBecome {bn bt : Int} {G : Sto} {x1 x2 : Int32} {M : Sto} (hI : IX bn bt G M) (r0 : (-1) ≤ x1.toInt) (r1 : x1.toInt ≤ 9) (r2 : 0 ≤ x2.toInt) (r3 : x2.toInt ≤ 9) (x0_ : (bt ≤ 90000)) : Ok (fun a => IX bn (bt + 6) G a.2 ∧ (-1) ≤ a.1.toInt ∧ a.1.toInt ≤ 9) (m_A_passBecome x1 x2 M) := by
  have hR : ∀ (r : Int32) (M : Sto), IX bn (bt + 6) G M → (-1) ≤ r.toInt → r.toInt ≤ 9 → (fun a : Int32 × Sto => IX bn (bt + 6) G a.2 ∧ (-1) ≤ a.1.toInt ∧ a.1.toInt ≤ 9) (r, M) := fun r M hI h0 h1 => ⟨hI, h0, h1⟩
  unfold m_A_passBecome
  have n1 : ((-1) : Int32).toInt = (-1) := rfl
  refine Ok.eq (fun c2 => ?_) (fun c2 => ?_)
  · exact s_j_A_passBecome_11 (bn := bn) (bt := bt) (v2 := x2) hR (hI.mono (by omega) (by omega)) (by omega) (by omega) (by omega)
  · refine Ok.bind (s_m_A_choose (x1 := x1) (x2 := x2) hI (by omega) (by omega) (by omega) (by omega)) (fun r3 M4 q5 => ?_)
    dsimp only at q5
    obtain ⟨q6, q7, q8⟩ := q5
    dsimp only
    exact s_j_A_passBecome_11 (bn := bn) (bt := bt) (v2 := x2) hR (q6.mono (by omega) (by omega)) (by omega) (by omega) (by omega)
theorem s_j_A_execute_71 {bn bt : Int} {G : Sto} {P : Int32 × Sto → Prop} {M : Sto} (hR : ∀ (r : Int32) (M : Sto), IX bn 1200 G M → 0 ≤ r.toInt → r.toInt ≤ 1 → P (r, M)) (hI : IX bn 1200 G M) : Ok P (j_A_execute_71 M) := by
  unfold j_A_execute_71
  have n1 : (0 : Int32).toInt = 0 := rfl
  refine Ok.bzI (by omega) (by omega) ?_
  exact Ok.some (hR 0 _ (hI.mono (by omega) (by omega)) (by omega) (by omega))
theorem s_j_A_execute_48 {bn bt : Int} {G : Sto} {P : Int32 × Sto → Prop} {g : Int32 → Int32 → Int32 → Int32 → Int32 → Sto → Option (Int32 × Sto)} {k : Sto → Option (Int32 × Sto)} {n : Nat} {s0 v1 v2 v4 v5 : Int32} {M : Sto} (hg : ∀ (e3 e4 e5 : Int32) (M : Sto), IX bn (6 * e5.toInt) G M → (-1) ≤ e3.toInt → e3.toInt ≤ 9 → 0 ≤ e4.toInt → e4.toInt ≤ 9 → 0 ≤ e5.toInt → e5.toInt ≤ 200 → 201 - e5.toInt ≤ (n : Int) → Ok P (g v1 v2 e3 e4 e5 M)) (hk : ∀ (M : Sto), IX bn 1200 G M → Ok P (k M)) (hR : ∀ (r : Int32) (M : Sto), IX bn 1200 G M → 0 ≤ r.toInt → r.toInt ≤ 1 → P (r, M)) (hI : IX bn (6 * v5.toInt + 6) G M) (r0 : (-1) ≤ s0.toInt) (r1 : s0.toInt ≤ 9) (r2 : 1 ≤ v2.toInt) (r3 : v2.toInt ≤ 200) (r4 : 0 ≤ v4.toInt) (r5 : v4.toInt ≤ 9) (r6 : 0 ≤ v5.toInt) (r7 : v5.toInt ≤ 199) (hn : 201 - v5.toInt ≤ (n : Int) + 1) : Ok P (j_A_execute_48 g k s0 v1 v2 v4 v5 M) := by
  unfold j_A_execute_48
  have n1 : ((-1) : Int32).toInt = (-1) := rfl
  refine Ok.eq (fun c2 => ?_) (fun c2 => ?_)
  · have n3 : (1 : Int32).toInt = 1 := rfl
    refine Ok.bzI (by omega) (by omega) ?_
    exact Ok.some (hR 1 _ (hI.mono (by omega) (by omega)) (by omega) (by omega))
  · have n4 : (1 : Int32).toInt = 1 := rfl
    have f5 : (v5 + 1).toInt = v5.toInt + (1 : Int32).toInt := addI (by omega) (by omega)
    exact hg v4 s0 (v5 + 1) M (hI.mono (by omega) (by omega)) (by omega) (by omega) (by omega) (by omega) (by omega) (by omega) (by omega)
theorem s_l_A_execute_12 {bn bt : Int} {G : Sto} {P : Int32 × Sto → Prop} {k : Sto → Option (Int32 × Sto)} {v1 v2 : Int32} (rf0 : 0 ≤ v2.toInt) (rf1 : v2.toInt ≤ 200) (hk : ∀ (M : Sto), IX bn 1200 G M → Ok P (k M)) (hR : ∀ (r : Int32) (M : Sto), IX bn 1200 G M → 0 ≤ r.toInt → r.toInt ≤ 1 → P (r, M)) : ∀ (n : Nat) (v3 v4 v5 : Int32) (M : Sto), IX bn (6 * v5.toInt) G M → (-1) ≤ v3.toInt → v3.toInt ≤ 9 → 0 ≤ v4.toInt → v4.toInt ≤ 9 → 0 ≤ v5.toInt → v5.toInt ≤ 200 → 201 - v5.toInt ≤ (n : Int) → Ok P (l_A_execute_12 k n v1 v2 v3 v4 v5 M) := by
  intro n
  induction n with
  | zero => intro v3 v4 v5 M hI r0 r1 r2 r3 r4 r5 hn; exfalso; omega
  | succ n ih =>
    intro v3 v4 v5 M hI r0 r1 r2 r3 r4 r5 hn
    unfold l_A_execute_12
    refine Ok.le (fun c1 => ?_) (fun c1 => ?_)
    · exact hk M (hI.mono (by omega) (by omega))
    · have n5 : (1 : Int32).toInt = 1 := rfl
      refine Ok.wr (fun M4 q2 => ?_)
      have i3 := up_6_11 hI (v := ((M 6 11) + 1))
      rw [← q2] at i3
      have n6 : (0 : Int32).toInt = 0 := rfl
      refine Ok.eq (fun c7 => ?_) (fun c7 => ?_)
      · refine Ok.bind (s_m_A_passBecome (x1 := v3) (x2 := v4) i3 (by omega) (by omega) (by omega) (by omega) (by omega)) (fun r8 M9 q10 => ?_)
        dsimp only at q10
        obtain ⟨q11, q12, q13⟩ := q10
        dsimp only
        exact s_j_A_execute_48 (bn := bn) (bt := bt) (s0 := r8) (v1 := v1) (v2 := v2) (v4 := v4) (v5 := v5) ih hk hR (q11.mono (by omega) (by omega)) (by omega) (by omega) (by omega) (by omega) (by omega) (by omega) (by omega) (by omega) (by omega)
      · refine Ok.bind (s_m_A_passPlain (x1 := v4) i3 (by omega) (by omega) (by omega)) (fun r14 M15 q16 => ?_)
        dsimp only at q16
        obtain ⟨q17, q18, q19⟩ := q16
        dsimp only
        exact s_j_A_execute_48 (bn := bn) (bt := bt) (s0 := r14) (v1 := v1) (v2 := v2) (v4 := v4) (v5 := v5) ih hk hR (q17.mono (by omega) (by omega)) (by omega) (by omega) (by omega) (by omega) (by omega) (by omega) (by omega) (by omega) (by omega)
theorem s_m_A_execute {bn bt : Int} {G : Sto} {x1 x2 : Int32} {M : Sto} (hI : IX bn bt G M) (r0 : 0 ≤ x2.toInt) (r1 : x2.toInt ≤ 200) : Ok (fun a => IX bn 1200 G a.2 ∧ 0 ≤ a.1.toInt ∧ a.1.toInt ≤ 1) (m_A_execute x1 x2 M) := by
  have hR : ∀ (r : Int32) (M : Sto), IX bn 1200 G M → 0 ≤ r.toInt → r.toInt ≤ 1 → (fun a : Int32 × Sto => IX bn 1200 G a.2 ∧ 0 ≤ a.1.toInt ∧ a.1.toInt ≤ 1) (r, M) := fun r M hI h0 h1 => ⟨hI, h0, h1⟩
  unfold m_A_execute
  refine Ok.bind (s_m_A_begin hI) (fun r1 M2 q3 => ?_)
  dsimp only at q3
  obtain ⟨q4, q5, q6⟩ := q3
  dsimp only
  have n7 : ((-1) : Int32).toInt = (-1) := rfl
  have n8 : (0 : Int32).toInt = 0 := rfl
  have fu_ := fu_le
  refine s_l_A_execute_12 (bn := bn) (bt := bt) (v1 := x1) (v2 := x2) (by omega) (by omega) (fun M9 i10 => ?_) hR FU (-1) 0 0 M2 (q4.mono (by omega) (by omega)) (by omega) (by omega) (by omega) (by omega) (by omega) (by omega) (by omega)
  exact s_j_A_execute_71 (bn := bn) (bt := bt) hR (i10.mono (by omega) (by omega))
end
section
def nJ (i : Nat) : Int32 := Int32.ofNat i
theorem nJ_int {i : Nat} (h : i < 2147483648) : (nJ i).toInt = (i : Int) := Int32.toInt_ofNat_of_lt h
theorem nJ_tn {i : Nat} (h : i < 2147483648) : (nJ i).toNatClampNeg = i := by
  show (nJ i).toInt.toNat = i
  rw [nJ_int h]; omega
theorem nJ_of {v : Int32} (h : 0 ≤ v.toInt) : v = nJ v.toNatClampNeg := by
  apply Int32.toInt_inj.mp
  have h2 := Int32.toInt_lt v
  have h3 := tn_eq h
  rw [nJ_int (by omega)]; omega
theorem nJ_succ {i : Nat} (h : i < 2147483647) : nJ i + 1 = nJ (i + 1) := by
  apply Int32.toInt_inj.mp
  have n1 : (1 : Int32).toInt = 1 := rfl
  have h1 := nJ_int (i := i) (by omega)
  rw [addI (by omega) (by omega), nJ_int (i := i + 1) (by omega), h1, n1]; omega
theorem nJ_pred {i : Nat} (h0 : 0 < i) (h : i < 2147483647) : nJ i + (-1) = nJ (i - 1) := by
  apply Int32.toInt_inj.mp
  have n1 : (-1 : Int32).toInt = -1 := rfl
  have h1 := nJ_int (i := i) (by omega)
  rw [addI (by omega) (by omega), nJ_int (i := i - 1) (by omega), h1, n1]; omega
theorem nJ_inj {i j : Nat} (hi : i < 2147483648) (hj : j < 2147483648) (h : nJ i = nJ j) : i = j := by
  have := nJ_int hi
  have h2 := nJ_int hj
  rw [h] at this; omega
def Wk (E : Nat → Prop) (par stk : Nat → Int32) (v od : Nat) (S : Nat → Int32) (Q : Nat → Prop) : Prop :=
  cnt S 10 = (od : Int) + (v : Int) ∧
  (∀ i : Nat, i < v → ∃ c, c < 10 ∧ stk i = nJ c ∧ S c ≠ 0 ∧ ¬ Q c) ∧
  (∀ i j : Nat, i < v → j < v → stk i = stk j → i = j) ∧
  (∀ c, c < 10 → c ≠ 0 → S c ≠ 0 → E c ∧ ∃ b, b < 10 ∧ par c = nJ b ∧ Q b) ∧
  (∀ c, c < 10 → S c ≠ 0 → Q c ∨ ∃ i, i < v ∧ stk i = nJ c)
def WkO (E : Nat → Prop) (par : Nat → Int32) (S : Nat → Int32) (Q : Nat → Prop) : Prop := ∀ c b, c < 10 → b < 10 → E c → par c = nJ b → Q b → S c ≠ 0
def WkI (E : Nat → Prop) (par : Nat → Int32) (S : Nat → Int32) (Q : Nat → Prop) (b m : Nat) : Prop :=
  (∀ c, c ≠ 0 → c ≤ m → c < 10 → S c ≠ 0 → par c ≠ nJ b) ∧
  (∀ c a, c < 10 → a < 10 → E c → par c = nJ a → Q a → S c ≠ 0 ∨ (a = b ∧ c ≤ m))
theorem Wk.start {E : Nat → Prop} {par stk : Nat → Int32} (h : stk 0 = 0) : Wk E par stk 1 0 (fun c => if c = 0 then 1 else 0) (fun _ => False) := by
  refine ⟨by decide, fun i hi => ⟨0, by decide, ?_, by decide, fun q => q⟩, fun i j hi hj _ => by omega, fun c _ h0 hs => ?_, fun c _ hs => ?_⟩
  · rw [show i = 0 by omega, h]; rfl
  · simp [h0] at hs
  · by_cases q : c = 0
    · exact Or.inr ⟨0, by decide, by rw [h, q]; rfl⟩
    · simp [q] at hs
theorem WkO.start {E : Nat → Prop} {par : Nat → Int32} {S : Nat → Int32} : WkO E par S (fun _ => False) := fun _ _ _ _ _ _ q => q.elim
theorem Wk.od {E : Nat → Prop} {par stk : Nat → Int32} {v od : Nat} {S : Nat → Int32} {Q : Nat → Prop} (h : Wk E par stk v od S Q) : od + v ≤ 10 := by
  have := cnt_le S 10
  have h1 := h.1
  omega
theorem Wk.pop {E : Nat → Prop} {par stk : Nat → Int32} {v od b : Nat} {S : Nat → Int32} {Q : Nat → Prop} (h : Wk E par stk (v + 1) od S Q) (ho : WkO E par S Q) (hb : stk v = nJ b) (hb9 : b < 10) :
    Wk E par stk v (od + 1) S (fun c => Q c ∨ c = b) ∧ (∀ m, m = 9 → WkI E par S (fun c => Q c ∨ c = b) b m) := by
  obtain ⟨h1, h2, h3, h4, h5⟩ := h
  have hnb : ¬ Q b ∧ S b ≠ 0 := by
    obtain ⟨c, c1, c2, c3, c4⟩ := h2 v (by omega)
    have := nJ_inj (by omega) (by omega) (hb.symm.trans c2)
    subst this; exact ⟨c4, c3⟩
  refine ⟨⟨by rw [h1]; omega, fun i hi => ?_, fun i j hi hj e => h3 i j (by omega) (by omega) e, fun c c1 c2 c3 => ?_, fun c c1 c3 => ?_⟩, fun m hm => ⟨fun c c0 cm c1 c3 e => ?_, fun c a c1 a1 ec pa qa => ?_⟩⟩
  · obtain ⟨c, c1, c2, c3, c4⟩ := h2 i (by omega)
    refine ⟨c, c1, c2, c3, fun q => q.elim c4 fun e => ?_⟩
    have := h3 i v (by omega) (by omega) (by rw [c2, hb, e])
    omega
  · obtain ⟨e, a, a1, a2, a3⟩ := h4 c c1 c2 c3
    exact ⟨e, a, a1, a2, Or.inl a3⟩
  · rcases h5 c c1 c3 with q | ⟨i, i1, i2⟩
    · exact Or.inl (Or.inl q)
    · by_cases z : i = v
      · subst z; exact Or.inl (Or.inr (nJ_inj (by omega) (by omega) (i2.symm.trans hb)))
      · exact Or.inr ⟨i, by omega, i2⟩
  · obtain ⟨_, a, a1, a2, a3⟩ := h4 c c1 c0 c3
    have := nJ_inj (by omega) (by omega) (a2.symm.trans e)
    subst this; exact hnb.1 a3
  · rcases qa with q | q
    · exact Or.inl (ho c a c1 a1 ec pa q)
    · exact Or.inr ⟨q, by omega⟩
theorem WkI.skip {E : Nat → Prop} {par : Nat → Int32} {S : Nat → Int32} {Q : Nat → Prop} {b m : Nat} (h : WkI E par S Q b (m + 1)) (hm : ¬ (E (m + 1) ∧ par (m + 1) = nJ b)) : WkI E par S Q b m := by
  refine ⟨fun c c0 cm c1 c3 => h.1 c c0 (by omega) c1 c3, fun c a c1 a1 ec pa qa => ?_⟩
  rcases h.2 c a c1 a1 ec pa qa with q | ⟨q1, q2⟩
  · exact Or.inl q
  · by_cases z : c = m + 1
    · subst z; subst q1; exact absurd ⟨ec, pa⟩ hm
    · exact Or.inr ⟨q1, by omega⟩
theorem WkI.down {E : Nat → Prop} {par : Nat → Int32} {S : Nat → Int32} {Q : Nat → Prop} {b m k : Nat} (hE : ∀ c, E c → c ≤ k) (h : WkI E par S Q b m) (hk : k ≤ m) : WkI E par S Q b k := by
  refine ⟨fun c c0 cm c1 c3 => h.1 c c0 (by omega) c1 c3, fun c a c1 a1 ec pa qa => ?_⟩
  rcases h.2 c a c1 a1 ec pa qa with q | ⟨q1, q2⟩
  · exact Or.inl q
  · exact Or.inr ⟨q1, hE c ec⟩
theorem Wk.push {E : Nat → Prop} {par stk : Nat → Int32} {v od b m : Nat} {S : Nat → Int32} {Q : Nat → Prop} (h : Wk E par stk v od S Q) (hi : WkI E par S Q b (m + 1)) (hE : E (m + 1)) (hp : par (m + 1) = nJ b) (hQ : Q b) (hb : b < 10) (hm : m + 1 < 10) (hq : ∀ c, Q c → S c ≠ 0) :
    od + v < 10 ∧ Wk E par (upd stk v (nJ (m + 1))) (v + 1) od (upd S (m + 1) 1) Q ∧ WkI E par (upd S (m + 1) 1) Q b m := by
  have hs : S (m + 1) = 0 := Classical.byContradiction fun q => hi.1 (m + 1) (by omega) (Nat.le_refl _) hm q hp
  obtain ⟨h1, h2, h3, h4, h5⟩ := h
  have hup : ∀ c, S c ≠ 0 → upd S (m + 1) 1 c ≠ 0 := fun c hc => by
    rw [upd_at]
    by_cases z : c = m + 1
    · rw [if_pos z]; decide
    · rw [if_neg z]; exact hc
  have hnew : upd S (m + 1) 1 (m + 1) ≠ 0 := by rw [upd_at, if_pos rfl]; decide
  have hof : ∀ c, upd S (m + 1) 1 c ≠ 0 → c ≠ m + 1 → S c ≠ 0 := fun c hc z => by rw [upd_at, if_neg z] at hc; exact hc
  have hst : ∀ i, i < v → upd stk v (nJ (m + 1)) i = stk i := fun i hi => by rw [upd_at, if_neg (by omega)]
  have hsv : upd stk v (nJ (m + 1)) v = nJ (m + 1) := by rw [upd_at, if_pos rfl]
  have hlt := cnt_lt S hs 10 hm
  refine ⟨by omega, ⟨by rw [cnt_upd S hs 10 hm, h1]; omega, fun i hi' => ?_, fun i j hi' hj' e => ?_, fun c c1 c2 c3 => ?_, fun c c1 c3 => ?_⟩, fun c c0 cm c1 c3 => hi.1 c c0 (by omega) c1 (hof c c3 (by omega)), fun c a c1 a1 ec pa qa => ?_⟩
  · by_cases z : i = v
    · subst z
      exact ⟨m + 1, hm, hsv, hnew, fun q => hq _ q hs⟩
    · obtain ⟨c, c1, c2, c3, c4⟩ := h2 i (by omega)
      exact ⟨c, c1, by rw [hst i (by omega)]; exact c2, hup c c3, c4⟩
  · by_cases zi : i = v
    · by_cases zj : j = v
      · omega
      · subst zi
        rw [hsv, hst j (by omega)] at e
        obtain ⟨c, c1, c2, c3, _⟩ := h2 j (by omega)
        have := nJ_inj (by omega) (by omega) (e.trans c2)
        exact absurd (this ▸ hs) c3
    · by_cases zj : j = v
      · subst zj
        rw [hsv, hst i (by omega)] at e
        obtain ⟨c, c1, c2, c3, _⟩ := h2 i (by omega)
        have := nJ_inj (by omega) (by omega) (e.symm.trans c2)
        exact absurd (this ▸ hs) c3
      · rw [hst i (by omega), hst j (by omega)] at e
        exact h3 i j (by omega) (by omega) e
  · by_cases z : c = m + 1
    · subst z; exact ⟨hE, b, hb, hp, hQ⟩
    · exact h4 c c1 c2 (hof c c3 z)
  · by_cases z : c = m + 1
    · subst z; exact Or.inr ⟨v, by omega, hsv⟩
    · rcases h5 c c1 (hof c c3 z) with q | ⟨i, i1, i2⟩
      · exact Or.inl q
      · exact Or.inr ⟨i, by omega, by rw [hst i i1]; exact i2⟩
  · rcases hi.2 c a c1 a1 ec pa qa with q | ⟨q1, q2⟩
    · exact Or.inl (hup c q)
    · by_cases z : c = m + 1
      · subst z; exact Or.inl hnew
      · exact Or.inr ⟨q1, by omega⟩
theorem WkI.done {E : Nat → Prop} {par : Nat → Int32} {S : Nat → Int32} {Q : Nat → Prop} {b : Nat} (h : WkI E par S Q b 0) (hE : ¬ E 0) : WkO E par S Q := fun c a c1 a1 ec pa qa => (h.2 c a c1 a1 ec pa qa).elim (fun q => q) fun q => absurd ((show c = 0 by omega) ▸ ec) hE
end
section
def OrdX (bn bt : Int) (G : Sto) (par : Nat → Int32) (E : Nat → Prop) (v od : Nat) (S : Nat → Int32) (Q : Nat → Prop) (M : Sto) : Prop :=
  IX bn bt G M ∧ M 14 = par ∧ M 2 7 = nJ od ∧ Wk E par (M 17) v od S Q ∧ ∀ c, Q c → S c ≠ 0
theorem s_l_S_putInOrder_72 {bn bt : Int} {G : Sto} {P : Int32 × Sto → Prop} {k : Int32 → Int32 → Sto → Option (Int32 × Sto)} {v2 : Int32} {par : Nat → Int32} {E : Nat → Prop} {b od : Nat} {Q : Nat → Prop} (hQ : Q b) (hb : b < 10) (hE0 : ¬ E 0)
    (hk : ∀ v S M, OrdX bn bt G par E v od S Q M → WkO E par S Q → Ok P (k (nJ v) v2 M)) :
    ∀ n m v S M, OrdX bn bt G par E v od S Q M → WkI E par S Q b m → m < 10 → (∀ c, c ≠ 0 → c ≤ m → E c) → m < n → Ok P (l_S_putInOrder_72 k n (nJ v) v2 (nJ b) (nJ m) M) := by
  intro n
  induction n with
  | zero => intro m v S M _ _ _ _ h; omega
  | succ n ih =>
    intro m v S M hO hi hm hEm hn
    obtain ⟨hI, hp, ho, hw, hq⟩ := hO
    have n0 : (0 : Int32).toInt = 0 := rfl
    have e1 := nJ_int (i := m) (by omega)
    have e2 := nJ_tn (i := m) (by omega)
    have hod := hw.od
    unfold l_S_putInOrder_72
    refine Ok.le (fun c => ?_) (fun c => ?_)
    · have : m = 0 := by omega
      subst this
      exact hk v S M ⟨hI, hp, ho, hw, hq⟩ (hi.done hE0)
    refine Ok.okI (by omega) (by omega) ?_
    obtain ⟨m, rfl⟩ : ∃ j, m = j + 1 := ⟨m - 1, by omega⟩
    have hpr : nJ (m + 1) + (-1) = nJ m := by rw [nJ_pred (by omega) (by omega)]; rfl
    refine Ok.eq (fun c2 => ?_) (fun c2 => ?_)
    · have c3 : par (m + 1) = nJ b := by rw [← hp, ← e2]; exact Int32.toInt_inj.mp c2
      obtain ⟨g1, g2, g3⟩ := hw.push hi (hEm (m + 1) (by omega) (Nat.le_refl _)) c3 hQ hb hm hq
      have e3 := nJ_int (i := v) (by omega)
      refine Ok.okI (by omega) (by omega) ?_
      refine Ok.wr (fun M1 q1 => ?_)
      have i1 := up_17 (j := (nJ v).toNatClampNeg) (v := nJ (m + 1)) hI (by omega) (by omega)
      rw [← q1] at i1
      unfold j_S_putInOrder_99
      rw [hpr, nJ_succ (by omega)]
      refine ih m (v + 1) (upd S (m + 1) 1) M1 ⟨i1, by rw [q1, up2_ne _ _ _ (by decide)]; exact hp, by rw [q1, up2_ne _ _ _ (by decide)]; exact ho, ?_, fun c hc => ?_⟩ g3 (by omega) (fun c c0 cm => hEm c c0 (by omega)) (by omega)
      · rw [q1, up2_self, nJ_tn (by omega)]; exact g2
      · rw [upd_at]
        by_cases z : c = m + 1
        · rw [if_pos z]; decide
        · rw [if_neg z]; exact hq c hc
    · unfold j_S_putInOrder_99
      rw [hpr]
      exact ih m v S M ⟨hI, hp, ho, hw, hq⟩ (hi.skip fun z => c2 (by rw [hp, e2, z.2])) (by omega) (fun c c0 cm => hEm c c0 (by omega)) (by omega)
theorem s_l_S_putInOrder_16 {bn bt : Int} {G : Sto} {P : Int32 × Sto → Prop} {k : Sto → Option (Int32 × Sto)} {par : Nat → Int32} {B : Nat} (hB : B ≤ 10) (hG : (G 1 0) = nJ B)
    (hk : ∀ M, IX bn bt G M → Ok P (k M)) :
    ∀ n (s v od : Nat) S Q M, OrdX bn bt G par (fun c => c ≠ 0 ∧ c < B) v od S Q M → WkO (fun c => c ≠ 0 ∧ c < B) par S Q → s ≤ 10 → 11 - s ≤ n → Ok P (l_S_putInOrder_16 k n (nJ v) (nJ s) M) := by
  intro n
  induction n with
  | zero => intro s v od S Q M _ _ h1 h2; omega
  | succ n ih =>
    intro s v od S Q M hO hwo hs hn
    obtain ⟨hI, hp, ho, hw, hq⟩ := hO
    have n0 : (0 : Int32).toInt = 0 := rfl
    have n1 : (1 : Int32).toInt = 1 := rfl
    have e1 := nJ_int (i := s) (by omega)
    have hod := hw.od
    have e2 := nJ_int (i := v) (by omega)
    have hb1 : M 1 0 = nJ B := (hI.2.1 1 0 rfl).trans hG
    have e3 := nJ_int (i := B) (by omega)
    unfold l_S_putInOrder_16
    rw [hb1]
    refine Ok.le (fun c => hk M hI) (fun c => ?_)
    refine Ok.le (fun c => hk M hI) (fun c2 => ?_)
    obtain ⟨v, rfl⟩ : ∃ j, v = j + 1 := ⟨v - 1, by omega⟩
    have hpr : nJ (v + 1) + (-1) = nJ v := by rw [nJ_pred (by omega) (by omega)]; rfl
    have e4 := nJ_int (i := v) (by omega)
    have e5 := nJ_int (i := od) (by omega)
    rw [hpr, ho, nJ_tn (i := v) (by omega), nJ_tn (i := od) (by omega)]
    refine Ok.okI (by omega) (by omega) ?_
    refine Ok.okI (by omega) (by omega) ?_
    obtain ⟨b, b1, b2, b3, b4⟩ := hw.2.1 v (by omega)
    have e6 := nJ_int (i := b) (by omega)
    rw [b2]
    refine Ok.wr (fun M1 q1 => ?_)
    have i1 := up_16 (j := od) (v := nJ b) hI (by omega) (by omega)
    rw [← q1] at i1
    have o1 : M1 2 7 = nJ od := by rw [q1, up2_ne _ _ _ (by decide)]; exact ho
    rw [o1, nJ_succ (by omega)]
    have e7 := nJ_int (i := od + 1) (by omega)
    refine Ok.wr (fun M2 q2 => ?_)
    have i2 := up_2_7 (v := nJ (od + 1)) i1 (by omega) (by omega)
    rw [← q2] at i2
    have hb2 : M2 1 0 = nJ B := (i2.2.1 1 0 rfl).trans hG
    have hB1 : nJ B - 1 = nJ (B - 1) := by
      apply Int32.toInt_inj.mp
      rw [subI (by omega) (by omega), nJ_int (i := B - 1) (by omega)]; omega
    rw [hb2, hB1]
    obtain ⟨w1, w2⟩ := hw.pop hwo b2 b1
    have f17 : M2 17 = M 17 := by rw [q2, up2_ne _ _ _ (by decide), q1, up2_ne _ _ _ (by decide)]
    have f14 : M2 14 = M 14 := by rw [q2, up2_ne _ _ _ (by decide), q1, up2_ne _ _ _ (by decide)]
    refine s_l_S_putInOrder_72 (od := od + 1) (E := fun c => c ≠ 0 ∧ c < B) (par := par) (Q := fun c => Q c ∨ c = b) (Or.inr rfl) b1 (fun z => z.1 rfl) (fun v' S' M' hO' hw' => ?_) FU (B - 1) v S M2 ⟨i2, f14.trans hp, by rw [q2, up2_at, if_pos ⟨rfl, rfl⟩], by rw [f17]; exact w1, fun c hc => hc.elim (hq c) (fun z => z ▸ b3)⟩ ((w2 9 rfl).down (fun c hc => by have := hc.2; omega) (by omega)) (by omega) (fun c c0 cm => ⟨c0, by omega⟩) (by unfold FU; omega)
    unfold j_S_putInOrder_105
    rw [nJ_succ (by omega)]
    exact ih (s + 1) v' (od + 1) S' _ M' hO' hw' (by omega) (by omega)
theorem s_m_S_putInOrder {bn bt : Int} {G : Sto} {M : Sto} (hI : IX bn bt G M) : Ok (fun a => IX bn bt G a.2 ∧ 0 ≤ a.1.toInt ∧ a.1.toInt ≤ 0) (m_S_putInOrder M) := by
  have n0 : (0 : Int32).toInt = 0 := rfl
  have fB := rd_1_0 hI
  have hG : G 1 0 = nJ (M 1 0).toNatClampNeg := by rw [← hI.2.1 1 0 rfl]; exact nJ_of fB.1
  have hBt := tn_eq fB.1
  unfold m_S_putInOrder
  refine Ok.wr (fun M1 q1 => ?_)
  have i1 := up_2_7 (v := 0) hI (by omega) (by omega)
  rw [← q1] at i1
  refine Ok.okI (by omega) (by omega) ?_
  refine Ok.wr (fun M2 q2 => ?_)
  have i2 := up_17 (j := (0 : Int32).toNatClampNeg) (v := 0) i1 (by omega) (by omega)
  rw [← q2] at i2
  refine s_l_S_putInOrder_16 (par := M2 14) (B := (M 1 0).toNatClampNeg) (by omega) hG (fun M' i' => Ok.some ⟨i', Int.le_refl 0, Int.le_refl 0⟩) FU 0 1 0 (fun c => if c = 0 then 1 else 0) (fun _ => False) M2 ⟨i2, rfl, ?_, Wk.start ?_, fun c q => q.elim⟩ WkO.start (by omega) (by unfold FU; omega)
  · rw [q2, up2_ne _ _ _ (by decide), q1, up2_at, if_pos ⟨rfl, rfl⟩]; rfl
  · rw [q2, up2_at, if_pos ⟨rfl, rfl⟩]
end
section
theorem s_j_S_survey_116 {bn bt : Int} {G : Sto} {P : Int32 × Sto → Prop} {M : Sto} (hR : ∀ (r : Int32) (M : Sto), IX bn bt G M → 0 ≤ r.toInt → r.toInt ≤ 0 → P (r, M)) (hI : IX bn bt G M) : Ok P (j_S_survey_116 M) := by
  unfold j_S_survey_116
  refine Ok.bind (s_m_S_putInOrder hI) (fun r1 M2 q3 => ?_)
  dsimp only at q3
  obtain ⟨q4, q5, q6⟩ := q3
  dsimp only
  have n7 : (0 : Int32).toInt = 0 := rfl
  exact Ok.some (hR 0 _ q4 (by omega) (by omega))
theorem s_l_S_survey_77 {bn bt : Int} {G : Sto} {P : Int32 × Sto → Prop} {k : Sto → Option (Int32 × Sto)} (hk : ∀ (M : Sto), IX bn bt G M → Ok P (k M)) : ∀ (n : Nat) (v1 : Int32) (M : Sto), IX bn bt G M → 0 ≤ v1.toInt → v1.toInt ≤ 10 → 11 - v1.toInt ≤ (n : Int) → Ok P (l_S_survey_77 k n v1 M) := by
  intro n
  induction n with
  | zero => intro v1 M hI r0 r1 hn; exfalso; omega
  | succ n ih =>
    intro v1 M hI r0 r1 hn
    unfold l_S_survey_77
    have f1 := rd_1_0 hI
    refine Ok.le (fun c2 => ?_) (fun c2 => ?_)
    · exact hk M hI
    · refine Ok.bind (s_m_S_findParent (x1 := v1) hI) (fun r3 M4 q5 => ?_)
      dsimp only at q5
      obtain ⟨q6, q7, q8⟩ := q5
      have q6 : M = M4 := q6
      subst q6
      dsimp only
      refine Ok.okI (by omega) (by omega) ?_
      refine Ok.wr (fun M11 q9 => ?_)
      have i10 := up_14 hI (j := v1.toNatClampNeg) (v := r3) (by omega) (by omega)
      rw [← q9] at i10
      refine Ok.bind (s_m_S_findFrontier (x1 := v1) i10 (by omega) (by omega)) (fun r12 M13 q14 => ?_)
      dsimp only at q14
      have q15 := q14
      have q15 : M11 = M13 := q15
      subst q15
      dsimp only
      refine Ok.okI (by omega) (by omega) ?_
      refine Ok.wr (fun M18 q16 => ?_)
      have i17 := up_15 i10 (j := v1.toNatClampNeg) (v := r12)
      rw [← q16] at i17
      have n19 : (1 : Int32).toInt = 1 := rfl
      have f20 : (v1 + 1).toInt = v1.toInt + (1 : Int32).toInt := addI (by omega) (by omega)
      exact ih (v1 + 1) M18 i17 (by omega) (by omega) (by omega)
theorem s_j_S_survey_75 {bn bt : Int} {G : Sto} {P : Int32 × Sto → Prop} {M : Sto} (hR : ∀ (r : Int32) (M : Sto), IX bn bt G M → 0 ≤ r.toInt → r.toInt ≤ 0 → P (r, M)) (hI : IX bn bt G M) : Ok P (j_S_survey_75 M) := by
  unfold j_S_survey_75
  have n1 : (0 : Int32).toInt = 0 := rfl
  have fu_ := fu_le
  refine s_l_S_survey_77 (fun M2 i3 => ?_) FU 0 M hI (by omega) (by omega) (by omega)
  exact s_j_S_survey_116 hR i3
theorem s_j_S_survey_68 {bn bt : Int} {G : Sto} {P : Int32 × Sto → Prop} {g : Int32 → Sto → Option (Int32 × Sto)} {k : Sto → Option (Int32 × Sto)} {n : Nat} {s0 s1 v1 : Int32} {M : Sto} (hg : ∀ (e1 : Int32) (M : Sto), IX bn bt G M → 0 ≤ e1.toInt → e1.toInt ≤ 10 → 11 - e1.toInt ≤ (n : Int) → Ok P (g e1 M)) (hk : ∀ (M : Sto), IX bn bt G M → Ok P (k M)) (hI : IX bn bt G M) (r0 : 0 ≤ s1.toInt) (r1 : s1.toInt ≤ 9) (r2 : 0 ≤ v1.toInt) (r3 : v1.toInt ≤ 9) (hn : 11 - v1.toInt ≤ (n : Int) + 1) : Ok P (j_S_survey_68 g k s0 s1 v1 M) := by
  unfold j_S_survey_68
  refine Ok.okI (by omega) (by omega) ?_
  refine Ok.wr (fun M3 q1 => ?_)
  have i2 := up_13 hI (j := s1.toNatClampNeg) (v := s0)
  rw [← q1] at i2
  have n4 : (1 : Int32).toInt = 1 := rfl
  have f5 : (v1 + 1).toInt = v1.toInt + (1 : Int32).toInt := addI (by omega) (by omega)
  exact hg (v1 + 1) M3 i2 (by omega) (by omega) (by omega)
theorem s_l_S_survey_11 {bn bt : Int} {G : Sto} {P : Int32 × Sto → Prop} {k : Sto → Option (Int32 × Sto)} (hk : ∀ (M : Sto), IX bn bt G M → Ok P (k M)) : ∀ (n : Nat) (v1 : Int32) (M : Sto), IX bn bt G M → 0 ≤ v1.toInt → v1.toInt ≤ 10 → 11 - v1.toInt ≤ (n : Int) → Ok P (l_S_survey_11 k n v1 M) := by
  intro n
  induction n with
  | zero => intro v1 M hI r0 r1 hn; exfalso; omega
  | succ n ih =>
    intro v1 M hI r0 r1 hn
    unfold l_S_survey_11
    have f1 := rd_1_0 hI
    refine Ok.le (fun c2 => ?_) (fun c2 => ?_)
    · exact hk M hI
    · refine Ok.bind (s_m_S_findBefore (x1 := v1) hI) (fun r3 M4 q5 => ?_)
      dsimp only at q5
      have q6 := q5
      have q6 : M = M4 := q6
      subst q6
      dsimp only
      refine Ok.okI (by omega) (by omega) ?_
      refine Ok.wr (fun M9 q7 => ?_)
      have i8 := up_12 hI (j := v1.toNatClampNeg) (v := r3)
      rw [← q7] at i8
      refine Ok.bind (s_m_N_holds (x0 := (M9 2 1)) (x1 := v1) i8) (fun r10 M11 q12 => ?_)
      dsimp only at q12
      obtain ⟨q13, q14, q15⟩ := q12
      have q13 : M9 = M11 := q13
      subst q13
      dsimp only
      have n16 : (0 : Int32).toInt = 0 := rfl
      refine Ok.eq (fun c17 => ?_) (fun c17 => ?_)
      · exact s_j_S_survey_68 (s0 := 0) (s1 := v1) (v1 := v1) ih hk i8 (by omega) (by omega) (by omega) (by omega) (by omega)
      · refine Ok.bind (s_m_N_bit (x0 := v1) i8) (fun r18 M19 q20 => ?_)
        dsimp only at q20
        have q21 := q20
        have q21 : M9 = M19 := q21
        subst q21
        dsimp only
        refine Ok.bind (s_m_S_comeBy (x1 := r18) i8) (fun r22 M23 q24 => ?_)
        dsimp only at q24
        have q25 := q24
        have q25 : M9 = M23 := q25
        subst q25
        dsimp only
        have n26 : ((-1) : Int32).toInt = (-1) := rfl
        exact s_j_S_survey_68 (s0 := ((M9 2 1) &&& (r22 ^^^ (-1)))) (s1 := v1) (v1 := v1) ih hk i8 (by omega) (by omega) (by omega) (by omega) (by omega)
theorem s_m_S_survey {bn bt : Int} {G : Sto} {M : Sto} (hI : IX bn bt G M) : Ok (fun a => IX bn bt G a.2 ∧ 0 ≤ a.1.toInt ∧ a.1.toInt ≤ 0) (m_S_survey M) := by
  have hR : ∀ (r : Int32) (M : Sto), IX bn bt G M → 0 ≤ r.toInt → r.toInt ≤ 0 → (fun a : Int32 × Sto => IX bn bt G a.2 ∧ 0 ≤ a.1.toInt ∧ a.1.toInt ≤ 0) (r, M) := fun r M hI h0 h1 => ⟨hI, h0, h1⟩
  unfold m_S_survey
  have n1 : (0 : Int32).toInt = 0 := rfl
  refine Ok.bind (s_m_S_comeBy (x1 := 0) hI) (fun r2 M3 q4 => ?_)
  dsimp only at q4
  have q5 := q4
  have q5 : M = M3 := q5
  subst q5
  dsimp only
  refine Ok.wr (fun M8 q6 => ?_)
  have i7 := up_2_1 hI (v := r2)
  rw [← q6] at i7
  have fu_ := fu_le
  refine s_l_S_survey_11 (fun M9 i10 => ?_) FU 0 M8 i7 (by omega) (by omega) (by omega)
  exact s_j_S_survey_75 hR i10
theorem s_m_N_build {bn bt : Int} {G : Sto} {M : Sto} (hI : IX bn bt G M) (x0_ : (126 ≤ bn)) : Ok (fun a => IX bn bt G a.2.2 ∧ a.1 ∈ [0, 2]) (m_N_build M) := by
  have hR : ∀ (c : Nat) (r : Int32) (M : Sto), IX bn bt G M → c ∈ [0, 2] → (fun a : Nat × Int32 × Sto => IX bn bt G a.2.2 ∧ a.1 ∈ [0, 2]) (c, r, M) := fun c r M h1 h2 => ⟨h1, h2⟩
  unfold m_N_build
  have f1 := rd_1_0 hI
  have n2 : (0 : Int32).toInt = 0 := rfl
  refine Ok.eq (fun c3 => ?_) (fun c3 => ?_)
  · exact Ok.some (hR 2 _ _ (hI.mono (by omega) (by omega)) (by decide))
  · refine Ok.bind (s_m_S_survey hI) (fun r4 M5 q6 => ?_)
    dsimp only at q6
    obtain ⟨q7, q8, q9⟩ := q6
    dsimp only
    refine Ok.bind (s_m_G_nameAll q7) (fun r10 M11 q12 => ?_)
    dsimp only at q12
    obtain ⟨q13, q14, q15⟩ := q12
    dsimp only
    refine Ok.bind (s_m_K_settle q13) (fun r16 M17 q18 => ?_)
    dsimp only at q18
    obtain ⟨q19, q20, q21⟩ := q18
    dsimp only
    refine Ok.bind (s_m_D_collect q19) (fun r22 M23 q24 => ?_)
    dsimp only at q24
    obtain ⟨q25, q26, q27⟩ := q24
    dsimp only
    have n28 : (1 : Int32).toInt = 1 := rfl
    refine Ok.bzI (by omega) (by omega) ?_
    refine Ok.wr (fun M31 q29 => ?_)
    have i30 := up_0_6 q25 (v := 1) (by omega) (by omega)
    rw [← q29] at i30
    have f32 := rd_3_2 i30
    exact Ok.some (hR 0 _ _ (i30.mono (by omega) (by omega)) (by decide))
theorem s_j_N_look_20 {bn bt : Int} {G : Sto} {P : Nat × Int32 × Sto → Prop} {M : Sto} (hR : ∀ (c : Nat) (r : Int32) (M : Sto), IX bn bt G M → c ∈ [0, 3, 2] → P (c, r, M)) (hI : IX bn bt G M) : Ok P (j_N_look_20 M) := by
  unfold j_N_look_20
  have n1 : (0 : Int32).toInt = 0 := rfl
  exact Ok.some (hR 3 _ _ hI (by decide))
theorem s_j_N_look_146 {bn bt : Int} {G : Sto} {P : Nat × Int32 × Sto → Prop} {s0 : Int32} {M : Sto} (hR : ∀ (c : Nat) (r : Int32) (M : Sto), IX bn bt G M → c ∈ [0, 3, 2] → P (c, r, M)) (hI : IX bn bt G M) (r0 : 0 ≤ s0.toInt) (r1 : s0.toInt ≤ 1) : Ok P (j_N_look_146 s0 M) := by
  unfold j_N_look_146
  exact Ok.some (hR 0 _ _ hI (by decide))
theorem s_j_N_look_103 {bn bt : Int} {G : Sto} {P : Nat × Int32 × Sto → Prop} {s0 : Int32} {M : Sto} (hR : ∀ (c : Nat) (r : Int32) (M : Sto), IX bn bt G M → c ∈ [0, 3, 2] → P (c, r, M)) (hI : IX bn bt G M) (r0 : 0 ≤ s0.toInt) (r1 : s0.toInt ≤ 1) : Ok P (j_N_look_103 s0 M) := by
  unfold j_N_look_103
  exact Ok.some (hR 0 _ _ hI (by decide))
theorem s_m_N_look {bn bt : Int} {G : Sto} {x1 x2 : Int32} {M : Sto} (hI : IX bn bt G M) : Ok (fun a => IX bn bt G a.2.2 ∧ a.1 ∈ [0, 3, 2]) (m_N_look x1 x2 M) := by
  have hR : ∀ (c : Nat) (r : Int32) (M : Sto), IX bn bt G M → c ∈ [0, 3, 2] → (fun a : Nat × Int32 × Sto => IX bn bt G a.2.2 ∧ a.1 ∈ [0, 3, 2]) (c, r, M) := fun c r M h1 h2 => ⟨h1, h2⟩
  unfold m_N_look
  refine Ok.bind (s_m_P_has (x1 := x1) hI) (fun r1 M2 q3 => ?_)
  dsimp only at q3
  obtain ⟨q4, q5, q6, q7⟩ := q3
  have q4 : M = M2 := q4
  subst q4
  dsimp only
  have n8 : (0 : Int32).toInt = 0 := rfl
  refine Ok.eq (fun c9 => ?_) (fun c9 => ?_)
  · exact s_j_N_look_20 hR hI
  · refine Ok.lt (fun c10 => ?_) (fun c10 => ?_)
    · exact s_j_N_look_20 hR hI
    · have n11 : (5 : Int32).toInt = 5 := rfl
      refine Ok.le (fun c12 => ?_) (fun c12 => ?_)
      · have f13 := rd_0_6 hI
        refine Ok.eq (fun c14 => ?_) (fun c14 => ?_)
        · exact Ok.some (hR 2 _ _ hI (by decide))
        · refine Ok.eq (fun c15 => ?_) (fun c15 => ?_)
          · refine Ok.bind (s_m_N_holds (x0 := (M 2 1)) (x1 := x1) hI) (fun r16 M17 q18 => ?_)
            dsimp only at q18
            obtain ⟨q19, q20, q21⟩ := q18
            have q19 : M = M17 := q19
            subst q19
            dsimp only
            refine Ok.eq (fun c22 => ?_) (fun c22 => ?_)
            · exact s_j_N_look_103 (s0 := 0) hR hI (by omega) (by omega)
            · have n23 : (1 : Int32).toInt = 1 := rfl
              exact s_j_N_look_103 (s0 := 1) hR hI (by omega) (by omega)
          · have n24 : (1 : Int32).toInt = 1 := rfl
            refine Ok.eq (fun c25 => ?_) (fun c25 => ?_)
            · refine Ok.okI (by omega) (by omega) ?_
              have f26 := rd_14 hI x1.toNatClampNeg
              exact Ok.some (hR 0 _ _ hI (by decide))
            · have n27 : (2 : Int32).toInt = 2 := rfl
              refine Ok.eq (fun c28 => ?_) (fun c28 => ?_)
              · refine Ok.okI (by omega) (by omega) ?_
                exact Ok.some (hR 0 _ _ hI (by decide))
              · have n29 : (3 : Int32).toInt = 3 := rfl
                refine Ok.eq (fun c30 => ?_) (fun c30 => ?_)
                · refine Ok.bind (s_m_N_holds (x0 := (M 4 3)) (x1 := x1) hI) (fun r31 M32 q33 => ?_)
                  dsimp only at q33
                  obtain ⟨q34, q35, q36⟩ := q33
                  have q34 : M = M32 := q34
                  subst q34
                  dsimp only
                  refine Ok.eq (fun c37 => ?_) (fun c37 => ?_)
                  · exact s_j_N_look_146 (s0 := 0) hR hI (by omega) (by omega)
                  · exact s_j_N_look_146 (s0 := 1) hR hI (by omega) (by omega)
                · have n38 : (4 : Int32).toInt = 4 := rfl
                  refine Ok.eq (fun c39 => ?_) (fun c39 => ?_)
                  · refine Ok.okI (by omega) (by omega) ?_
                    have f40 := rd_7 hI x1.toNatClampNeg
                    exact Ok.some (hR 0 _ _ hI (by decide))
                  · refine Ok.okI (by omega) (by omega) ?_
                    have f41 := rd_20 hI x1.toNatClampNeg
                    exact Ok.some (hR 0 _ _ hI (by decide))
      · exact s_j_N_look_20 hR hI
theorem s_m_N_isPhiWhat {bn bt : Int} {G : Sto} {x1 x2 : Int32} {M : Sto} (hI : IX bn bt G M) (r0 : 0 ≤ x1.toInt) (r1 : x1.toInt ≤ 9) : Ok (fun a => M = a.2 ∧ 0 ≤ a.1.toInt ∧ a.1.toInt ≤ 1 ∧ (a.1.toInt ≠ 0 → x2.toInt = -1 ∨ x2.toInt = -2 ∨ 0 ≤ x2.toInt ∧ x2.toInt ≤ 9)) (m_N_isPhiWhat x1 x2 M) := by
  have hR : ∀ r : Int32, 0 ≤ r.toInt → r.toInt ≤ 1 → (r.toInt ≠ 0 → x2.toInt = -1 ∨ x2.toInt = -2 ∨ 0 ≤ x2.toInt ∧ x2.toInt ≤ 9) → (fun a : Int32 × Sto => M = a.2 ∧ 0 ≤ a.1.toInt ∧ a.1.toInt ≤ 1 ∧ (a.1.toInt ≠ 0 → x2.toInt = -1 ∨ x2.toInt = -2 ∨ 0 ≤ x2.toInt ∧ x2.toInt ≤ 9)) (r, M) := fun r h0 h1 h2 => ⟨rfl, h0, h1, h2⟩
  unfold m_N_isPhiWhat
  have n1 : ((-1) : Int32).toInt = (-1) := rfl
  refine Ok.eq (fun c2 => ?_) (fun c2 => ?_)
  · unfold j_N_isPhiWhat_11
    have n3 : (1 : Int32).toInt = 1 := rfl
    refine Ok.bzI (by omega) (by omega) ?_
    exact Ok.some (hR 1 (by omega) (by omega) (by omega))
  · have n4 : ((-2) : Int32).toInt = (-2) := rfl
    refine Ok.eq (fun c5 => ?_) (fun c5 => ?_)
    · unfold j_N_isPhiWhat_11
      have n6 : (1 : Int32).toInt = 1 := rfl
      refine Ok.bzI (by omega) (by omega) ?_
      exact Ok.some (hR 1 (by omega) (by omega) (by omega))
    · refine Ok.bind (s_m_P_has (x1 := x2) hI) (fun r7 M8 q9 => ?_)
      dsimp only at q9
      obtain ⟨q10, q11, q12, q13⟩ := q9
      have q10 : M = M8 := q10
      subst q10
      dsimp only
      have n14 : (0 : Int32).toInt = 0 := rfl
      refine Ok.eq (fun c15 => ?_) (fun c15 => ?_)
      · unfold j_N_isPhiWhat_44
        unfold j_N_isPhiWhat_45
        refine Ok.bzI (by omega) (by omega) ?_
        exact Ok.some (hR (0 : Int32) (by omega) (by omega) (by omega))
      · refine Ok.okI (by omega) (by omega) ?_
        refine Ok.bind (s_m_N_holds (x0 := (M 12 x1.toNatClampNeg)) (x1 := x2) hI) (fun r16 M17 q18 => ?_)
        dsimp only at q18
        obtain ⟨q19, q20, q21⟩ := q18
        have q19 : M = M17 := q19
        subst q19
        dsimp only
        refine Ok.eq (fun c22 => ?_) (fun c22 => ?_)
        · unfold j_N_isPhiWhat_44
          unfold j_N_isPhiWhat_45
          refine Ok.bzI (by omega) (by omega) ?_
          exact Ok.some (hR (0 : Int32) (by omega) (by omega) (by omega))
        · have n23 : (1 : Int32).toInt = 1 := rfl
          unfold j_N_isPhiWhat_45
          refine Ok.bzI (by omega) (by omega) ?_
          exact Ok.some (hR (1 : Int32) (by omega) (by omega) (by omega))
theorem s_j_N_phi_58 {bn bt : Int} {G : Sto} {P : Nat × Int32 × Sto → Prop} {M : Sto} (hR : ∀ (c : Nat) (r : Int32) (M : Sto), IX bn bt G M → c ∈ [0, 3, 2] → P (c, r, M)) (hI : IX bn bt G M) : Ok P (j_N_phi_58 M) := by
  unfold j_N_phi_58
  have n1 : (0 : Int32).toInt = 0 := rfl
  exact Ok.some (hR 3 _ _ hI (by decide))
theorem s_j_N_phi_41 {bn bt : Int} {G : Sto} {P : Nat × Int32 × Sto → Prop} {s0 v1 v3 : Int32} {M : Sto} (hR : ∀ (c : Nat) (r : Int32) (M : Sto), IX bn bt G M → c ∈ [0, 3, 2] → P (c, r, M)) (hI : IX bn bt G M) (r0 : (-1) ≤ s0.toInt) (r1 : s0.toInt ≤ 5) (x0_ : (s0.toInt ≠ -1 → 0 ≤ v1.toInt ∧ v1.toInt ≤ 9)) : Ok P (j_N_phi_41 s0 v1 v3 M) := by
  unfold j_N_phi_41
  have n1 : ((-1) : Int32).toInt = (-1) := rfl
  refine Ok.eq (fun c2 => ?_) (fun c2 => ?_)
  · exact s_j_N_phi_58 hR hI
  · refine Ok.bind (s_m_N_isPhiWhat (x1 := v1) (x2 := v3) hI (by omega) (by omega)) (fun r3 M4 q5 => ?_)
    dsimp only at q5
    obtain ⟨q6, q7, q8, q9⟩ := q5
    have q6 : M = M4 := q6
    subst q6
    dsimp only
    have n10 : (0 : Int32).toInt = 0 := rfl
    refine Ok.eq (fun c11 => ?_) (fun c11 => ?_)
    · exact s_j_N_phi_58 hR hI
    · refine Ok.eq (fun c12 => ?_) (fun c12 => ?_)
      · refine Ok.okI (by omega) (by omega) ?_
        refine Ok.okI (by omega) (by omega) ?_
        have f13 := rd_83 (i := v1.toNatClampNeg) hI (tn_lt (by omega) (by omega)) s0.toNatClampNeg
        exact Ok.some (hR 0 _ _ hI (by decide))
      · have n14 : ((-2) : Int32).toInt = (-2) := rfl
        refine Ok.eq (fun c15 => ?_) (fun c15 => ?_)
        · exact Ok.some (hR 0 _ _ hI (by decide))
        · refine Ok.okI (by omega) (by omega) ?_
          refine Ok.okI (by omega) (by omega) ?_
          have f16 := rd_93 (i := v3.toNatClampNeg) hI (tn_lt (by omega) (by omega)) s0.toNatClampNeg
          exact Ok.some (hR 0 _ _ hI (by decide))
theorem s_m_N_phi {bn bt : Int} {G : Sto} {x1 x2 x3 : Int32} {M : Sto} (hI : IX bn bt G M) : Ok (fun a => IX bn bt G a.2.2 ∧ a.1 ∈ [0, 3, 2]) (m_N_phi x1 x2 x3 M) := by
  have hR : ∀ (c : Nat) (r : Int32) (M : Sto), IX bn bt G M → c ∈ [0, 3, 2] → (fun a : Nat × Int32 × Sto => IX bn bt G a.2.2 ∧ a.1 ∈ [0, 3, 2]) (c, r, M) := fun c r M h1 h2 => ⟨h1, h2⟩
  unfold m_N_phi
  have f1 := rd_0_6 hI
  have n2 : (0 : Int32).toInt = 0 := rfl
  refine Ok.eq (fun c3 => ?_) (fun c3 => ?_)
  · exact Ok.some (hR 2 _ _ hI (by decide))
  · refine Ok.bind (s_m_P_has (x1 := x1) hI) (fun r4 M5 q6 => ?_)
    dsimp only at q6
    obtain ⟨q7, q8, q9, q10⟩ := q6
    have q7 : M = M5 := q7
    subst q7
    dsimp only
    refine Ok.eq (fun c11 => ?_) (fun c11 => ?_)
    · have n12 : ((-1) : Int32).toInt = (-1) := rfl
      exact s_j_N_phi_41 (s0 := (-1)) (v1 := x1) (v3 := x3) hR hI (by omega) (by omega) (by omega)
    · refine Ok.bind (s_m_G_phiVariable (x1 := x1) (x2 := x2) hI (by omega) (by omega)) (fun r13 M14 q15 => ?_)
      dsimp only at q15
      obtain ⟨q16, q17, q18⟩ := q15
      have q16 : M = M14 := q16
      subst q16
      dsimp only
      exact s_j_N_phi_41 (s0 := r13) (v1 := x1) (v3 := x3) hR hI (by omega) (by omega) (by omega)
theorem s_m_N_isReachedInstruction {bn bt : Int} {G : Sto} {x1 x2 : Int32} {M : Sto} (hI : IX bn bt G M) : Ok (fun a => M = a.2 ∧ 0 ≤ a.1.toInt ∧ a.1.toInt ≤ 1 ∧ (a.1.toInt ≠ 0 → 0 ≤ x1.toInt ∧ x1.toInt ≤ 9 ∧ 0 ≤ x2.toInt ∧ x2.toInt ≤ 5)) (m_N_isReachedInstruction x1 x2 M) := by
  have hR : ∀ r : Int32, 0 ≤ r.toInt → r.toInt ≤ 1 → (r.toInt ≠ 0 → 0 ≤ x1.toInt ∧ x1.toInt ≤ 9 ∧ 0 ≤ x2.toInt ∧ x2.toInt ≤ 5) → (fun a : Int32 × Sto => M = a.2 ∧ 0 ≤ a.1.toInt ∧ a.1.toInt ≤ 1 ∧ (a.1.toInt ≠ 0 → 0 ≤ x1.toInt ∧ x1.toInt ≤ 9 ∧ 0 ≤ x2.toInt ∧ x2.toInt ≤ 5)) (r, M) := fun r h0 h1 h2 => ⟨rfl, h0, h1, h2⟩
  unfold m_N_isReachedInstruction
  refine Ok.bind (s_m_P_has (x1 := x1) hI) (fun r1 M2 q3 => ?_)
  dsimp only at q3
  obtain ⟨q4, q5, q6, q7⟩ := q3
  have q4 : M = M2 := q4
  subst q4
  dsimp only
  have n8 : (0 : Int32).toInt = 0 := rfl
  refine Ok.eq (fun c9 => ?_) (fun c9 => ?_)
  · unfold j_N_isReachedInstruction_46
    unfold j_N_isReachedInstruction_47
    refine Ok.bzI (by omega) (by omega) ?_
    exact Ok.some (hR (0 : Int32) (by omega) (by omega) (by omega))
  · refine Ok.bind (s_m_N_holds (x0 := (M 2 1)) (x1 := x1) hI) (fun r10 M11 q12 => ?_)
    dsimp only at q12
    obtain ⟨q13, q14, q15⟩ := q12
    have q13 : M = M11 := q13
    subst q13
    dsimp only
    refine Ok.eq (fun c16 => ?_) (fun c16 => ?_)
    · unfold j_N_isReachedInstruction_46
      unfold j_N_isReachedInstruction_47
      refine Ok.bzI (by omega) (by omega) ?_
      exact Ok.some (hR (0 : Int32) (by omega) (by omega) (by omega))
    · refine Ok.lt (fun c17 => ?_) (fun c17 => ?_)
      · unfold j_N_isReachedInstruction_46
        unfold j_N_isReachedInstruction_47
        refine Ok.bzI (by omega) (by omega) ?_
        exact Ok.some (hR (0 : Int32) (by omega) (by omega) (by omega))
      · refine Ok.okI (by omega) (by omega) ?_
        have f18 := rd_7 hI x1.toNatClampNeg
        refine Ok.le (fun c19 => ?_) (fun c19 => ?_)
        · unfold j_N_isReachedInstruction_46
          unfold j_N_isReachedInstruction_47
          refine Ok.bzI (by omega) (by omega) ?_
          exact Ok.some (hR (0 : Int32) (by omega) (by omega) (by omega))
        · have n20 : (1 : Int32).toInt = 1 := rfl
          unfold j_N_isReachedInstruction_47
          refine Ok.bzI (by omega) (by omega) ?_
          exact Ok.some (hR (1 : Int32) (by omega) (by omega) (by omega))
theorem s_j_N_uses_35 {bn bt : Int} {G : Sto} {P : Nat × Int32 × Sto → Prop} {M : Sto} (hR : ∀ (c : Nat) (r : Int32) (M : Sto), IX bn bt G M → c ∈ [0, 3, 2] → P (c, r, M)) (hI : IX bn bt G M) : Ok P (j_N_uses_35 M) := by
  unfold j_N_uses_35
  have n1 : (0 : Int32).toInt = 0 := rfl
  exact Ok.some (hR 3 _ _ hI (by decide))
theorem s_m_N_uses {bn bt : Int} {G : Sto} {x1 x2 x3 : Int32} {M : Sto} (hI : IX bn bt G M) : Ok (fun a => IX bn bt G a.2.2 ∧ a.1 ∈ [0, 3, 2]) (m_N_uses x1 x2 x3 M) := by
  have hR : ∀ (c : Nat) (r : Int32) (M : Sto), IX bn bt G M → c ∈ [0, 3, 2] → (fun a : Nat × Int32 × Sto => IX bn bt G a.2.2 ∧ a.1 ∈ [0, 3, 2]) (c, r, M) := fun c r M h1 h2 => ⟨h1, h2⟩
  unfold m_N_uses
  have f1 := rd_0_6 hI
  have n2 : (0 : Int32).toInt = 0 := rfl
  refine Ok.eq (fun c3 => ?_) (fun c3 => ?_)
  · exact Ok.some (hR 2 _ _ hI (by decide))
  · refine Ok.bind (s_m_N_isReachedInstruction (x1 := x1) (x2 := x2) hI) (fun r4 M5 q6 => ?_)
    dsimp only at q6
    obtain ⟨q7, q8, q9, q10⟩ := q6
    have q7 : M = M5 := q7
    subst q7
    dsimp only
    refine Ok.eq (fun c11 => ?_) (fun c11 => ?_)
    · exact s_j_N_uses_35 hR hI
    · refine Ok.lt (fun c12 => ?_) (fun c12 => ?_)
      · exact s_j_N_uses_35 hR hI
      · have n13 : (2 : Int32).toInt = 2 := rfl
        refine Ok.le (fun c14 => ?_) (fun c14 => ?_)
        · refine Ok.eq (fun c15 => ?_) (fun c15 => ?_)
          · refine Ok.okI (by omega) (by omega) ?_
            refine Ok.okI (by omega) (by omega) ?_
            have f16 := rd_103 (i := x1.toNatClampNeg) hI (tn_lt (by omega) (by omega)) x2.toNatClampNeg
            exact Ok.some (hR 0 _ _ hI (by decide))
          · have n17 : (1 : Int32).toInt = 1 := rfl
            refine Ok.eq (fun c18 => ?_) (fun c18 => ?_)
            · refine Ok.okI (by omega) (by omega) ?_
              refine Ok.okI (by omega) (by omega) ?_
              have f19 := rd_113 (i := x1.toNatClampNeg) hI (tn_lt (by omega) (by omega)) x2.toNatClampNeg
              exact Ok.some (hR 0 _ _ hI (by decide))
            · refine Ok.okI (by omega) (by omega) ?_
              refine Ok.okI (by omega) (by omega) ?_
              have f20 := rd_123 (i := x1.toNatClampNeg) hI (tn_lt (by omega) (by omega)) x2.toNatClampNeg
              exact Ok.some (hR 0 _ _ hI (by decide))
        · exact s_j_N_uses_35 hR hI
theorem s_j_N_name_41 {bn bt : Int} {G : Sto} {P : Nat × Int32 × Sto → Prop} {M : Sto} (hR : ∀ (c : Nat) (r : Int32) (M : Sto), IX bn bt G M → c ∈ [0, 3, 2] → P (c, r, M)) (hI : IX bn bt G M) : Ok P (j_N_name_41 M) := by
  unfold j_N_name_41
  have n1 : (0 : Int32).toInt = 0 := rfl
  exact Ok.some (hR 3 _ _ (hI.mono (by omega) (by omega)) (by decide))
theorem s_j_N_name_117 {bn bt : Int} {G : Sto} {P : Nat × Int32 × Sto → Prop} {s0 : Int32} {M : Sto} (hR : ∀ (c : Nat) (r : Int32) (M : Sto), IX bn bt G M → c ∈ [0, 3, 2] → P (c, r, M)) (hI : IX bn bt G M) (r0 : 0 ≤ s0.toInt) (r1 : s0.toInt ≤ 1) : Ok P (j_N_name_117 s0 M) := by
  unfold j_N_name_117
  exact Ok.some (hR 0 _ _ (hI.mono (by omega) (by omega)) (by decide))
theorem s_m_N_name {bn bt : Int} {G : Sto} {x1 x2 : Int32} {M : Sto} (hI : IX bn bt G M) (x0_ : (bn ≤ 126)) : Ok (fun a => IX bn bt G a.2.2 ∧ a.1 ∈ [0, 3, 2]) (m_N_name x1 x2 M) := by
  have hR : ∀ (c : Nat) (r : Int32) (M : Sto), IX bn bt G M → c ∈ [0, 3, 2] → (fun a : Nat × Int32 × Sto => IX bn bt G a.2.2 ∧ a.1 ∈ [0, 3, 2]) (c, r, M) := fun c r M h1 h2 => ⟨h1, h2⟩
  unfold m_N_name
  have f1 := rd_0_6 hI
  have n2 : (0 : Int32).toInt = 0 := rfl
  refine Ok.eq (fun c3 => ?_) (fun c3 => ?_)
  · exact Ok.some (hR 2 _ _ (hI.mono (by omega) (by omega)) (by decide))
  · refine Ok.lt (fun c4 => ?_) (fun c4 => ?_)
    · exact s_j_N_name_41 (bn := bn) (bt := bt) hR (hI.mono (by omega) (by omega))
    · have f5 := rd_3_2 hI
      refine Ok.le (fun c6 => ?_) (fun c6 => ?_)
      · exact s_j_N_name_41 (bn := bn) (bt := bt) hR (hI.mono (by omega) (by omega))
      · refine Ok.lt (fun c7 => ?_) (fun c7 => ?_)
        · exact s_j_N_name_41 (bn := bn) (bt := bt) hR (hI.mono (by omega) (by omega))
        · have n8 : (3 : Int32).toInt = 3 := rfl
          refine Ok.le (fun c9 => ?_) (fun c9 => ?_)
          · refine Ok.eq (fun c10 => ?_) (fun c10 => ?_)
            · refine Ok.okI (by omega) (by omega) ?_
              exact Ok.some (hR 0 _ _ (hI.mono (by omega) (by omega)) (by decide))
            · have n11 : (1 : Int32).toInt = 1 := rfl
              refine Ok.eq (fun c12 => ?_) (fun c12 => ?_)
              · refine Ok.okI (by omega) (by omega) ?_
                exact Ok.some (hR 0 _ _ (hI.mono (by omega) (by omega)) (by decide))
              · have n13 : (2 : Int32).toInt = 2 := rfl
                refine Ok.eq (fun c14 => ?_) (fun c14 => ?_)
                · refine Ok.okI (by omega) (by omega) ?_
                  have f15 := rd_27 hI x1.toNatClampNeg
                  refine Ok.eq (fun c16 => ?_) (fun c16 => ?_)
                  · exact s_j_N_name_117 (bn := bn) (bt := bt) (s0 := 0) hR (hI.mono (by omega) (by omega)) (by omega) (by omega)
                  · exact s_j_N_name_117 (bn := bn) (bt := bt) (s0 := 1) hR (hI.mono (by omega) (by omega)) (by omega) (by omega)
                · refine Ok.okI (by omega) (by omega) ?_
                  have f17 := rd_21 hI x1.toNatClampNeg
                  exact Ok.some (hR 0 _ _ (hI.mono (by omega) (by omega)) (by decide))
          · exact s_j_N_name_41 (bn := bn) (bt := bt) hR (hI.mono (by omega) (by omega))
theorem s_j_N_run_11 {bn bt : Int} {G : Sto} {P : Nat × Int32 × Sto → Prop} {M : Sto} (hR : ∀ (c : Nat) (r : Int32) (M : Sto), IX bn bt G M → c ∈ [0, 1, 2] → P (c, r, M)) (hI : IX bn bt G M) : Ok P (j_N_run_11 M) := by
  unfold j_N_run_11
  have n1 : (0 : Int32).toInt = 0 := rfl
  exact Ok.some (hR 1 _ _ (hI.mono (by omega) (by omega)) (by decide))
theorem s_j_N_run_55 {bn bt : Int} {G : Sto} {P : Nat × Int32 × Sto → Prop} {s0 : Int32} {M : Sto} (hR : ∀ (c : Nat) (r : Int32) (M : Sto), IX bn bt G M → c ∈ [0, 1, 2] → P (c, r, M)) (hI : IX bn bt G M) (r0 : 0 ≤ s0.toInt) (r1 : s0.toInt ≤ 1) : Ok P (j_N_run_55 s0 M) := by
  unfold j_N_run_55
  exact Ok.some (hR 0 _ _ (hI.mono (by omega) (by omega)) (by decide))
theorem s_m_N_run {bn bt : Int} {G : Sto} {x1 x2 : Int32} {M : Sto} (hI : IX bn bt G M) (x0_ : (1200 ≤ bt)) : Ok (fun a => IX bn bt G a.2.2 ∧ a.1 ∈ [0, 1, 2]) (m_N_run x1 x2 M) := by
  have hR : ∀ (c : Nat) (r : Int32) (M : Sto), IX bn bt G M → c ∈ [0, 1, 2] → (fun a : Nat × Int32 × Sto => IX bn bt G a.2.2 ∧ a.1 ∈ [0, 1, 2]) (c, r, M) := fun c r M h1 h2 => ⟨h1, h2⟩
  unfold m_N_run
  have n1 : (0 : Int32).toInt = 0 := rfl
  refine Ok.lt (fun c2 => ?_) (fun c2 => ?_)
  · exact s_j_N_run_11 (bn := bn) (bt := bt) hR (hI.mono (by omega) (by omega))
  · have n3 : (200 : Int32).toInt = 200 := rfl
    refine Ok.le (fun c4 => ?_) (fun c4 => ?_)
    · have f5 := rd_0_6 hI
      refine Ok.eq (fun c6 => ?_) (fun c6 => ?_)
      · exact Ok.some (hR 2 _ _ (hI.mono (by omega) (by omega)) (by decide))
      · refine Ok.bind (s_m_A_execute (x1 := x1) (x2 := x2) hI (by omega) (by omega)) (fun r7 M8 q9 => ?_)
        dsimp only at q9
        obtain ⟨q10, q11, q12⟩ := q9
        dsimp only
        refine Ok.eq (fun c13 => ?_) (fun c13 => ?_)
        · have n14 : (1 : Int32).toInt = 1 := rfl
          exact s_j_N_run_55 (bn := bn) (bt := bt) (s0 := 1) hR (q10.mono (by omega) (by omega)) (by omega) (by omega)
        · exact s_j_N_run_55 (bn := bn) (bt := bt) (s0 := 0) hR (q10.mono (by omega) (by omega)) (by omega) (by omega)
    · exact s_j_N_run_11 (bn := bn) (bt := bt) hR (hI.mono (by omega) (by omega))
theorem s_m_N_told {bn bt : Int} {G : Sto} {M : Sto} (hI : IX bn bt G M) (x0_ : (bt ≤ 100000)) : Ok (fun a => M = a.2 ∧ 0 ≤ a.1.toInt ∧ a.1.toInt ≤ 100000) (m_N_told M) := by
  have hR : ∀ r : Int32, 0 ≤ r.toInt → r.toInt ≤ 100000 → (fun a : Int32 × Sto => M = a.2 ∧ 0 ≤ a.1.toInt ∧ a.1.toInt ≤ 100000) (r, M) := fun r h0 h1 => ⟨rfl, h0, h1⟩
  unfold m_N_told
  have f1 := rd_6_9 hI
  exact Ok.some (hR (M 6 9) (by omega) (by omega))
theorem s_j_N_heard_21 {bn bt : Int} {G : Sto} {P : Nat × Int32 × Sto → Prop} {M : Sto} (hR : ∀ (c : Nat) (r : Int32) (M : Sto), IX bn bt G M → c ∈ [0, 3] → P (c, r, M)) (hI : IX bn bt G M) : Ok P (j_N_heard_21 M) := by
  unfold j_N_heard_21
  have n1 : (0 : Int32).toInt = 0 := rfl
  exact Ok.some (hR 3 _ _ hI (by decide))
theorem s_m_N_heard {bn bt : Int} {G : Sto} {x1 : Int32} {M : Sto} (hI : IX bn bt G M) : Ok (fun a => IX bn bt G a.2.2 ∧ a.1 ∈ [0, 3]) (m_N_heard x1 M) := by
  have hR : ∀ (c : Nat) (r : Int32) (M : Sto), IX bn bt G M → c ∈ [0, 3] → (fun a : Nat × Int32 × Sto => IX bn bt G a.2.2 ∧ a.1 ∈ [0, 3]) (c, r, M) := fun c r M h1 h2 => ⟨h1, h2⟩
  unfold m_N_heard
  have n1 : (0 : Int32).toInt = 0 := rfl
  refine Ok.lt (fun c2 => ?_) (fun c2 => ?_)
  · exact s_j_N_heard_21 hR hI
  · have n3 : (40 : Int32).toInt = 40 := rfl
    refine Ok.le (fun c4 => ?_) (fun c4 => ?_)
    · exact s_j_N_heard_21 hR hI
    · have f5 := rd_6_9 hI
      refine Ok.lt (fun c6 => ?_) (fun c6 => ?_)
      · refine Ok.okI (by omega) (by omega) ?_
        exact Ok.some (hR 0 _ _ hI (by decide))
      · exact s_j_N_heard_21 hR hI
theorem s_m_N_spent {bn bt : Int} {G : Sto} {x1 : Int32} {M : Sto} (hI : IX bn bt G M) : Ok (fun a => M = a.2) (m_N_spent x1 M) := by
  have hR : ∀ r : Int32, (fun a : Int32 × Sto => M = a.2) (r, M) := fun r => rfl
  unfold m_N_spent
  have n1 : (0 : Int32).toInt = 0 := rfl
  refine Ok.eq (fun c2 => ?_) (fun c2 => ?_)
  · exact Ok.some (hR (M 6 11))
  · have n3 : (1 : Int32).toInt = 1 := rfl
    refine Ok.eq (fun c4 => ?_) (fun c4 => ?_)
    · exact Ok.some (hR (M 6 12))
    · have n5 : (2 : Int32).toInt = 2 := rfl
      refine Ok.eq (fun c6 => ?_) (fun c6 => ?_)
      · have f7 := rd_6_13 hI
        exact Ok.some (hR (M 6 13))
      · have n8 : ((-1) : Int32).toInt = (-1) := rfl
        exact Ok.some (hR (-1))
end
section
def bt (x : Int32) (b : Nat) : Bool := x.toBitVec.getLsbD b
theorem bt_or (x y : Int32) (b : Nat) : bt (x ||| y) b = (bt x b || bt y b) := by
  unfold bt; rw [Int32.toBitVec_or, BitVec.getLsbD_or]
theorem bt_and (x y : Int32) (b : Nat) : bt (x &&& y) b = (bt x b && bt y b) := by
  unfold bt; rw [Int32.toBitVec_and, BitVec.getLsbD_and]
theorem bt_ext {x y : Int32} (h : ∀ b, b < 32 → bt x b = bt y b) : x = y := by
  apply Int32.toBitVec_inj.mp
  apply BitVec.eq_of_getLsbD_eq
  intro i hi
  exact h i hi
theorem bt_zero (b : Nat) : bt 0 b = false := by unfold bt; simp
theorem bt_one (b : Nat) : bt 1 b = decide (b = 0) := by
  unfold bt
  show (BitVec.ofNat 32 1).getLsbD b = _
  rw [BitVec.getLsbD_one]
  by_cases h : b = 0 <;> simp [h]
theorem sh_ok : ∀ i, i < 10 → (nJ i &&& 31).toBitVec.smod 32 = BitVec.ofNat 32 i := by decide
theorem bt_shl {i : Nat} (hi : i < 10) (b : Nat) (hb : b < 32) : bt ((1 : Int32) <<< (nJ i &&& 31)) b = decide (b = i) := by
  have h : ∀ i, i < 10 → ∀ b, b < 32 → bt ((1 : Int32) <<< (nJ i &&& 31)) b = decide (b = i) := by decide +kernel
  exact h i hi b hb
theorem bt_big {x : Int32} {b : Nat} (h : 32 ≤ b) : bt x b = false := BitVec.getLsbD_of_ge _ _ h
theorem has_bit (x : Int32) {i : Nat} (hi : i < 10) : (((x >>> (nJ i &&& 31)) &&& 1) = 1) ↔ bt x i = true := by
  have h1 : bt (x >>> (nJ i &&& 31)) 0 = bt x i := by
    unfold bt
    rw [Int32.toBitVec_shiftRight, sh_ok i hi]
    show (BitVec.sshiftRight' _ _).getLsbD 0 = _
    rw [BitVec.sshiftRight', BitVec.getLsbD_sshiftRight]
    have : (BitVec.ofNat 32 i).toNat = i := by simp; omega
    rw [this]
    simp
    intro h; omega
  rw [← h1]
  constructor
  · intro h
    have : bt ((x >>> (nJ i &&& 31)) &&& 1) 0 = true := by rw [h]; decide
    rw [bt_and] at this
    simp at this
    exact this.1
  · intro h
    apply bt_ext
    intro b hb
    rw [bt_and, bt_one]
    by_cases z : b = 0
    · subst z; rw [h]; rfl
    · simp [z]
def cb (x : Int32) : Int := cnt (fun b => if bt x b then 1 else 0) 10
theorem cnt_mono {f g : Nat → Int32} : ∀ n, (∀ b, b < n → f b ≠ 0 → g b ≠ 0) → cnt f n ≤ cnt g n
  | 0, _ => Int.le_refl 0
  | n + 1, h => by
    have := cnt_mono n (fun b hb => h b (by omega))
    unfold cnt
    by_cases h1 : f n = 0
    · rw [if_pos h1]
      by_cases h2 : g n = 0
      · rw [if_pos h2]; omega
      · rw [if_neg h2]; omega
    · rw [if_neg h1, if_neg (h n (by omega) h1)]; omega
theorem cnt_more {f g : Nat → Int32} {j : Nat} (hf : f j = 0) (hg : g j ≠ 0) : ∀ n, j < n → (∀ b, b < n → f b ≠ 0 → g b ≠ 0) → cnt f n < cnt g n
  | 0, h, _ => absurd h (Nat.not_lt_zero _)
  | n + 1, hj, h => by
    unfold cnt
    by_cases e : j = n
    · subst e
      have := cnt_mono j (fun b hb => h b (by omega))
      rw [if_pos hf, if_neg hg]; omega
    · have := cnt_more hf hg n (by omega) (fun b hb => h b (by omega))
      by_cases h1 : f n = 0
      · rw [if_pos h1]
        by_cases h2 : g n = 0
        · rw [if_pos h2]; omega
        · rw [if_neg h2]; omega
      · rw [if_neg h1, if_neg (h n (by omega) h1)]; omega
theorem cb_mono {x y : Int32} (h : ∀ b, b < 10 → bt x b = true → bt y b = true) : cb x ≤ cb y := by
  refine cnt_mono 10 fun b hb hx => ?_
  by_cases q : bt x b = true
  · rw [if_pos (h b hb q)]; decide
  · rw [if_neg q] at hx; exact absurd rfl hx
theorem cb_more {x y : Int32} {j : Nat} (hj : j < 10) (h1 : bt x j = false) (h2 : bt y j = true) (h : ∀ b, b < 10 → bt x b = true → bt y b = true) : cb x < cb y := by
  refine cnt_more (j := j) (by rw [h1]; rfl) (by rw [h2]; decide) 10 hj fun b hb hx => ?_
  by_cases q : bt x b = true
  · rw [if_pos (h b hb q)]; decide
  · rw [if_neg q] at hx; exact absurd rfl hx
theorem cb_ge (x : Int32) : 0 ≤ cb x := cnt_ge _ _
theorem cb_le (x : Int32) : cb x ≤ 10 := cnt_le _ _
def lev (E : Nat → Nat → Prop) (av : Nat → Prop) : Nat → Nat → Prop
  | 0, c => c = 0 ∧ ¬ av 0
  | r + 1, c => lev E av r c ∨ ∃ p, p < 10 ∧ lev E av r p ∧ E p c ∧ ¬ av c
theorem lev_up {E : Nat → Nat → Prop} {av : Nat → Prop} {r c : Nat} (h : lev E av r c) : ∀ d, lev E av (r + d) c
  | 0 => h
  | d + 1 => Or.inl (lev_up h d)
theorem lev_av {E : Nat → Nat → Prop} {av : Nat → Prop} : ∀ {r c : Nat}, lev E av r c → ¬ av c
  | 0, _, h => h.1 ▸ h.2
  | _ + 1, _, h => h.elim (fun h => lev_av h) fun h => h.elim fun _ h => h.2.2.2
theorem lev_idle {E : Nat → Nat → Prop} {av : Nat → Prop} {r : Nat} (h : ∀ c, c < 10 → lev E av (r + 1) c → lev E av r c) : ∀ d c, c < 10 → lev E av (r + d) c → lev E av r c
  | 0, _, _, h2 => h2
  | d + 1, c, hc, h2 => by
    rcases h2 with h2 | ⟨p, p1, p2, p3, p4⟩
    · exact lev_idle h d c hc h2
    · exact h c hc (Or.inr ⟨p, p1, lev_idle h d p p1 p2, p3, p4⟩)
theorem lev_stab {E : Nat → Nat → Prop} {av : Nat → Prop} {r c : Nat} (hc : c < 10) (h : lev E av r c) : lev E av 10 c := by
  by_cases hi : ∃ s, s ≤ 10 ∧ ∀ c, c < 10 → lev E av (s + 1) c → lev E av s c
  · obtain ⟨s, s1, s2⟩ := hi
    have : lev E av s c := by
      by_cases q : r ≤ s
      · rw [show s = r + (s - r) by omega]; exact lev_up h _
      · rw [show r = s + (r - s) by omega] at h; exact lev_idle s2 _ c hc h
    rw [show 10 = s + (10 - s) by omega]; exact lev_up this _
  · exfalso
    have hcnt : ∀ s : Nat, s ≤ 11 → (s : Int) ≤ cnt (fun c => @ite Int32 (lev E av s c) (Classical.propDecidable _) 1 0) 10 := by
      intro s
      induction s with
      | zero => intro _; exact cnt_ge _ _
      | succ s ih =>
        intro hs
        have h1 := ih (by omega)
        have h2 : ∃ c, c < 10 ∧ lev E av (s + 1) c ∧ ¬ lev E av s c := by
          apply Classical.byContradiction
          intro hno
          exact hi ⟨s, by omega, fun c hc hl => Classical.byContradiction fun q => hno ⟨c, hc, hl, q⟩⟩
        obtain ⟨c, c1, c2, c3⟩ := h2
        have := cnt_more (f := fun c => @ite Int32 (lev E av s c) (Classical.propDecidable _) 1 0) (g := fun c => @ite Int32 (lev E av (s + 1) c) (Classical.propDecidable _) 1 0) (j := c) (by simp [c3]) (by simp [c2]) 10 c1 (fun b hb hx => by
          by_cases q : lev E av s b
          · have : lev E av (s + 1) b := Or.inl q
            simp [this]
          · simp [q] at hx)
        omega
    have h1 := hcnt 11 (by omega)
    have h2 := cnt_le (fun c => @ite Int32 (lev E av 11 c) (Classical.propDecidable _) 1 0) 10
    omega
end
section
def Fr (L L0 : List Nat) (M M' : Sto) : Prop := (∀ k, k ≠ 0 → k ∉ L → M' k = M k) ∧ (∀ j, j ∉ L0 → M' 0 j = M 0 j)
theorem Fr.rfl {L L0 : List Nat} {M : Sto} : Fr L L0 M M := ⟨fun _ _ _ => Eq.refl _, fun _ _ => Eq.refl _⟩
theorem Fr.trans {L L0 : List Nat} {M M1 M2 : Sto} (h1 : Fr L L0 M M1) (h2 : Fr L L0 M1 M2) : Fr L L0 M M2 :=
  ⟨fun k a b => (h2.1 k a b).trans (h1.1 k a b), fun j a => (h2.2 j a).trans (h1.2 j a)⟩
theorem Fr.mono {L L0 L' L0' : List Nat} {M M1 : Sto} (h : Fr L L0 M M1) (h1 : ∀ k, k ∈ L → k ∈ L') (h2 : ∀ k, k ∈ L0 → k ∈ L0') : Fr L' L0' M M1 :=
  ⟨fun k a b => h.1 k a (fun q => b (h1 k q)), fun j a => h.2 j (fun q => a (h2 j q))⟩
theorem Fr.up {L L0 : List Nat} {M M1 : Sto} {k j : Nat} {v : Int32} (h : Fr L L0 M M1) (hk : k ≠ 0) (hm : k ∈ L) : Fr L L0 M (up2 M1 k j v) :=
  ⟨fun a a0 ha => by rw [up2_ne _ _ _ (fun q : a = k => ha (by rw [q]; exact hm))]; exact h.1 a a0 ha, fun b hb => by rw [up2_ne _ _ _ (Ne.symm hk)]; exact h.2 b hb⟩
theorem Fr.up0 {L L0 : List Nat} {M M1 : Sto} {j : Nat} {v : Int32} (h : Fr L L0 M M1) (hm : j ∈ L0) : Fr L L0 M (up2 M1 0 j v) :=
  ⟨fun a a0 ha => by rw [up2_ne _ _ _ a0]; exact h.1 a a0 ha, fun b hb => by rw [up2_at, if_neg (fun q : (0 = 0 ∧ b = j) => hb (by rw [q.2]; exact hm))]; exact h.2 b hb⟩
def PF (M : Sto) (B : Nat) : Prop := (B ≤ 10) ∧ (M 0 1 = nJ B) ∧ (∀ b, b < 10 → ∃ n, n ≤ 6 ∧ M 1 b = nJ n) ∧ (∀ b, b < B → M 6 b = 0 ∨ (M 6 b = 1 ∧ ∃ t, 0 < t ∧ t < B ∧ M 8 b = nJ t) ∨ (M 6 b = 2 ∧ (∃ t, 0 < t ∧ t < B ∧ M 8 b = nJ t) ∧ (∃ t, 0 < t ∧ t < B ∧ M 9 b = nJ t) ∧ (∃ v, v < 6 ∧ M 7 b = nJ v))) ∧ (∀ j, ∃ n, n < 8 ∧ M 2 j = nJ n) ∧ (∀ j, M 2 j ≠ 7 → ∃ n, n < 6 ∧ M 3 j = nJ n) ∧ (∀ j, M 2 j ≠ 0 → M 2 j ≠ 6 → ∃ n, n < 6 ∧ M 4 j = nJ n) ∧ (∀ j, M 2 j ≠ 0 → M 2 j ≠ 1 → M 2 j ≠ 6 → M 2 j ≠ 7 → ∃ n, n < 6 ∧ M 5 j = nJ n) ∧ (∃ n, n ≤ 16 ∧ M 0 32 = nJ n)
theorem PF.hB {M : Sto} {B : Nat} (h : PF M B) : B ≤ 10 := h.1
theorem PF.blk {M : Sto} {B : Nat} (h : PF M B) : M 0 1 = nJ B := h.2.1
theorem PF.len {M : Sto} {B : Nat} (h : PF M B) : ∀ b, b < 10 → ∃ n, n ≤ 6 ∧ M 1 b = nJ n := h.2.2.1
theorem PF.fin {M : Sto} {B : Nat} (h : PF M B) : ∀ b, b < B → M 6 b = 0 ∨ (M 6 b = 1 ∧ ∃ t, 0 < t ∧ t < B ∧ M 8 b = nJ t) ∨ (M 6 b = 2 ∧ (∃ t, 0 < t ∧ t < B ∧ M 8 b = nJ t) ∧ (∃ t, 0 < t ∧ t < B ∧ M 9 b = nJ t) ∧ (∃ v, v < 6 ∧ M 7 b = nJ v)) := h.2.2.2.1
theorem PF.knd {M : Sto} {B : Nat} (h : PF M B) : ∀ j, ∃ n, n < 8 ∧ M 2 j = nJ n := h.2.2.2.2.1
theorem PF.dst {M : Sto} {B : Nat} (h : PF M B) : ∀ j, M 2 j ≠ 7 → ∃ n, n < 6 ∧ M 3 j = nJ n := h.2.2.2.2.2.1
theorem PF.fst {M : Sto} {B : Nat} (h : PF M B) : ∀ j, M 2 j ≠ 0 → M 2 j ≠ 6 → ∃ n, n < 6 ∧ M 4 j = nJ n := h.2.2.2.2.2.2.1
theorem PF.snd {M : Sto} {B : Nat} (h : PF M B) : ∀ j, M 2 j ≠ 0 → M 2 j ≠ 1 → M 2 j ≠ 6 → M 2 j ≠ 7 → ∃ n, n < 6 ∧ M 5 j = nJ n := h.2.2.2.2.2.2.2.1
theorem PF.inp {M : Sto} {B : Nat} (h : PF M B) : ∃ n, n ≤ 16 ∧ M 0 32 = nJ n := h.2.2.2.2.2.2.2.2
def PL : List Nat := [10, 11, 12, 13, 14, 15, 16, 17, 18, 19, 20, 21, 22, 23, 24, 25, 26, 28, 29, 30]
def PL0 : List Nat := [0, 11, 12, 17, 27, 34, 35, 37, 38]
theorem PF.fr {M M' : Sto} {B : Nat} (h : PF M B) (f : Fr PL PL0 M M') : PF M' B := by
  have e1 := f.1 1 (by decide) (by decide)
  have e2 := f.1 2 (by decide) (by decide)
  have e3 := f.1 3 (by decide) (by decide)
  have e4 := f.1 4 (by decide) (by decide)
  have e5 := f.1 5 (by decide) (by decide)
  have e6 := f.1 6 (by decide) (by decide)
  have e7 := f.1 7 (by decide) (by decide)
  have e8 := f.1 8 (by decide) (by decide)
  have e9 := f.1 9 (by decide) (by decide)
  have z1 := f.2 1 (by decide)
  have z2 := f.2 32 (by decide)
  obtain ⟨a1, a2, a3, a4, a5, a6, a7, a8, a9⟩ := h
  exact ⟨a1, by rw [z1]; exact a2, by rw [e1]; exact a3, by rw [e6, e7, e8, e9]; exact a4, by rw [e2]; exact a5, by rw [e2, e3]; exact a6, by rw [e2, e4]; exact a7, by rw [e2, e5]; exact a8, by rw [z2]; exact a9⟩
theorem Ok.has {α : Type} {P : α → Prop} {x : Int32} {i : Nat} {M : Sto} {X Y : Int32 × Sto → Option α} (hi : i < 10) (h1 : bt x i = true → Ok P (Y (1, M))) (h0 : bt x i = false → Ok P (X (0, M))) :
    Ok P ((m_R_has x (nJ i) M).bind fun o => if o.1 = 0 then X o else Y o) := by
  unfold m_R_has
  by_cases h : bt x i = true
  · rw [if_pos ((has_bit x hi).mpr h)]; exact h1 h
  · rw [if_neg (fun q => h ((has_bit x hi).mp q))]; exact h0 (by simpa using h)
theorem Ok.bindS {α β : Type} {P : β → Prop} {a : α} {f : α → Option β} (h : Ok P (f a)) : Ok P (Option.bind (Option.some a) f) := h
theorem Ok.okN {α : Type} {P : α → Prop} {i n : Nat} {X : Option α} (hi : i < n) (hn : n < 1000) (h : Ok P X) : Ok P (if ok (nJ i) n = true then X else none) := by
  have := nJ_int (i := i) (by omega)
  exact Ok.okI (by omega) (by omega) h
theorem Ok.okE {α : Type} {P : α → Prop} {v : Int32} {i n : Nat} {X : Option α} (e : v = nJ i) (hi : i < n) (hn : n < 1000) (h : Ok P X) : Ok P (if ok v n = true then X else none) := by
  subst e; exact Ok.okN hi hn h
theorem Ok.leN {α : Type} {P : α → Prop} {a b : Nat} {d : Decidable (nJ a ≤ nJ b)} {X Y : Option α} (ha : a < 1000000) (hb : b < 1000000) (h1 : a ≤ b → Ok P X) (h2 : b < a → Ok P Y) : Ok P (@ite _ (nJ a ≤ nJ b) d X Y) := by
  have := nJ_int (i := a) (by omega)
  have := nJ_int (i := b) (by omega)
  exact Ok.le (fun c => h1 (by omega)) (fun c => h2 (by omega))
theorem Ok.ltN {α : Type} {P : α → Prop} {a b : Nat} {d : Decidable (nJ a < nJ b)} {X Y : Option α} (ha : a < 1000000) (hb : b < 1000000) (h1 : a < b → Ok P X) (h2 : b ≤ a → Ok P Y) : Ok P (@ite _ (nJ a < nJ b) d X Y) := by
  have := nJ_int (i := a) (by omega)
  have := nJ_int (i := b) (by omega)
  exact Ok.lt (fun c => h1 (by omega)) (fun c => h2 (by omega))
theorem Ok.ifE {α : Type} {P : α → Prop} {a b : Int32} {d : Decidable (a = b)} {X Y : Option α} (h1 : a = b → Ok P X) (h2 : a ≠ b → Ok P Y) : Ok P (@ite _ (a = b) d X Y) := by
  by_cases h : a = b
  · rw [if_pos h]; exact h1 h
  · rw [if_neg h]; exact h2 h
theorem Ok.bzt {α : Type} {P : α → Prop} {v : Int32} {X : Option α} (hv : v = 0 ∨ v = 1) (h : Ok P X) : Ok P (if bz v = true then X else none) := by
  rw [if_pos (show bz v = true from decide_eq_true hv)]; exact h
theorem okN_t {i n : Nat} (hi : i < n) (hn : n < 1000) : ok (nJ i) n = true := by
  have := nJ_int (i := i) (by omega)
  exact ok_of (by omega) (by omega)
def lead (M : Sto) (b : Nat) : Int32 := if M 6 b = 0 then 0 else if M 6 b = 1 then 1 <<< ((M 8 b) &&& 31) else (1 <<< ((M 8 b) &&& 31)) ||| (1 <<< ((M 9 b) &&& 31))
theorem lead_eq {M : Sto} {b : Nat} (hb : b < 10) : m_R_leadsTo (nJ b) M = some (lead M b, M) := by
  unfold m_R_leadsTo lead j_R_leadsTo_51
  rw [nJ_tn (by omega), okN_t hb (by decide)]
  simp only [if_true]
  by_cases h : M 6 b = 0
  · simp only [h, if_true]
  · by_cases h2 : M 6 b = 1
    · simp [h2]
    · simp [h, h2]
theorem lead_lt {M : Sto} {B b c : Nat} (h : PF M B) (hb : b < B) (hc : c < 32) (hl : bt (lead M b) c = true) : 0 < c ∧ c < B := by
  have hB := h.hB
  unfold lead at hl
  rcases h.fin b hb with e | ⟨e, t, t0, t1, t2⟩ | ⟨e, ⟨t, t0, t1, t2⟩, ⟨u, u0, u1, u2⟩, _⟩
  · rw [if_pos e, bt_zero] at hl; cases hl
  · rw [if_neg (by rw [e]; decide), if_pos e, t2, bt_shl (by omega) c hc] at hl
    have := of_decide_eq_true hl
    omega
  · rw [if_neg (by rw [e]; decide), if_neg (by rw [e]; decide), t2, u2, bt_or, bt_shl (by omega) c hc, bt_shl (by omega) c hc] at hl
    rcases Bool.or_eq_true_iff.mp hl with q | q
    · have := of_decide_eq_true q; omega
    · have := of_decide_eq_true q; omega
theorem lead_fr {M M' : Sto} (e6 : M' 6 = M 6) (e8 : M' 8 = M 8) (e9 : M' 9 = M 9) (b : Nat) : lead M' b = lead M b := by unfold lead; rw [e6, e8, e9]
def Ed (M : Sto) (B : Nat) (b c : Nat) : Prop := b < B ∧ bt (lead M b) c = true
def Rch (M : Sto) (B : Nat) (c : Nat) : Prop := ∃ r, lev (Ed M B) (fun _ => False) r c
theorem lev_lt {M : Sto} {B : Nat} {av : Nat → Prop} (h : PF M B) (h0 : 0 < B) : ∀ {r c : Nat}, lev (Ed M B) av r c → c < 32 → c < B
  | 0, _, h2, _ => by rw [h2.1]; exact h0
  | r + 1, c, h2, hc => h2.elim (fun q => lev_lt h h0 q hc) fun ⟨p, _, _, p3, _⟩ => (lead_lt h p3.1 hc p3.2).2
theorem r_reaches15 {P : Int32 × Sto → Prop} {k : Int32 → Sto → Option (Int32 × Sto)} {G : Sto} {B r : Nat} {v1 : Int32} (hP : PF G B) (h0 : 0 < B)
    (hk : ∀ M, Fr [] [12] G M → (∀ c, c < 10 → lev (Ed G B) (fun _ => False) (r + 1) c → bt (M 0 12) c = true) → (∀ c, c < 32 → bt (M 0 12) c = true → c < 10 ∧ Rch G B c) → Ok P (k v1 M)) :
    ∀ n i M, Fr [] [12] G M → (∀ c, c < 10 → lev (Ed G B) (fun _ => False) r c → bt (M 0 12) c = true) → (∀ c, c < 32 → bt (M 0 12) c = true → c < 10 ∧ Rch G B c) → (∀ p c, p < i → c < 10 → lev (Ed G B) (fun _ => False) r p → Ed G B p c → bt (M 0 12) c = true) → i ≤ B → B - i < n → Ok P (l_R_reaches_15 k n v1 (nJ i) M) := by
  intro n
  have hB := hP.hB
  induction n with
  | zero => intro i M _ _ _ _ h1 h2; omega
  | succ n ih =>
    intro i M hf h1 h2 h3 hi hn
    unfold l_R_reaches_15
    rw [hf.2 1 (by decide), hP.blk]
    refine Ok.leN (by omega) (by omega) (fun c => ?_) (fun c => ?_)
    · refine hk M hf (fun c hc hl => ?_) h2
      rcases hl with hl | ⟨p, p1, p2, p3, _⟩
      · exact h1 c hc hl
      · exact h3 p c (by have := lev_lt hP h0 p2 (by omega); omega) hc p2 p3
    unfold j_R_reaches_48
    rw [nJ_succ (by omega)]
    have hlf : lead M i = lead G i := lead_fr (hf.1 6 (by decide) (by decide)) (hf.1 8 (by decide) (by decide)) (hf.1 9 (by decide) (by decide)) i
    refine Ok.has (by omega) (fun hb => ?_) (fun hb => ?_)
    · dsimp only
      rw [lead_eq (by omega), hlf]
      refine Ok.bindS ?_
      dsimp only
      refine Ok.wr (fun M1 q1 => ?_)
      have e12 : M1 0 12 = M 0 12 ||| lead G i := by rw [q1, up2_at, if_pos ⟨Eq.refl _, Eq.refl _⟩]
      refine ih (i + 1) M1 (by rw [q1]; exact hf.up0 (by decide)) (fun c hc hl => ?_) (fun c hc hl => ?_) (fun p c hp hc hl he => ?_) (by omega) (by omega)
      · rw [e12, bt_or, h1 c hc hl]; exact Bool.true_or _
      · rw [e12, bt_or] at hl
        rcases Bool.or_eq_true_iff.mp hl with q | q
        · exact h2 c hc q
        · have hc2 := lead_lt hP (by omega) hc q
          obtain ⟨_, s, hs⟩ := h2 i (by omega) hb
          exact ⟨by omega, s + 1, Or.inr ⟨i, by omega, hs, ⟨by omega, q⟩, fun z => z⟩⟩
      · rw [e12, bt_or]
        by_cases z : p = i
        · subst z; rw [he.2]; exact Bool.or_true _
        · rw [h3 p c (by omega) hc hl he]; exact Bool.true_or _
    · refine ih (i + 1) M hf h1 h2 (fun p c hp hc hl he => ?_) (by omega) (by omega)
      by_cases z : p = i
      · subst z
        have := h1 p (by omega) hl
        rw [hb] at this; cases this
      · exact h3 p c (by omega) hc hl he
theorem r_reaches7 {P : Int32 × Sto → Prop} {k : Sto → Option (Int32 × Sto)} {G : Sto} {B : Nat} (hP : PF G B) (h0 : 0 < B)
    (hk : ∀ M, Fr [] [12] G M → (∀ c, c < 32 → (bt (M 0 12) c = true ↔ c < 10 ∧ Rch G B c)) → Ok P (k M)) :
    ∀ n r M, Fr [] [12] G M → (∀ c, c < 10 → lev (Ed G B) (fun _ => False) r c → bt (M 0 12) c = true) → (∀ c, c < 32 → bt (M 0 12) c = true → c < 10 ∧ Rch G B c) → r ≤ 10 → 10 - r < n → Ok P (l_R_reaches_7 k n (nJ r) M) := by
  intro n
  have hB := hP.hB
  induction n with
  | zero => intro r M _ _ _ h1 h2; omega
  | succ n ih =>
    intro r M hf h1 h2 hr hn
    unfold l_R_reaches_7
    refine Ok.leN (a := 10) (by omega) (by omega) (fun c => ?_) (fun c => ?_)
    · refine hk M hf (fun c hc => ⟨h2 c hc, fun q => ?_⟩)
      obtain ⟨q1, s, hs⟩ := q
      refine h1 c q1 ?_
      rw [show r = 10 by omega]
      exact lev_stab q1 hs
    refine r_reaches15 (r := r) hP h0 (fun M1 f1 g1 g2 => ?_) FU 0 M hf h1 h2 (fun p c hp => by omega) (by omega) (by unfold FU; omega)
    unfold j_R_reaches_54
    rw [nJ_succ (by omega)]
    exact ih (r + 1) M1 f1 g1 g2 (by omega) (by omega)
theorem r_reaches79 {P : Int32 × Sto → Prop} {k : Int32 → Sto → Option (Int32 × Sto)} {G : Sto} {B c : Nat} (hP : PF G B) (hc : c < B)
    (hk : ∀ M, Fr [11] [] G M → (∀ b, b ≠ c → M 11 b = G 11 b) → (∀ p, p < 32 → (bt (M 11 c) p = true ↔ p < B ∧ bt (G 0 12) p = true ∧ Ed G B p c)) → Ok P (k (nJ c) M)) :
    ∀ n i M, Fr [11] [] G M → (∀ b, b ≠ c → M 11 b = G 11 b) → (∀ p, p < 32 → (bt (M 11 c) p = true ↔ p < i ∧ bt (G 0 12) p = true ∧ Ed G B p c)) → i ≤ B → B - i < n → Ok P (l_R_reaches_79 k n (nJ c) (nJ i) M) := by
  intro n
  have hB := hP.hB
  induction n with
  | zero => intro i M _ _ _ h1 h2; omega
  | succ n ih =>
    intro i M hf h1 h2 hi hn
    unfold l_R_reaches_79
    rw [hf.2 1 (by decide), hP.blk, hf.2 12 (by decide)]
    refine Ok.leN (by omega) (by omega) (fun q => ?_) (fun q => ?_)
    · have : i = B := by omega
      subst this
      exact hk M hf h1 h2
    unfold j_R_reaches_122
    rw [nJ_succ (by omega)]
    have hlf : lead M i = lead G i := lead_fr (hf.1 6 (by decide) (by decide)) (hf.1 8 (by decide) (by decide)) (hf.1 9 (by decide) (by decide)) i
    have skip : ¬ (bt (G 0 12) i = true ∧ Ed G B i c) → ∀ p, p < 32 → (bt (M 11 c) p = true ↔ p < i + 1 ∧ bt (G 0 12) p = true ∧ Ed G B p c) := by
      intro hno p hp
      rw [h2 p hp]
      constructor
      · rintro ⟨a, b⟩; exact ⟨by omega, b⟩
      · rintro ⟨a, b⟩
        by_cases z : p = i
        · subst z; exact absurd b hno
        · exact ⟨by omega, b⟩
    refine Ok.has (by omega) (fun hb => ?_) (fun hb => ?_)
    · dsimp only
      rw [lead_eq (by omega), hlf]
      refine Ok.bindS ?_
      dsimp only
      refine Ok.has (by omega) (fun hb2 => ?_) (fun hb2 => ?_)
      · dsimp only
        refine Ok.okN (by omega) (by decide) ?_
        refine Ok.okN (by omega) (by decide) ?_
        refine Ok.wr (fun M1 q1 => ?_)
        rw [nJ_tn (by omega)] at q1
        refine ih (i + 1) M1 (by rw [q1]; exact hf.up (by decide) (by decide)) (fun b hb' => ?_) (fun p hp => ?_) (by omega) (by omega)
        · rw [q1, up2_at, if_neg (fun z => hb' z.2)]; exact h1 b hb'
        · rw [q1, up2_at, if_pos ⟨Eq.refl _, Eq.refl _⟩, bt_or, Bool.or_eq_true_iff, h2 p hp, bt_shl (by omega) p hp]
          constructor
          · rintro (⟨a, b⟩ | a)
            · exact ⟨by omega, b⟩
            · have := of_decide_eq_true a
              subst this
              exact ⟨by omega, hb, ⟨by omega, hb2⟩⟩
          · rintro ⟨a, b⟩
            by_cases z : p = i
            · exact Or.inr (decide_eq_true z)
            · exact Or.inl ⟨by omega, b⟩
      · exact ih (i + 1) M hf h1 (skip fun z => by rw [z.2.2] at hb2; cases hb2) (by omega) (by omega)
    · exact ih (i + 1) M hf h1 (skip fun z => by rw [z.1] at hb; cases hb) (by omega) (by omega)
theorem r_reaches62 {P : Int32 × Sto → Prop} {k : Sto → Option (Int32 × Sto)} {G : Sto} {B : Nat} (hP : PF G B)
    (hk : ∀ M, Fr [11] [] G M → (∀ c p, c < B → p < 32 → (bt (M 11 c) p = true ↔ p < B ∧ bt (G 0 12) p = true ∧ Ed G B p c)) → Ok P (k M)) :
    ∀ n c M, Fr [11] [] G M → (∀ b p, b < c → p < 32 → (bt (M 11 b) p = true ↔ p < B ∧ bt (G 0 12) p = true ∧ Ed G B p b)) → c ≤ B → B - c < n → Ok P (l_R_reaches_62 k n (nJ c) M) := by
  intro n
  have hB := hP.hB
  induction n with
  | zero => intro i M _ _ h1 h2; omega
  | succ n ih =>
    intro c M hf h1 hc hn
    unfold l_R_reaches_62
    rw [hf.2 1 (by decide), hP.blk]
    refine Ok.leN (by omega) (by omega) (fun q => ?_) (fun q => ?_)
    · exact hk M hf (fun b p hb hp => h1 b p (by omega) hp)
    refine Ok.okN (by omega) (by decide) ?_
    refine Ok.wr (fun M1 q1 => ?_)
    rw [nJ_tn (by omega)] at q1
    have f1 : Fr [11] [] G M1 := by rw [q1]; exact hf.up (by decide) (by decide)
    have e12 : M1 0 12 = G 0 12 := f1.2 12 (by decide)
    have hEd : ∀ p, Ed M1 B p c ↔ Ed G B p c := fun p => by
      unfold Ed
      rw [lead_fr (f1.1 6 (by decide) (by decide)) (f1.1 8 (by decide) (by decide)) (f1.1 9 (by decide) (by decide)) p]
    refine r_reaches79 (G := M1) (hP.fr (f1.mono (by decide) (by decide))) (by omega) (fun M2 f2 g1 g2 => ?_) FU 0 M1 Fr.rfl (fun _ _ => Eq.refl _) (fun p hp => ?_) (by omega) (by unfold FU; omega)
    · unfold j_R_reaches_128
      rw [nJ_succ (by omega)]
      refine ih (c + 1) M2 (f1.trans f2) (fun b p hb hp => ?_) (by omega) (by omega)
      by_cases z : b = c
      · subst z; rw [g2 p hp, e12, hEd]
      · rw [g1 b z, q1, up2_at, if_neg (fun y => z y.2)]; exact h1 b p (by omega) hp
    · rw [q1, up2_at, if_pos ⟨Eq.refl _, Eq.refl _⟩, bt_zero]
      constructor
      · intro h; cases h
      · rintro ⟨a, _⟩; omega
def RRq (M : Sto) (B : Nat) : Prop := (∀ c, c < 32 → (bt (M 0 12) c = true ↔ c < 10 ∧ Rch M B c)) ∧ (∀ c p, c < B → p < 32 → (bt (M 11 c) p = true ↔ p < B ∧ bt (M 0 12) p = true ∧ Ed M B p c))
theorem RRq.rch {M : Sto} {B : Nat} (h : RRq M B) : ∀ c, c < 32 → (bt (M 0 12) c = true ↔ c < 10 ∧ Rch M B c) := h.1
theorem RRq.bef {M : Sto} {B : Nat} (h : RRq M B) : ∀ c p, c < B → p < 32 → (bt (M 11 c) p = true ↔ p < B ∧ bt (M 0 12) p = true ∧ Ed M B p c) := h.2
theorem Ed_fr {M M' : Sto} (e6 : M' 6 = M 6) (e8 : M' 8 = M 8) (e9 : M' 9 = M 9) (B : Nat) : Ed M' B = Ed M B := by
  funext b c
  unfold Ed
  rw [lead_fr e6 e8 e9]
theorem Rch_fr {M M' : Sto} (e6 : M' 6 = M 6) (e8 : M' 8 = M 8) (e9 : M' 9 = M 9) (B : Nat) : Rch M' B = Rch M B := by
  funext c
  unfold Rch
  rw [Ed_fr e6 e8 e9]
theorem RRq.fr {M M' : Sto} {B : Nat} (h : RRq M B) (f : Fr [10, 12, 13, 14, 15, 16, 17, 18, 19, 20, 21, 22, 23, 24, 25, 26, 27, 28, 29, 30] [0, 11, 17, 27, 32, 34, 35, 37, 38] M M') : RRq M' B := by
  have e6 := f.1 6 (by decide) (by decide)
  have e8 := f.1 8 (by decide) (by decide)
  have e9 := f.1 9 (by decide) (by decide)
  exact ⟨by rw [f.2 12 (by decide), Rch_fr e6 e8 e9]; exact h.rch, by rw [f.2 12 (by decide), f.1 11 (by decide) (by decide), Ed_fr e6 e8 e9]; exact h.bef⟩
theorem r_reaches {G : Sto} {B : Nat} (hP : PF G B) (h0 : 0 < B) : Ok (fun a => Fr [11] [12] G a.2 ∧ RRq a.2 B) (m_R_reaches G) := by
  unfold m_R_reaches
  refine Ok.wr (fun M1 q1 => ?_)
  have hB := hP.hB
  have f1 : Fr [] [12] G M1 := by rw [q1]; exact Fr.rfl.up0 (by decide)
  have e12 : M1 0 12 = 1 := by rw [q1, up2_at, if_pos ⟨rfl, rfl⟩]
  refine r_reaches7 hP h0 (fun M f g => ?_) FU 0 M1 f1 (fun c hc hl => ?_) (fun c hc hl => ?_) (by omega) (by unfold FU; omega)
  · unfold j_R_reaches_60
    refine r_reaches62 (hP.fr (f.mono (by decide) (by decide))) (fun M2 f2 g2 => ?_) FU 0 M Fr.rfl (fun b p hb => by omega) (by omega) (by unfold FU; omega)
    have f3 : Fr [11] [12] G M2 := (f.mono (by decide) (by decide)).trans (f2.mono (by decide) (by decide))
    refine Ok.some ⟨f3, ⟨?_, ?_⟩⟩
    · show ∀ c, c < 32 → (bt (M2 0 12) c = true ↔ c < 10 ∧ Rch M2 B c)
      rw [f2.2 12 (by decide), Rch_fr (f3.1 6 (by decide) (by decide)) (f3.1 8 (by decide) (by decide)) (f3.1 9 (by decide) (by decide))]
      exact g
    · show ∀ c p, c < B → p < 32 → (bt (M2 11 c) p = true ↔ p < B ∧ bt (M2 0 12) p = true ∧ Ed M2 B p c)
      rw [f2.2 12 (by decide), Ed_fr (f2.1 6 (by decide) (by decide)) (f2.1 8 (by decide) (by decide)) (f2.1 9 (by decide) (by decide))]
      exact g2
  · rw [e12, bt_one]; exact decide_eq_true hl.1
  · rw [e12, bt_one] at hl
    have := of_decide_eq_true hl
    subst this
    exact ⟨by omega, 0, ⟨rfl, fun z => z⟩⟩
end
section
theorem lev_pre {E : Nat → Nat → Prop} {av : Nat → Prop} : ∀ {r c : Nat}, c ≠ 0 → lev E av (r + 1) c → ∃ p, p < 10 ∧ lev E av r p ∧ E p c ∧ ¬ av c
  | 0, _, h0, h => h.elim (fun h => absurd h.1 h0) fun h => h
  | r + 1, _, h0, h => h.elim (fun h => (lev_pre h0 h).elim fun p hp => ⟨p, hp.1, Or.inl hp.2.1, hp.2.2⟩) fun h => h
theorem lev_any {E : Nat → Nat → Prop} {av : Nat → Prop} : ∀ {r c : Nat}, lev E av r c → lev E (fun _ => False) r c
  | 0, _, h => ⟨h.1, fun z => z⟩
  | _ + 1, _, h => h.elim (fun h => Or.inl (lev_any h)) fun ⟨p, p1, p2, p3, _⟩ => Or.inr ⟨p, p1, lev_any p2, p3, fun z => z⟩
theorem Rch.lt {M : Sto} {B c : Nat} (hP : PF M B) (h0 : 0 < B) (hc : c < 32) (h : Rch M B c) : c < B := h.elim fun _ hr => lev_lt hP h0 hr hc
theorem r_ones4 {P : Int32 × Sto → Prop} {k : Int32 → Sto → Option (Int32 × Sto)} {x : Int32} {M : Sto} (hk : ∀ v, Ok P (k v M)) : ∀ n i v, i ≤ 10 → 10 - i < n → Ok P (l_R_ones_4 k n x v (nJ i) M) := by
  intro n
  induction n with
  | zero => intro i v h1 h2; omega
  | succ n ih =>
    intro i v hi hn
    unfold l_R_ones_4
    refine Ok.leN (a := 10) (by omega) (by omega) (fun _ => hk v) (fun c => ?_)
    rw [nJ_succ (by omega)]
    exact ih (i + 1) _ (by omega) (by omega)
theorem r_ones {x : Int32} {M : Sto} : Ok (fun a => a.2 = M) (m_R_ones x M) := by
  unfold m_R_ones
  exact r_ones4 (k := j_R_ones_24) (fun v => ⟨(v, M), rfl, rfl⟩) FU 0 0 (by omega) (by unfold FU; omega)
theorem r_dom74 {P : Int32 × Sto → Prop} {k : Int32 → Int32 → Int32 → Sto → Option (Int32 × Sto)} {v1 x0 : Int32} {M : Sto} {B c : Nat} (hB : B ≤ 10) (hb : M 0 1 = nJ B) (hc : c < B)
    (hk : ∀ x, (∀ b, b < 32 → (bt x b = true ↔ bt x0 b = true ∧ ∀ p, p < B → bt (M 11 c) p = true → bt (M 10 p) b = true)) → Ok P (k v1 (nJ c) x M)) :
    ∀ n i x, (∀ b, b < 32 → (bt x b = true ↔ bt x0 b = true ∧ ∀ p, p < i → bt (M 11 c) p = true → bt (M 10 p) b = true)) → i ≤ B → B - i < n → Ok P (l_R_dominates_74 k n v1 (nJ c) x (nJ i) M) := by
  intro n
  induction n with
  | zero => intro i x _ h1 h2; omega
  | succ n ih =>
    intro i x hx hi hn
    unfold l_R_dominates_74
    rw [hb, nJ_tn (i := c) (by omega), nJ_tn (i := i) (by omega)]
    refine Ok.leN (by omega) (by omega) (fun q => ?_) (fun q => ?_)
    · have : i = B := by omega
      subst this
      exact hk x hx
    refine Ok.okN (by omega) (by decide) ?_
    unfold j_R_dominates_107
    rw [nJ_succ (by omega)]
    refine Ok.has (by omega) (fun h1 => ?_) (fun h1 => ?_)
    · dsimp only
      refine Ok.okN (by omega) (by decide) ?_
      refine ih (i + 1) _ (fun b hb' => ?_) (by omega) (by omega)
      rw [bt_and, Bool.and_eq_true_iff, hx b hb']
      constructor
      · rintro ⟨⟨a1, a2⟩, a3⟩
        refine ⟨a1, fun p hp hq => ?_⟩
        by_cases z : p = i
        · rw [z]; exact a3
        · exact a2 p (by omega) hq
      · rintro ⟨a1, a2⟩
        exact ⟨⟨a1, fun p hp hq => a2 p (by omega) hq⟩, a2 i (by omega) h1⟩
    · dsimp only
      refine ih (i + 1) _ (fun b hb' => ?_) (by omega) (by omega)
      rw [hx b hb']
      constructor
      · rintro ⟨a1, a2⟩
        refine ⟨a1, fun p hp hq => ?_⟩
        by_cases z : p = i
        · rw [z, h1] at hq; cases hq
        · exact a2 p (by omega) hq
      · rintro ⟨a1, a2⟩
        exact ⟨a1, fun p hp hq => a2 p (by omega) hq⟩
def DI (G : Sto) (B r v : Nat) (M : Sto) : Prop := (Fr [10] [] G M) ∧ (M 10 0 = 1) ∧ (∀ b c, b < 10 → c < 10 → lev (Ed G B) (fun x => x = b) r c → bt (M 10 c) b = false) ∧ (∀ b c, b < 10 → c < v → c < 10 → lev (Ed G B) (fun x => x = b) (r + 1) c → bt (M 10 c) b = false) ∧ (∀ c, c < B → bt (G 0 12) c = true → bt (M 10 c) 0 = true)
theorem DI.fr {G : Sto} {B r v : Nat} {M : Sto} (h : DI G B r v M) : Fr [10] [] G M := h.1
theorem DI.a0 {G : Sto} {B r v : Nat} {M : Sto} (h : DI G B r v M) : M 10 0 = 1 := h.2.1
theorem DI.low {G : Sto} {B r v : Nat} {M : Sto} (h : DI G B r v M) : ∀ b c, b < 10 → c < 10 → lev (Ed G B) (fun x => x = b) r c → bt (M 10 c) b = false := h.2.2.1
theorem DI.hi {G : Sto} {B r v : Nat} {M : Sto} (h : DI G B r v M) : ∀ b c, b < 10 → c < v → c < 10 → lev (Ed G B) (fun x => x = b) (r + 1) c → bt (M 10 c) b = false := h.2.2.2.1
theorem DI.z {G : Sto} {B r v : Nat} {M : Sto} (h : DI G B r v M) : ∀ c, c < B → bt (G 0 12) c = true → bt (M 10 c) 0 = true := h.2.2.2.2
theorem r_dom44 {P : Int32 × Sto → Prop} {k : Int32 → Sto → Option (Int32 × Sto)} {G : Sto} {B r : Nat} {v1 : Int32} (hP : PF G B) (h0 : 0 < B) (hR : RRq G B)
    (hk : ∀ M, DI G B r B M → Ok P (k v1 M)) :
    ∀ n c M, DI G B r c M → 0 < c → c ≤ B → B - c < n → Ok P (l_R_dominates_44 k n v1 (nJ c) M) := by
  intro n
  have hB := hP.hB
  induction n with
  | zero => intro c M _ _ h1 h2; omega
  | succ n ih =>
    intro c M hI hc0 hc hn
    have e12 : M 0 12 = G 0 12 := hI.fr.2 12 (by decide)
    have e11 : M 11 = G 11 := hI.fr.1 11 (by decide) (by decide)
    have eb : M 0 1 = nJ B := (hI.fr.2 1 (by decide)).trans hP.blk
    unfold l_R_dominates_44
    rw [eb, e12]
    refine Ok.leN (by omega) (by omega) (fun q => ?_) (fun q => ?_)
    · have : c = B := by omega
      subst this
      exact hk M hI
    refine Ok.has (by omega) (fun h1 => ?_) (fun h1 => ?_)
    · dsimp only
      rw [e12]
      refine r_dom74 (M := M) (x0 := G 0 12) hB eb (by omega) (fun x hx => ?_) FU 0 _ (fun b hb => ⟨fun a => ⟨a, fun p hp => by omega⟩, fun a => a.1⟩) (by omega) (by unfold FU; omega)
      unfold j_R_dominates_113 j_R_dominates_124
      refine Ok.okN (by omega) (by decide) ?_
      rw [nJ_tn (by omega), nJ_succ (by omega)]
      refine Ok.wr (fun M1 q1 => ?_)
      have ec : M1 10 c = x ||| (1 <<< (nJ c &&& 31)) := by rw [q1, up2_at, if_pos ⟨rfl, rfl⟩]
      have eo : ∀ a, a ≠ c → M1 10 a = M 10 a := fun a ha => by rw [q1, up2_at, if_neg (fun z => ha z.2)]
      have key : ∀ b, b < 10 → lev (Ed G B) (fun x => x = b) (r + 1) c → bt (M1 10 c) b = false := by
        intro b hb hl
        obtain ⟨p, p1, p2, p3, p4⟩ := lev_pre (by omega) hl
        rw [ec, bt_or, bt_shl (by omega) b (by omega)]
        have h2 : bt x b = false := by
          rw [Bool.eq_false_iff]
          intro hxb
          have hpre : bt (M 11 c) p = true := by
            rw [e11]
            exact (hR.bef c p (by omega) (by omega)).mpr ⟨p3.1, (hR.rch p (by omega)).mpr ⟨p1, r, lev_any p2⟩, p3⟩
          have := ((hx b (by omega)).mp hxb).2 p p3.1 hpre
          rw [hI.low b p hb p1 p2] at this; cases this
        rw [h2, decide_eq_false (fun z => p4 z.symm)]; rfl
      refine ih (c + 1) M1 ⟨by rw [q1]; exact hI.fr.up (by decide) (by decide), by rw [eo 0 (by omega)]; exact hI.a0, fun b a hb ha hl => ?_, fun b a hb hav ha hl => ?_, fun a ha hra => ?_⟩ (by omega) (by omega) (by omega)
      · by_cases z : a = c
        · subst z; exact key b hb (Or.inl hl)
        · rw [eo a z]; exact hI.low b a hb ha hl
      · by_cases z : a = c
        · subst z; exact key b hb hl
        · rw [eo a z]; exact hI.hi b a hb (by omega) ha hl
      · by_cases z : a = c
        · subst z
          rw [ec, bt_or, Bool.or_eq_true_iff]
          refine Or.inl ((hx 0 (by omega)).mpr ⟨?_, fun p hp hq => ?_⟩)
          · exact (hR.rch 0 (by omega)).mpr ⟨by omega, 0, ⟨rfl, fun z => z⟩⟩
          · rw [e11] at hq
            exact hI.z p hp ((hR.bef a p ha (by omega)).mp hq).2.1
        · rw [eo a z]; exact hI.z a ha hra
    · unfold j_R_dominates_124
      dsimp only
      rw [nJ_succ (by omega)]
      refine ih (c + 1) M ⟨hI.fr, hI.a0, hI.low, fun b a hb hav ha hl => ?_, hI.z⟩ (by omega) (by omega) (by omega)
      by_cases z : a = c
      · subst z
        have := (hR.rch a (by omega)).mpr ⟨ha, r + 1, lev_any hl⟩
        rw [h1] at this; cases this
      · exact hI.hi b a hb (by omega) ha hl
theorem r_dom36 {P : Int32 × Sto → Prop} {k : Sto → Option (Int32 × Sto)} {G : Sto} {B : Nat} (hP : PF G B) (h0 : 0 < B) (hR : RRq G B)
    (hk : ∀ M, DI G B 11 1 M → Ok P (k M)) :
    ∀ n r M, DI G B r 1 M → r ≤ 11 → 11 - r < n → Ok P (l_R_dominates_36 k n (nJ r) M) := by
  intro n
  have hB := hP.hB
  induction n with
  | zero => intro r M _ h1 h2; omega
  | succ n ih =>
    intro r M hI hr hn
    unfold l_R_dominates_36
    refine Ok.leN (a := 11) (by omega) (by omega) (fun q => ?_) (fun q => ?_)
    · have : r = 11 := by omega
      subst this
      exact hk M hI
    refine r_dom44 hP h0 hR (fun M1 hI1 => ?_) FU 1 M hI (by omega) (by omega) (by unfold FU; omega)
    unfold j_R_dominates_130
    rw [nJ_succ (by omega)]
    have low : ∀ b c, b < 10 → c < 10 → lev (Ed G B) (fun x => x = b) (r + 1) c → bt (M1 10 c) b = false := fun b c hb hc hl => hI1.hi b c hb (lev_lt hP h0 hl (by omega)) hc hl
    refine ih (r + 1) M1 ⟨hI1.fr, hI1.a0, low, fun b c hb hc1 hc hl => ?_, hI1.z⟩ (by omega) (by omega)
    have : c = 0 := by omega
    subst this
    rw [hI1.a0, bt_one]
    exact decide_eq_false fun z => lev_av hl z.symm
theorem r_dom2 {P : Int32 × Sto → Prop} {k : Sto → Option (Int32 × Sto)} {G : Sto} {B : Nat} (hP : PF G B) (h0 : 0 < B) (hR : RRq G B)
    (hk : ∀ M, DI G B 0 1 M → Ok P (k M)) :
    ∀ n c M, Fr [10] [] G M → (∀ a, a < c → M 10 a = if a = 0 then 1 else G 0 12) → c ≤ B → B - c < n → Ok P (l_R_dominates_2 k n (nJ c) M) := by
  intro n
  have hB := hP.hB
  induction n with
  | zero => intro c M _ _ h1 h2; omega
  | succ n ih =>
    intro c M hf h1 hc hn
    have eb : M 0 1 = nJ B := (hf.2 1 (by decide)).trans hP.blk
    unfold l_R_dominates_2
    rw [eb, hf.2 12 (by decide)]
    refine Ok.leN (by omega) (by omega) (fun q => ?_) (fun q => ?_)
    · have z0 : M 10 0 = 1 := by rw [h1 0 (by omega)]; rfl
      have at0 : ∀ b c, lev (Ed G B) (fun x => x = b) 0 c → bt (M 10 c) b = false := fun b c hl => by
        rw [hl.1, z0, bt_one]; exact decide_eq_false fun z => hl.2 z.symm
      refine hk M ⟨hf, z0, fun b c _ _ hl => at0 b c hl, fun b a hb ha _ hl => ?_, fun a ha hra => ?_⟩
      · have : a = 0 := by omega
        subst this
        rw [z0, bt_one]; exact decide_eq_false fun z => lev_av hl z.symm
      · rw [h1 a (by omega)]
        by_cases z : a = 0
        · rw [if_pos z, bt_one]; rfl
        · rw [if_neg z]; exact (hR.rch 0 (by omega)).mpr ⟨by omega, 0, ⟨rfl, fun z => z⟩⟩
    have step : ∀ v, (v = if c = 0 then 1 else G 0 12) → Ok P (j_R_dominates_27 (l_R_dominates_2 k n) k v (nJ c) (nJ c) M) := by
      intro v hv
      unfold j_R_dominates_27
      refine Ok.okN (by omega) (by decide) ?_
      rw [nJ_tn (by omega), nJ_succ (by omega)]
      refine Ok.wr (fun M1 q1 => ?_)
      refine ih (c + 1) M1 (by rw [q1]; exact hf.up (by decide) (by decide)) (fun a ha => ?_) (by omega) (by omega)
      rw [q1, up2_at]
      by_cases z : a = c
      · rw [if_pos ⟨rfl, z⟩, hv, z]
      · rw [if_neg (fun y => z y.2)]; exact h1 a (by omega)
    refine Ok.ifE (fun q2 => ?_) (fun q2 => ?_)
    · have : c = 0 := nJ_inj (by omega) (by omega) q2
      exact step 1 (by rw [if_pos this])
    · exact step _ (by rw [if_neg (fun z => q2 (by rw [z]; rfl))])
def DM (M : Sto) (B : Nat) : Prop := (∀ c, c < B → (c = 0 ∨ bt (M 0 12) c = false) → M 12 c = -1) ∧ (∀ c, c < B → c ≠ 0 → bt (M 0 12) c = true → ∃ b, b < B ∧ b ≠ c ∧ M 12 c = nJ b ∧ ∀ r, ¬ lev (Ed M B) (fun x => x = b) r c)
theorem DM.non {M : Sto} {B : Nat} (h : DM M B) : ∀ c, c < B → (c = 0 ∨ bt (M 0 12) c = false) → M 12 c = -1 := h.1
theorem DM.par {M : Sto} {B : Nat} (h : DM M B) : ∀ c, c < B → c ≠ 0 → bt (M 0 12) c = true → ∃ b, b < B ∧ b ≠ c ∧ M 12 c = nJ b ∧ ∀ r, ¬ lev (Ed M B) (fun x => x = b) r c := h.2
theorem r_dom155 {P : Int32 × Sto → Prop} {k : Int32 → Sto → Option (Int32 × Sto)} {G : Sto} {B c : Nat} (hP : PF G B) (hR : RRq G B) (hc : c < B) (hz : bt (G 0 12) c = true → bt (G 10 c) 0 = true)
    (hk : ∀ M, Fr [12] [] G M → (∀ a, a ≠ c → M 12 a = G 12 a) → ((c = 0 ∨ bt (G 0 12) c = false) → M 12 c = -1) → (c ≠ 0 → bt (G 0 12) c = true → ∃ b, b < B ∧ b ≠ c ∧ M 12 c = nJ b ∧ bt (G 10 c) b = true) → Ok P (k (nJ c) M)) :
    ∀ n i M, Fr [12] [] G M → (∀ a, a ≠ c → M 12 a = G 12 a) → ((c = 0 ∨ bt (G 0 12) c = false) → M 12 c = -1) → (i = 0 → M 12 c = -1) → (c ≠ 0 → bt (G 0 12) c = true → 0 < i → ∃ b, b < B ∧ b ≠ c ∧ M 12 c = nJ b ∧ bt (G 10 c) b = true) → i ≤ B → B - i < n → Ok P (l_R_dominates_155 k n (nJ c) (nJ i) M) := by
  intro n
  have hB := hP.hB
  induction n with
  | zero => intro i M _ _ _ _ _ h1 h2; omega
  | succ n ih =>
    intro i M hf h1 h2 h3 h4 hi hn
    have eb : M 0 1 = nJ B := (hf.2 1 (by decide)).trans hP.blk
    have e10 : M 10 = G 10 := hf.1 10 (by decide) (by decide)
    unfold l_R_dominates_155
    rw [eb, hf.2 12 (by decide)]
    refine Ok.leN (by omega) (by omega) (fun q => ?_) (fun q => ?_)
    · exact hk M hf h1 h2 (fun a b => h4 a b (by omega))
    have skip : (c ≠ 0 → bt (G 0 12) c = true → ∃ b, b < B ∧ b ≠ c ∧ M 12 c = nJ b ∧ bt (G 10 c) b = true) → Ok P (l_R_dominates_155 k n (nJ c) (nJ (i + 1)) M) := fun hh =>
      ih (i + 1) M hf h1 h2 (fun z => by omega) (fun a b _ => hh a b) (by omega) (by omega)
    have set : c ≠ 0 → bt (G 0 12) c = true → i ≠ c → bt (G 10 c) i = true → Ok P (j_R_dominates_231 (l_R_dominates_155 k n) k (nJ c) (nJ i) M) := by
      intro c0 cr ci cb'
      unfold j_R_dominates_231 j_R_dominates_238
      refine Ok.okN (by omega) (by decide) ?_
      rw [nJ_tn (by omega), nJ_succ (by omega)]
      refine Ok.wr (fun M1 q1 => ?_)
      have ec : M1 12 c = nJ i := by rw [q1, up2_at, if_pos ⟨rfl, rfl⟩]
      refine ih (i + 1) M1 (by rw [q1]; exact hf.up (by decide) (by decide)) (fun a ha => by rw [q1, up2_at, if_neg (fun z => ha z.2)]; exact h1 a ha) (fun z => ?_) (fun z => by omega) (fun _ _ _ => ⟨i, by omega, ci, ec, cb'⟩) (by omega) (by omega)
      rcases z with z | z
      · exact absurd z c0
      · rw [cr] at z; cases z
    have hs : j_R_dominates_238 (l_R_dominates_155 k n) k (nJ c) (nJ i) = fun M => l_R_dominates_155 k n (nJ c) (nJ (i + 1)) M := by
      funext M
      unfold j_R_dominates_238
      rw [nJ_succ (by omega)]
    refine Ok.leN (b := 0) (by omega) (by omega) (fun q2 => ?_) (fun q2 => ?_)
    · rw [hs]; exact skip (fun z => by omega)
    refine Ok.has (by omega) (fun g1 => ?_) (fun g1 => ?_)
    · dsimp only
      have later : 0 < i → ∃ b, b < B ∧ b ≠ c ∧ M 12 c = nJ b ∧ bt (G 10 c) b = true := fun hi0 => h4 (by omega) g1 hi0
      refine Ok.ifE (fun q3 => ?_) (fun q3 => ?_)
      · rw [hs]
        have : i = c := nJ_inj (by omega) (by omega) q3
        exact skip (fun _ _ => later (by omega))
      refine Ok.okN (by omega) (by decide) ?_
      rw [nJ_tn (i := c) (by omega), e10]
      refine Ok.has (by omega) (fun g2 => ?_) (fun g2 => ?_)
      · dsimp only
        refine Ok.okN (by omega) (by decide) ?_
        have ci : i ≠ c := fun z => q3 (by rw [z])
        refine Ok.lt (fun q4 => ?_) (fun q4 => ?_)
        · exact set (by omega) g1 ci g2
        refine Ok.okN (by omega) (by decide) ?_
        refine Ok.bind r_ones (fun r1 M1 e1 => ?_)
        dsimp only at e1
        subst e1
        dsimp only
        refine Ok.okN (by omega) (by decide) ?_
        have hi0 : 0 < i := by
          apply Classical.byContradiction
          intro z
          have : i = 0 := by omega
          rw [h3 this] at q4
          exact absurd q4 (by decide)
        obtain ⟨b, b1, b2, b3, b4⟩ := later hi0
        refine Ok.okE b3 (by omega) (by decide) ?_
        refine Ok.bind r_ones (fun r2 M2 e2 => ?_)
        dsimp only at e2
        subst e2
        dsimp only
        refine Ok.le (fun _ => ?_) (fun _ => ?_)
        · rw [hs]; exact skip (fun _ _ => ⟨b, b1, b2, b3, b4⟩)
        · exact set (by omega) g1 ci g2
      · dsimp only
        rw [hs]
        refine skip (fun _ _ => later ?_)
        apply Classical.byContradiction
        intro z
        have : i = 0 := by omega
        subst this
        rw [hz g1] at g2; cases g2
    · dsimp only
      rw [hs]
      exact skip (fun _ z => by rw [g1] at z; cases z)
theorem r_dom138 {P : Int32 × Sto → Prop} {k : Sto → Option (Int32 × Sto)} {G : Sto} {B : Nat} (hP : PF G B) (hR : RRq G B) (hz : ∀ c, c < B → bt (G 0 12) c = true → bt (G 10 c) 0 = true)
    (hk : ∀ M, Fr [12] [] G M → (∀ c, c < B → (c = 0 ∨ bt (G 0 12) c = false) → M 12 c = -1) → (∀ c, c < B → c ≠ 0 → bt (G 0 12) c = true → ∃ b, b < B ∧ b ≠ c ∧ M 12 c = nJ b ∧ bt (G 10 c) b = true) → Ok P (k M)) :
    ∀ n c M, Fr [12] [] G M → (∀ a, a < c → (a = 0 ∨ bt (G 0 12) a = false) → M 12 a = -1) → (∀ a, a < c → a ≠ 0 → bt (G 0 12) a = true → ∃ b, b < B ∧ b ≠ a ∧ M 12 a = nJ b ∧ bt (G 10 a) b = true) → c ≤ B → B - c < n → Ok P (l_R_dominates_138 k n (nJ c) M) := by
  intro n
  have hB := hP.hB
  induction n with
  | zero => intro c M _ _ _ h1 h2; omega
  | succ n ih =>
    intro c M hf h1 h2 hc hn
    have eb : M 0 1 = nJ B := (hf.2 1 (by decide)).trans hP.blk
    unfold l_R_dominates_138
    rw [eb]
    refine Ok.leN (by omega) (by omega) (fun q => ?_) (fun q => ?_)
    · exact hk M hf (fun a ha => h1 a (by omega)) (fun a ha => h2 a (by omega))
    refine Ok.okN (by omega) (by decide) ?_
    rw [nJ_tn (by omega)]
    refine Ok.wr (fun M1 q1 => ?_)
    have f1 : Fr [12] [] G M1 := by rw [q1]; exact hf.up (by decide) (by decide)
    have e12 : M1 0 12 = G 0 12 := f1.2 12 (by decide)
    have e10 : M1 10 = G 10 := f1.1 10 (by decide) (by decide)
    have ec : M1 12 c = -1 := by rw [q1, up2_at, if_pos ⟨rfl, rfl⟩]
    refine r_dom155 (G := M1) (hP.fr (f1.mono (by decide) (by decide))) (hR.fr (f1.mono (by decide) (by decide))) (by omega) (by rw [e12, e10]; exact hz c (by omega)) (fun M2 f2 g1 g2 g3 => ?_) FU 0 M1 Fr.rfl (fun _ _ => rfl) (fun _ => ec) (fun _ => ec) (fun _ _ z => by omega) (by omega) (by unfold FU; omega)
    rw [e12] at g2 g3
    rw [e10] at g3
    unfold j_R_dominates_244
    rw [nJ_succ (by omega)]
    have eo : ∀ a, a ≠ c → M2 12 a = M 12 a := fun a ha => by rw [g1 a ha, q1, up2_at, if_neg (fun z => ha z.2)]
    refine ih (c + 1) M2 (f1.trans f2) (fun a ha => ?_) (fun a ha => ?_) (by omega) (by omega)
    · by_cases z : a = c
      · subst z; exact g2
      · rw [eo a z]; exact h1 a (by omega)
    · by_cases z : a = c
      · subst z; exact g3
      · rw [eo a z]; exact h2 a (by omega)
theorem r_dominates {G : Sto} {B : Nat} (hP : PF G B) (h0 : 0 < B) (hR : RRq G B) : Ok (fun a => Fr [10, 12] [] G a.2 ∧ DM a.2 B) (m_R_dominates G) := by
  unfold m_R_dominates
  have hB := hP.hB
  refine r_dom2 hP h0 hR (fun M hI => ?_) FU 0 G Fr.rfl (fun a ha => by omega) (by omega) (by unfold FU; omega)
  unfold j_R_dominates_34
  refine r_dom36 hP h0 hR (fun M1 hI1 => ?_) FU 0 M hI (by omega) (by unfold FU; omega)
  unfold j_R_dominates_136
  have e12 : M1 0 12 = G 0 12 := hI1.fr.2 12 (by decide)
  refine r_dom138 (hP.fr (hI1.fr.mono (by decide) (by decide))) (hR.fr (hI1.fr.mono (by decide) (by decide))) (by rw [e12]; exact hI1.z) (fun M2 f2 g1 g2 => ?_) FU 0 M1 Fr.rfl (fun a ha => by omega) (fun a ha => by omega) (by omega) (by unfold FU; omega)
  have f3 : Fr [10, 12] [] G M2 := (hI1.fr.mono (by decide) (by decide)).trans (f2.mono (by decide) (by decide))
  have z12 : M2 0 12 = M1 0 12 := f2.2 12 (by decide)
  refine Ok.some ⟨f3, ⟨?_, ?_⟩⟩
  · show ∀ c, c < B → (c = 0 ∨ bt (M2 0 12) c = false) → M2 12 c = -1
    rw [z12]; exact g1
  · show ∀ c, c < B → c ≠ 0 → bt (M2 0 12) c = true → ∃ b, b < B ∧ b ≠ c ∧ M2 12 c = nJ b ∧ ∀ r, ¬ lev (Ed M2 B) (fun x => x = b) r c
    rw [z12, Ed_fr (f3.1 6 (by decide) (by decide)) (f3.1 8 (by decide) (by decide)) (f3.1 9 (by decide) (by decide))]
    intro c hc c0 cr
    obtain ⟨b, b1, b2, b3, b4⟩ := g2 c hc c0 cr
    refine ⟨b, b1, b2, b3, fun r hl => ?_⟩
    have h10 := lev_stab (by omega) hl
    have := hI1.low b c (by omega) (by omega) (lev_up h10 1)
    rw [this] at b4; cases b4
end
section
def sm (f : Nat → Int) : Nat → Int
  | 0 => 0
  | n + 1 => sm f n + f n
theorem sm_mono {f g : Nat → Int} : ∀ n, (∀ b, b < n → f b ≤ g b) → sm f n ≤ sm g n
  | 0, _ => Int.le_refl 0
  | n + 1, h => by
    have h1 := sm_mono n (fun b hb => h b (by omega))
    have h2 := h n (by omega)
    unfold sm; omega
theorem sm_more {f g : Nat → Int} {j : Nat} (hj : f j < g j) : ∀ n, j < n → (∀ b, b < n → f b ≤ g b) → sm f n < sm g n
  | 0, h, _ => absurd h (Nat.not_lt_zero _)
  | n + 1, h, hm => by
    unfold sm
    by_cases e : j = n
    · subst e
      have h1 := sm_mono j (fun b hb => hm b (by omega))
      omega
    · have h1 := sm_more hj n (by omega) (fun b hb => hm b (by omega))
      have h2 := hm n (by omega)
      omega
theorem sm_le {f : Nat → Int} {k : Int} : ∀ n, (∀ b, b < n → f b ≤ k) → sm f n ≤ k * (n : Int)
  | 0, _ => by unfold sm; simp
  | n + 1, h => by
    have h1 := sm_le n (fun b hb => h b (by omega))
    have h2 := h n (by omega)
    unfold sm
    have : k * ((n + 1 : Nat) : Int) = k * (n : Int) + k := by
      rw [Int.natCast_succ, Int.mul_add, Int.mul_one]
    omega
theorem sm_ge {f : Nat → Int} : ∀ n, (∀ b, b < n → 0 ≤ f b) → 0 ≤ sm f n
  | 0, _ => Int.le_refl 0
  | n + 1, h => by
    have h1 := sm_ge n (fun b hb => h b (by omega))
    have h2 := h n (by omega)
    unfold sm; omega
theorem nJ_add {a b : Nat} (h : a + b < 1000000) : nJ a + nJ b = nJ (a + b) := by
  apply Int32.toInt_inj.mp
  have h1 := nJ_int (i := a) (by omega)
  have h2 := nJ_int (i := b) (by omega)
  rw [addI (by omega) (by omega), nJ_int (i := a + b) (by omega)]; omega
theorem nJ_mul6 {a : Nat} (h : a < 100000) : 6 * nJ a = nJ (6 * a) := by
  apply Int32.toInt_inj.mp
  have h1 := nJ_int (i := a) (by omega)
  have n6 : (6 : Int32).toInt = 6 := rfl
  rw [mulI (by rw [h1, n6]; omega) (by rw [h1, n6]; omega), nJ_int (i := 6 * a) (by omega), h1, n6]; omega
theorem nJ_ne {a b : Nat} (ha : a < 1000000) (hb : b < 1000000) (h : nJ a ≠ nJ b) : a ≠ b := fun e => h (by rw [e])
theorem r_front25 {P : Int32 × Sto → Prop} {k : Int32 → Sto → Option (Int32 × Sto)} {M : Sto} {B a c : Nat} (hP : PF M B) (hR : RRq M B) (ha : a < B) (hc : c < B)
    (hk : ∀ v, (v = 0 ∨ v = 1) → (c = 0 → v = 0) → Ok P (k v M)) :
    ∀ n i v, (v = 0 ∨ v = 1) → (c = 0 → v = 0) → i ≤ B → B - i < n → Ok P (l_R_isInFrontier_25 k n (nJ a) (nJ c) v (nJ i) M) := by
  intro n
  have hB := hP.hB
  induction n with
  | zero => intro i v _ _ h1 h2; omega
  | succ n ih =>
    intro i v hv hv0 hi hn
    have none : c = 0 → bt (M 11 c) i = true → False := fun z hb => by
      have := ((hR.bef c i hc (Classical.byContradiction fun q => by rw [bt_big (by omega)] at hb; cases hb)).mp hb).2.2
      have := (lead_lt hP this.1 (by omega) this.2).1
      omega
    unfold l_R_isInFrontier_25
    rw [hP.blk, nJ_tn (i := c) (by omega)]
    refine Ok.leN (by omega) (by omega) (fun q => hk v hv hv0) (fun q => ?_)
    rw [nJ_tn (i := i) (by omega)]
    unfold j_R_isInFrontier_70 j_R_isInFrontier_66 j_R_isInFrontier_71
    rw [nJ_succ (by omega)]
    have go : ∀ w, (w = 0 ∨ w = 1) → (c = 0 → w = 0) → Ok P (l_R_isInFrontier_25 k n (nJ a) (nJ c) w (nJ (i + 1)) M) := fun w h1 h2 => ih (i + 1) w h1 h2 (by omega) (by omega)
    refine Ok.ifE (fun q1 => ?_) (fun q1 => ?_)
    · refine Ok.okN (by omega) (by decide) ?_
      refine Ok.has (by omega) (fun g1 => ?_) (fun g1 => ?_)
      · dsimp only
        refine Ok.okN (by omega) (by decide) ?_
        refine Ok.has (by omega) (fun g2 => ?_) (fun g2 => ?_)
        · exact go 1 (Or.inr rfl) (fun z => (none z g1).elim)
        · exact go 0 (Or.inl rfl) (fun _ => rfl)
      · exact go 0 (Or.inl rfl) (fun _ => rfl)
    · exact go 1 (Or.inr rfl) (fun z => absurd (hv0 z) q1)
theorem r_isInFrontier {M : Sto} {B a c : Nat} (hP : PF M B) (hR : RRq M B) (ha : a < B) (hc : c < B) : Ok (fun r => r.2 = M ∧ (c = 0 → r.1 = 0)) (m_R_isInFrontier (nJ a) (nJ c) M) := by
  have hB := hP.hB
  have fin : Ok (fun r => r.2 = M ∧ (c = 0 → r.1 = 0)) (j_R_isInFrontier_20 (nJ a) (nJ c) M) := by
    unfold j_R_isInFrontier_20
    refine r_front25 hP hR ha hc (fun v h1 h2 => ?_) FU 0 0 (Or.inl rfl) (fun _ => rfl) (by omega) (by unfold FU; omega)
    unfold j_R_isInFrontier_78
    exact Ok.bzt h1 ⟨(v, M), rfl, rfl, h2⟩
  unfold m_R_isInFrontier
  refine Ok.okN (by omega) (by decide) ?_
  refine Ok.has (by omega) (fun g1 => ?_) (fun g1 => ?_)
  · dsimp only
    refine Ok.ifE (fun q1 => ?_) (fun q1 => ?_)
    · exact fin
    · exact Ok.bzt (Or.inl rfl) ⟨(0, M), rfl, rfl, fun _ => rfl⟩
  · exact fin
theorem r_setsOne {α : Type} {P : α → Prop} {x : Int32} {M : Sto} {X Y : Int32 × Sto → Option α} (h1 : x ≠ 7 → Ok P (Y (1, M))) (h0 : x = 7 → Ok P (X (0, M))) :
    Ok P ((m_R_setsOne x M).bind fun o => if o.1 = 0 then X o else Y o) := by
  unfold m_R_setsOne
  by_cases h : x = 7
  · rw [if_pos h]; exact h0 h
  · rw [if_neg h]; exact h1 h
theorem r_defined {M : Sto} {B b : Nat} (hP : PF M B) (hb : b < B) : Ok (fun r => r.2 = M ∧ ∀ i, i < 32 → bt r.1 i = true → bt (M 13 b) i = true ∨ i < 6) (m_R_defined (nJ b) M) := by
  have hB := hP.hB
  obtain ⟨l, l1, l2⟩ := hP.len b (by omega)
  have loop : ∀ n i v, (∀ j, j < 32 → bt v j = true → bt (M 13 b) j = true ∨ j < 6) → i ≤ l → l - i < n → Ok (fun r => r.2 = M ∧ ∀ i, i < 32 → bt r.1 i = true → bt (M 13 b) i = true ∨ i < 6) (l_R_defined_12 j_R_defined_56 n (nJ b) v (nJ (6 * b + i)) M) := by
    intro n
    induction n with
    | zero => intro i v _ h1 h2; omega
    | succ n ih =>
      intro i v hv hi hn
      unfold l_R_defined_12
      refine Ok.okN (by omega) (by decide) ?_
      rw [nJ_tn (i := b) (by omega), l2, nJ_mul6 (by omega), nJ_add (by omega)]
      refine Ok.leN (by omega) (by omega) (fun q => ⟨(v, M), rfl, rfl, hv⟩) (fun q => ?_)
      refine Ok.okN (by omega) (by decide) ?_
      unfold j_R_defined_50
      rw [nJ_tn (i := 6 * b + i) (by omega), nJ_succ (by omega)]
      refine r_setsOne (fun g => ?_) (fun g => ?_)
      · dsimp only
        refine Ok.okN (by omega) (by decide) ?_
        refine ih (i + 1) _ (fun j hj hbj => ?_) (by omega) (by omega)
        obtain ⟨d, d1, d2⟩ := hP.dst (6 * b + i) g
        rw [d2, bt_or, bt_shl (by omega) j hj] at hbj
        rcases Bool.or_eq_true_iff.mp hbj with z | z
        · exact hv j hj z
        · have := of_decide_eq_true z
          exact Or.inr (by omega)
      · exact ih (i + 1) v hv (by omega) (by omega)
  unfold m_R_defined
  refine Ok.okN (by omega) (by decide) ?_
  rw [nJ_tn (i := b) (by omega), nJ_mul6 (by omega)]
  exact loop FU 0 _ (fun j hj h => Or.inl h) (by omega) (by unfold FU; omega)
def mu13 (M : Sto) : Int := sm (fun c => cb (M 13 c)) 10
theorem mu13_le (M : Sto) : mu13 M ≤ 100 := sm_le 10 (fun b _ => cb_le _)
def PHI (G : Sto) (M : Sto) : Prop := (Fr [13] [] G M) ∧ (M 13 0 = 0) ∧ (∀ c, c < 10 → ∀ b, b < 32 → bt (M 13 c) b = true → b < 6)
theorem PHI.fr {G : Sto} {M : Sto} (h : PHI G M) : Fr [13] [] G M := h.1
theorem PHI.z {G : Sto} {M : Sto} (h : PHI G M) : M 13 0 = 0 := h.2.1
theorem PHI.six {G : Sto} {M : Sto} (h : PHI G M) : ∀ c, c < 10 → ∀ b, b < 32 → bt (M 13 c) b = true → b < 6 := h.2.2
theorem r_phi41 {P : Int32 × Sto → Prop} {k : Int32 → Int32 → Sto → Option (Int32 × Sto)} {G : Sto} {B a : Nat} {m0 : Int} (hP : PF G B) (hR : RRq G B) (ha : a < B)
    (hk : ∀ v M, PHI G M → (v = 0 ∧ m0 ≤ mu13 M ∨ v = 1 ∧ m0 < mu13 M) → Ok P (k v (nJ a) M)) :
    ∀ n i v M, PHI G M → (v = 0 ∧ m0 ≤ mu13 M ∨ v = 1 ∧ m0 < mu13 M) → i ≤ B → B - i < n → Ok P (l_R_placePhis_41 k n v (nJ a) (nJ i) M) := by
  intro n
  have hB := hP.hB
  induction n with
  | zero => intro i v M _ _ h1 h2; omega
  | succ n ih =>
    intro i v M hI hv hi hn
    have hPM : PF M B := hP.fr (hI.fr.mono (by decide) (by decide))
    have hRM : RRq M B := hR.fr (hI.fr.mono (by decide) (by decide))
    unfold l_R_placePhis_41
    rw [hPM.blk]
    refine Ok.leN (by omega) (by omega) (fun q => hk v M hI hv) (fun q => ?_)
    have skip : Ok P (j_R_placePhis_126 (l_R_placePhis_41 k n) k v (nJ a) (nJ i) M) := by
      unfold j_R_placePhis_126
      rw [nJ_succ (by omega)]
      exact ih (i + 1) v M hI hv (by omega) (by omega)
    refine Ok.has (by omega) (fun g1 => ?_) (fun g1 => skip)
    dsimp only
    refine Ok.has (by omega) (fun g2 => ?_) (fun g2 => skip)
    dsimp only
    refine Ok.bind (r_isInFrontier hPM hRM ha (by omega)) (fun r1 M1 e1 => ?_)
    dsimp only at e1
    obtain ⟨e1, z1⟩ := e1
    subst e1
    dsimp only
    refine Ok.ifE (fun q1 => skip) (fun q1 => ?_)
    have i0 : i ≠ 0 := fun z => q1 (z1 z)
    refine Ok.okN (by omega) (by decide) ?_
    refine Ok.bind (r_defined hPM ha) (fun r2 M2 e2 => ?_)
    dsimp only at e2
    obtain ⟨e2, z2⟩ := e2
    subst e2
    dsimp only
    rw [nJ_tn (i := i) (by omega)]
    have bits : ∀ b, b < 32 → bt (M2 13 i ||| r2) b = true → b < 6 := fun b hb h => by
      rw [bt_or] at h
      rcases Bool.or_eq_true_iff.mp h with z | z
      · exact hI.six i (by omega) b hb z
      · rcases z2 b hb z with y | y
        · exact hI.six a (by omega) b hb y
        · exact y
    have mono : ∀ b, b < 10 → bt (M2 13 i) b = true → bt (M2 13 i ||| r2) b = true := fun b _ h => by rw [bt_or, h]; rfl
    have set : ∀ w, (w = 0 ∧ m0 ≤ mu13 M2 ∨ w = 1 ∧ (m0 < mu13 M2 ∨ m0 ≤ mu13 M2 ∧ (M2 13 i ||| r2) ≠ M2 13 i)) → Ok P (j_R_placePhis_117 (l_R_placePhis_41 k n) k w (nJ a) (nJ i) (M2 13 i ||| r2) M2) := by
      intro w hw
      unfold j_R_placePhis_117 j_R_placePhis_126
      refine Ok.okN (by omega) (by decide) ?_
      rw [nJ_tn (i := i) (by omega), nJ_succ (by omega)]
      refine Ok.wr (fun M3 q3 => ?_)
      have ei : M3 13 i = M2 13 i ||| r2 := by rw [q3, up2_at, if_pos ⟨rfl, rfl⟩]
      have eo : ∀ c, c ≠ i → M3 13 c = M2 13 c := fun c hc => by rw [q3, up2_at, if_neg (fun z => hc z.2)]
      have hle : mu13 M2 ≤ mu13 M3 := sm_mono 10 fun c hc => by
        by_cases z : c = i
        · subst z; rw [ei]; exact cb_mono mono
        · rw [eo c z]; exact Int.le_refl _
      refine ih (i + 1) w M3 ⟨by rw [q3]; exact hI.fr.up (by decide) (by decide), by rw [eo 0 (Ne.symm i0)]; exact hI.z, fun c hc => ?_⟩ ?_ (by omega) (by omega)
      · by_cases z : c = i
        · subst z; rw [ei]; exact bits
        · rw [eo c z]; exact hI.six c hc
      · rcases hw with ⟨w1, w2⟩ | ⟨w1, w2 | ⟨w2, w3⟩⟩
        · exact Or.inl ⟨w1, by omega⟩
        · exact Or.inr ⟨w1, by omega⟩
        · refine Or.inr ⟨w1, ?_⟩
          have hj : ∃ j, j < 10 ∧ bt (M2 13 i) j = false ∧ bt (M2 13 i ||| r2) j = true := by
            apply Classical.byContradiction
            intro hno
            apply w3
            apply bt_ext
            intro b hb
            cases h1 : bt (M2 13 i ||| r2) b with
            | true =>
              cases h2 : bt (M2 13 i) b with
              | true => rfl
              | false => exact (hno ⟨b, by have := bits b hb h1; omega, h2, h1⟩).elim
            | false =>
              cases h2 : bt (M2 13 i) b with
              | true => rw [bt_or, h2] at h1; cases h1
              | false => rfl
          obtain ⟨j, j1, j2, j3⟩ := hj
          have : mu13 M2 < mu13 M3 := sm_more (j := i) (by rw [ei]; exact cb_more j1 j2 j3 mono) 10 (by omega) fun c hc => by
            by_cases z : c = i
            · subst z; rw [ei]; exact cb_mono mono
            · rw [eo c z]; exact Int.le_refl _
          omega
    refine Ok.ifE (fun q2 => ?_) (fun q2 => ?_)
    · refine Ok.okN (by omega) (by decide) ?_
      have hv' : m0 ≤ mu13 M2 := hv.elim (fun z => z.2) (fun z => Int.le_of_lt z.2)
      refine Ok.ifE (fun q3 => ?_) (fun q3 => ?_)
      · exact set 0 (Or.inl ⟨rfl, hv'⟩)
      · exact set 1 (Or.inr ⟨rfl, Or.inr ⟨hv', q3⟩⟩)
    · have hv' : m0 < mu13 M2 := hv.elim (fun z => absurd z.1 q2) (fun z => z.2)
      exact set 1 (Or.inr ⟨rfl, Or.inl hv'⟩)
theorem r_phi31 {P : Int32 × Sto → Prop} {k : Int32 → Sto → Option (Int32 × Sto)} {G : Sto} {B : Nat} {m0 : Int} (hP : PF G B) (hR : RRq G B)
    (hk : ∀ v M, PHI G M → (v = 0 ∧ m0 ≤ mu13 M ∨ v = 1 ∧ m0 < mu13 M) → Ok P (k v M)) :
    ∀ n i v M, PHI G M → (v = 0 ∧ m0 ≤ mu13 M ∨ v = 1 ∧ m0 < mu13 M) → i ≤ B → B - i < n → Ok P (l_R_placePhis_31 k n v (nJ i) M) := by
  intro n
  have hB := hP.hB
  induction n with
  | zero => intro i v M _ _ h1 h2; omega
  | succ n ih =>
    intro i v M hI hv hi hn
    unfold l_R_placePhis_31
    rw [hI.fr.2 1 (by decide), hP.blk]
    refine Ok.leN (by omega) (by omega) (fun q => hk v M hI hv) (fun q => ?_)
    refine r_phi41 (m0 := m0) hP hR q (fun w M1 h1 h2 => ?_) FU 0 v M hI hv (by omega) (by unfold FU; omega)
    unfold j_R_placePhis_132
    rw [nJ_succ (by omega)]
    exact ih (i + 1) w M1 h1 h2 (by omega) (by omega)
theorem r_phi23 {P : Int32 × Sto → Prop} {k : Sto → Option (Int32 × Sto)} {G : Sto} {B : Nat} (hP : PF G B) (hR : RRq G B)
    (hk : ∀ M, PHI G M → Ok P (k M)) :
    ∀ (n : Nat) v M, PHI G M → (v = 0 ∨ v = 1) → 0 < n → (v = 1 → 101 - mu13 M < (n : Int)) → Ok P (l_R_placePhis_23 k n v M) := by
  intro n
  have hB := hP.hB
  induction n with
  | zero => intro v M _ _ h1 h2; omega
  | succ n ih =>
    intro v M hI hv _ hn
    unfold l_R_placePhis_23
    refine Ok.ifE (fun _ => hk M hI) (fun q => ?_)
    have hv1 : v = 1 := hv.elim (fun z => absurd z q) (fun z => z)
    have h1 := hn hv1
    have h2 := mu13_le M
    refine r_phi31 (m0 := mu13 M) hP hR (fun w M1 g1 g2 => ?_) FU 0 0 M hI (Or.inl ⟨rfl, Int.le_refl _⟩) (by omega) (by unfold FU; omega)
    unfold j_R_placePhis_138
    refine ih w M1 g1 (g2.elim (fun z => Or.inl z.1) (fun z => Or.inr z.1)) (by omega) (fun z => ?_)
    rcases g2 with g2 | g2
    · rw [g2.1] at z; exact absurd z (by decide)
    · omega
theorem r_phi2 {P : Int32 × Sto → Prop} {k : Sto → Option (Int32 × Sto)} {G : Sto}
    (hk : ∀ M, PHI G M → Ok P (k M)) :
    ∀ n c M, Fr [13] [] G M → (∀ a, a < c → M 13 a = 0) → c ≤ 10 → 10 - c < n → Ok P (l_R_placePhis_2 k n (nJ c) M) := by
  intro n
  induction n with
  | zero => intro c M _ _ h1 h2; omega
  | succ n ih =>
    intro c M hf h1 hc hn
    unfold l_R_placePhis_2
    refine Ok.leN (a := 10) (by omega) (by omega) (fun q => ?_) (fun q => ?_)
    · exact hk M ⟨hf, h1 0 (by omega), fun a ha b hb h => by rw [h1 a (by omega), bt_zero] at h; cases h⟩
    refine Ok.okN (by omega) (by decide) ?_
    rw [nJ_tn (by omega), nJ_succ (by omega)]
    refine Ok.wr (fun M1 q1 => ?_)
    refine ih (c + 1) M1 (by rw [q1]; exact hf.up (by decide) (by decide)) (fun a ha => ?_) (by omega) (by omega)
    rw [q1, up2_at]
    by_cases z : a = c
    · rw [if_pos ⟨rfl, z⟩]
    · rw [if_neg (fun y => z y.2)]; exact h1 a (by omega)
theorem r_placePhis {G : Sto} {B : Nat} (hP : PF G B) (hR : RRq G B) : Ok (fun a => PHI G a.2) (m_R_placePhis G) := by
  unfold m_R_placePhis
  refine r_phi2 (fun M hI => ?_) FU 0 G Fr.rfl (fun a ha => by omega) (by omega) (by unfold FU; omega)
  unfold j_R_placePhis_21
  refine r_phi23 hP hR (k := j_R_placePhis_141) (P := fun a => PHI G a.2) (fun M1 hI1 => ⟨(0, M1), rfl, hI1⟩) FU 1 M hI (Or.inr rfl) (by unfold FU; omega) (fun _ => ?_)
  have h1 : 0 ≤ mu13 M := sm_ge 10 (fun b _ => cb_ge _)
  have := fu_le
  omega
end
section
theorem named_eq {M : Sto} {N : Nat} {x y : Int32} (h : M 0 17 = nJ N) (hN : N < 130) : m_R_named x y M = some (nJ N, up2 (up2 (up2 M 14 N x) 15 N y) 0 17 (nJ (N + 1))) := by
  unfold m_R_named wr
  dsimp only
  have e1 : ∀ k j v, k ≠ 0 → up2 M k j v 0 17 = nJ N := fun k j v hk => by rw [up2_ne _ _ _ (Ne.symm hk)]; exact h
  have e2 : up2 (up2 M 14 N x) 15 N y 0 17 = nJ N := by rw [up2_ne _ _ _ (by decide), up2_ne _ _ _ (by decide)]; exact h
  rw [h, nJ_tn (by omega), e1 _ _ _ (by decide), nJ_tn (by omega), e2, okN_t hN (by decide), nJ_succ (by omega)]
  have e3 : up2 (up2 (up2 M 14 N x) 15 N y) 0 17 (nJ (N + 1)) 0 17 = nJ (N + 1) := by rw [up2_at, if_pos ⟨rfl, rfl⟩]
  have e4 : nJ (N + 1) - 1 = nJ N := by
    apply Int32.toInt_inj.mp
    have n1 : (1 : Int32).toInt = 1 := rfl
    have h1 := nJ_int (i := N + 1) (by omega)
    rw [subI (by omega) (by omega), nJ_int (i := N) (by omega)]; omega
  simp only [if_true]
  rw [e3, e4]
theorem r_usesFirst {α : Type} {P : α → Prop} {x : Int32} {M : Sto} {X Y : Int32 × Sto → Option α} (h1 : x ≠ 0 → x ≠ 6 → Ok P (Y (1, M))) (h0 : (x = 0 ∨ x = 6) → Ok P (X (0, M))) :
    Ok P ((m_R_usesFirst x M).bind fun o => if o.1 = 0 then X o else Y o) := by
  unfold m_R_usesFirst
  by_cases h : x = 0
  · rw [if_pos h]; exact h0 (Or.inl h)
  · rw [if_neg h]
    by_cases h2 : x = 6
    · rw [if_pos h2]; exact h0 (Or.inr h2)
    · rw [if_neg h2]; exact h1 h h2
theorem r_usesSecond {α : Type} {P : α → Prop} {x : Int32} {t : Nat} {M : Sto} {X Y : Int32 × Sto → Option α} (ht : t < 8) (hx : x = nJ t) (h1 : x ≠ 0 → x ≠ 1 → x ≠ 6 → x ≠ 7 → Ok P (Y (1, M))) (h0 : (x = 0 ∨ x = 1 ∨ x = 6 ∨ x = 7) → Ok P (X (0, M))) :
    Ok P ((m_R_usesSecond x M).bind fun o => if o.1 = 0 then X o else Y o) := by
  unfold m_R_usesSecond
  have hn : ∀ y : Nat, y < 8 → (x = nJ y ↔ t = y) := fun y hy => ⟨fun e => nJ_inj (by omega) (by omega) (hx.symm.trans e), fun e => by rw [hx, e]⟩
  have e0 := hn 0 (by omega)
  have e1 := hn 1 (by omega)
  have e6 := hn 6 (by omega)
  have e7 := hn 7 (by omega)
  have ex := nJ_int (i := t) (by omega)
  rw [← hx] at ex
  have n1 : (1 : Int32).toInt = 1 := rfl
  have n6 : (6 : Int32).toInt = 6 := rfl
  by_cases h : x ≤ 1
  · rw [if_pos h]
    have h := Int32.le_iff_toInt_le.mp h
    refine h0 ?_
    by_cases z : t = 0
    · exact Or.inl (e0.mpr z)
    · exact Or.inr (Or.inl (e1.mpr (by omega)))
  · rw [if_neg h]
    have h : ¬ x.toInt ≤ (1 : Int32).toInt := fun q => h (Int32.le_iff_toInt_le.mpr q)
    by_cases h2 : 6 ≤ x
    · rw [if_pos h2]
      have h2 := Int32.le_iff_toInt_le.mp h2
      refine h0 (Or.inr (Or.inr ?_))
      by_cases z : t = 6
      · exact Or.inl (e6.mpr z)
      · exact Or.inr (e7.mpr (by omega))
    · rw [if_neg h2]
      have h2 : ¬ (6 : Int32).toInt ≤ x.toInt := fun q => h2 (Int32.le_iff_toInt_le.mpr q)
      exact h1 (fun q => by have := e0.mp q; omega) (fun q => by have := e1.mp q; omega) (fun q => by have := e6.mp q; omega) (fun q => by have := e7.mp q; omega)
def InSw (M : Sto) (b w n : Nat) : Prop := (bt (M 13 b) w = true ∧ M 16 (6 * b + w) = nJ n) ∨ (bt (M 13 b) w = false ∧ ((b = 0 ∧ n = w) ∨ (b ≠ 0 ∧ ∃ p, p < 10 ∧ p ≠ b ∧ M 12 b = nJ p ∧ M 21 (6 * p + w) = nJ n)))
def Av (M : Sto) (b i n : Nat) : Prop := (∃ w, w < 6 ∧ InSw M b w n) ∨ ∃ j, j < i ∧ M 2 (6 * b + j) ≠ 7 ∧ M 17 (6 * b + j) = nJ n
def PhN (M : Sto) (N b w : Nat) : Prop := bt (M 13 b) w = true → ∃ n, 6 ≤ n ∧ n < N ∧ M 16 (6 * b + w) = nJ n ∧ M 15 n = (-1) - nJ (6 * b + w)
def Ins (M : Sto) (N b i : Nat) : Prop := (M 2 (6 * b + i) ≠ 7 → ∃ n, 6 ≤ n ∧ n < N ∧ M 17 (6 * b + i) = nJ n ∧ M 15 n = nJ (6 * b + i)) ∧ (M 2 (6 * b + i) = 7 → M 17 (6 * b + i) = -1) ∧ (M 2 (6 * b + i) ≠ 0 → M 2 (6 * b + i) ≠ 6 → ∃ n, n < N ∧ M 18 (6 * b + i) = nJ n ∧ Av M b i n) ∧ ((M 2 (6 * b + i) = 0 ∨ M 2 (6 * b + i) = 6) → M 18 (6 * b + i) = -1) ∧ (M 2 (6 * b + i) ≠ 0 → M 2 (6 * b + i) ≠ 1 → M 2 (6 * b + i) ≠ 6 → M 2 (6 * b + i) ≠ 7 → ∃ n, n < N ∧ M 19 (6 * b + i) = nJ n ∧ Av M b i n) ∧ ((M 2 (6 * b + i) = 0 ∨ M 2 (6 * b + i) = 1 ∨ M 2 (6 * b + i) = 6 ∨ M 2 (6 * b + i) = 7) → M 19 (6 * b + i) = -1)
theorem Ins.md {M : Sto} {N b i : Nat} (h : Ins M N b i) : M 2 (6 * b + i) ≠ 7 → ∃ n, 6 ≤ n ∧ n < N ∧ M 17 (6 * b + i) = nJ n ∧ M 15 n = nJ (6 * b + i) := h.1
theorem Ins.mt {M : Sto} {N b i : Nat} (h : Ins M N b i) : M 2 (6 * b + i) = 7 → M 17 (6 * b + i) = -1 := h.2.1
theorem Ins.ux {M : Sto} {N b i : Nat} (h : Ins M N b i) : M 2 (6 * b + i) ≠ 0 → M 2 (6 * b + i) ≠ 6 → ∃ n, n < N ∧ M 18 (6 * b + i) = nJ n ∧ Av M b i n := h.2.2.1
theorem Ins.un {M : Sto} {N b i : Nat} (h : Ins M N b i) : (M 2 (6 * b + i) = 0 ∨ M 2 (6 * b + i) = 6) → M 18 (6 * b + i) = -1 := h.2.2.2.1
theorem Ins.uy {M : Sto} {N b i : Nat} (h : Ins M N b i) : M 2 (6 * b + i) ≠ 0 → M 2 (6 * b + i) ≠ 1 → M 2 (6 * b + i) ≠ 6 → M 2 (6 * b + i) ≠ 7 → ∃ n, n < N ∧ M 19 (6 * b + i) = nJ n ∧ Av M b i n := h.2.2.2.2.1
theorem Ins.uz {M : Sto} {N b i : Nat} (h : Ins M N b i) : (M 2 (6 * b + i) = 0 ∨ M 2 (6 * b + i) = 1 ∨ M 2 (6 * b + i) = 6 ∨ M 2 (6 * b + i) = 7) → M 19 (6 * b + i) = -1 := h.2.2.2.2.2
def lenN (M : Sto) (b : Nat) : Nat := (M 1 b).toNatClampNeg
def NB (M : Sto) (N b : Nat) : Prop := (∀ w, w < 6 → ∃ n, n < N ∧ M 21 (6 * b + w) = nJ n ∧ Av M b (lenN M b) n) ∧ (∀ w, w < 6 → PhN M N b w) ∧ (∀ i, i < lenN M b → Ins M N b i) ∧ (M 6 b = 2 → ∃ n, n < N ∧ M 20 b = nJ n ∧ Av M b (lenN M b) n) ∧ (M 6 b ≠ 2 → M 20 b = -1)
theorem NB.cur {M : Sto} {N b : Nat} (h : NB M N b) : ∀ w, w < 6 → ∃ n, n < N ∧ M 21 (6 * b + w) = nJ n ∧ Av M b (lenN M b) n := h.1
theorem NB.ph {M : Sto} {N b : Nat} (h : NB M N b) : ∀ w, w < 6 → PhN M N b w := h.2.1
theorem NB.ins {M : Sto} {N b : Nat} (h : NB M N b) : ∀ i, i < lenN M b → Ins M N b i := h.2.2.1
theorem NB.ts {M : Sto} {N b : Nat} (h : NB M N b) : M 6 b = 2 → ∃ n, n < N ∧ M 20 b = nJ n ∧ Av M b (lenN M b) n := h.2.2.2.1
theorem NB.tn {M : Sto} {N b : Nat} (h : NB M N b) : M 6 b ≠ 2 → M 20 b = -1 := h.2.2.2.2
def NS (G0 : Sto) (N0 b K : Nat) (M : Sto) (N : Nat) : Prop := (Fr [14, 15, 16, 17, 18, 19, 20, 21] [17] G0 M) ∧ (∀ k, k = 16 ∨ k = 17 ∨ k = 18 ∨ k = 19 ∨ k = 21 → ∀ x, ¬ (6 * b ≤ x ∧ x < 6 * b + 6) → M k x = G0 k x) ∧ (∀ x, x ≠ b → M 20 x = G0 20 x) ∧ (∀ n, n < N0 → M 14 n = G0 14 n ∧ M 15 n = G0 15 n) ∧ (M 0 17 = nJ N) ∧ (N0 ≤ N) ∧ (N ≤ N0 + K) ∧ (∀ n, N0 ≤ n → n < N → ∃ j, (j < lenN G0 b ∧ M 15 n = nJ (6 * b + j)) ∨ (j < 6 ∧ M 15 n = (-1) - nJ (6 * b + j)))
theorem NS.fr {G0 : Sto} {N0 b K : Nat} {M : Sto} {N : Nat} (h : NS G0 N0 b K M N) : Fr [14, 15, 16, 17, 18, 19, 20, 21] [17] G0 M := h.1
theorem NS.row {G0 : Sto} {N0 b K : Nat} {M : Sto} {N : Nat} (h : NS G0 N0 b K M N) : ∀ k, k = 16 ∨ k = 17 ∨ k = 18 ∨ k = 19 ∨ k = 21 → ∀ x, ¬ (6 * b ≤ x ∧ x < 6 * b + 6) → M k x = G0 k x := h.2.1
theorem NS.r20 {G0 : Sto} {N0 b K : Nat} {M : Sto} {N : Nat} (h : NS G0 N0 b K M N) : ∀ x, x ≠ b → M 20 x = G0 20 x := h.2.2.1
theorem NS.old {G0 : Sto} {N0 b K : Nat} {M : Sto} {N : Nat} (h : NS G0 N0 b K M N) : ∀ n, n < N0 → M 14 n = G0 14 n ∧ M 15 n = G0 15 n := h.2.2.2.1
theorem NS.num {G0 : Sto} {N0 b K : Nat} {M : Sto} {N : Nat} (h : NS G0 N0 b K M N) : M 0 17 = nJ N := h.2.2.2.2.1
theorem NS.lo {G0 : Sto} {N0 b K : Nat} {M : Sto} {N : Nat} (h : NS G0 N0 b K M N) : N0 ≤ N := h.2.2.2.2.2.1
theorem NS.hi {G0 : Sto} {N0 b K : Nat} {M : Sto} {N : Nat} (h : NS G0 N0 b K M N) : N ≤ N0 + K := h.2.2.2.2.2.2.1
theorem NS.sit {G0 : Sto} {N0 b K : Nat} {M : Sto} {N : Nat} (h : NS G0 N0 b K M N) : ∀ n, N0 ≤ n → n < N → ∃ j, (j < lenN G0 b ∧ M 15 n = nJ (6 * b + j)) ∨ (j < 6 ∧ M 15 n = (-1) - nJ (6 * b + j)) := h.2.2.2.2.2.2.2
theorem InSw.fr {M M1 : Sto} {b w n : Nat} (h : InSw M b w n) (e13 : M1 13 = M 13) (e16 : ∀ x, x = 6 * b + w → bt (M 13 b) w = true → M1 16 x = M 16 x) (e12 : M1 12 = M 12) (e21 : ∀ p, b ≠ 0 → p ≠ b → M 12 b = nJ p → p < 10 → M1 21 (6 * p + w) = M 21 (6 * p + w)) : InSw M1 b w n := by
  rcases h with ⟨h1, h2⟩ | ⟨h1, h2⟩
  · exact Or.inl ⟨by rw [e13]; exact h1, by rw [e16 _ rfl h1]; exact h2⟩
  · refine Or.inr ⟨by rw [e13]; exact h1, h2.elim Or.inl fun ⟨h3, p, p1, p2, p3, p4⟩ => Or.inr ⟨h3, p, p1, p2, by rw [e12]; exact p3, by rw [e21 p h3 p2 p3 p1]; exact p4⟩⟩
theorem Av.fr {M M1 : Sto} {b i n : Nat} (h : Av M b i n) (e13 : M1 13 = M 13) (e16 : ∀ w, w < 6 → M1 16 (6 * b + w) = M 16 (6 * b + w)) (e12 : M1 12 = M 12) (e2 : M1 2 = M 2) (e21 : ∀ p w, b ≠ 0 → p ≠ b → M 12 b = nJ p → p < 10 → w < 6 → M1 21 (6 * p + w) = M 21 (6 * p + w)) (e17 : ∀ j, j < i → M1 17 (6 * b + j) = M 17 (6 * b + j)) : Av M1 b i n := by
  rcases h with ⟨w, w1, w2⟩ | ⟨j, j1, j2, j3⟩
  · exact Or.inl ⟨w, w1, w2.fr e13 (fun x hx _ => by rw [hx]; exact e16 w w1) e12 (fun p hp0 hp hp2 hp3 => e21 p w hp0 hp hp2 hp3 w1)⟩
  · exact Or.inr ⟨j, j1, by rw [e2]; exact j2, by rw [e17 j j1]; exact j3⟩
theorem Av.up {M : Sto} {b i n : Nat} (h : Av M b i n) : Av M b (i + 1) n := h.elim Or.inl fun ⟨j, j1, j2⟩ => Or.inr ⟨j, by omega, j2⟩
theorem r_nb7 {P : Int32 × Sto → Prop} {k : Int32 → Int32 → Sto → Option (Int32 × Sto)} {G0 : Sto} {N0 b : Nat} (hb : b < 10) (hN : 6 ≤ N0) (hN2 : N0 + 12 ≤ 130)
    (hp : b ≠ 0 → ∃ p, p < 10 ∧ p ≠ b ∧ G0 12 b = nJ p ∧ ∀ w, w < 6 → ∃ n, n < N0 ∧ G0 21 (6 * p + w) = nJ n)
    (hk : ∀ M N, NS G0 N0 b 6 M N → (∀ w, w < 6 → ∃ n, n < N ∧ M 21 (6 * b + w) = nJ n ∧ InSw M b w n) → (∀ w, w < 6 → PhN M N b w) → Ok P (k (nJ b) (nJ (6 * b)) M)) :
    ∀ n v M N, NS G0 N0 b v M N → (∀ w, w < v → ∃ n, n < N ∧ M 21 (6 * b + w) = nJ n ∧ InSw M b w n) → (∀ w, w < v → PhN M N b w) → v ≤ 6 → 6 - v < n → Ok P (l_R_nameBlock_7 k n (nJ b) (nJ (6 * b)) (nJ v) M) := by
  intro n
  induction n with
  | zero => intro v M N _ _ _ h1 h2; omega
  | succ n ih =>
    intro v M N hS hc hph hv hn
    have hlo := hS.lo
    have hhi := hS.hi
    unfold l_R_nameBlock_7
    refine Ok.leN (a := 6) (by omega) (by omega) (fun q => ?_) (fun q => ?_)
    · have : v = 6 := by omega
      subst this
      exact hk M N hS hc hph
    rw [nJ_add (by omega)]
    have e13 : M 13 = G0 13 := hS.fr.1 13 (by decide) (by decide)
    have e12 : M 12 = G0 12 := hS.fr.1 12 (by decide) (by decide)
    have go : ∀ m, m < N0 → (bt (M 13 b) v = false → (b = 0 ∧ m = v) ∨ (b ≠ 0 ∧ ∃ p, p < 10 ∧ p ≠ b ∧ M 12 b = nJ p ∧ M 21 (6 * p + v) = nJ m)) → Ok P (j_R_nameBlock_44 (l_R_nameBlock_7 k n) k (nJ m) (nJ (6 * b + v)) (nJ b) (nJ (6 * b)) (nJ v) M) := by
      intro m hm hin
      unfold j_R_nameBlock_44 j_R_nameBlock_92
      refine Ok.okN (by omega) (by decide) ?_
      rw [nJ_tn (i := 6 * b + v) (by omega)]
      refine Ok.wr (fun M1 q1 => ?_)
      have f1 : NS G0 N0 b v M1 N := ⟨by rw [q1]; exact hS.fr.up (by decide) (by decide), fun k hk x hx => by
          rw [q1, up2_at, if_neg (fun z => hx (by omega))]; exact hS.row k hk x hx, fun x hx => by rw [q1, up2_ne _ _ _ (by decide)]; exact hS.r20 x hx, fun n hn => by
          rw [q1, up2_ne _ _ _ (by decide), up2_ne _ _ _ (by decide)]; exact hS.old n hn, by rw [q1, up2_ne _ _ _ (by decide)]; exact hS.num, hlo, hhi, by rw [q1, up2_ne _ _ _ (by decide)]; exact hS.sit⟩
      refine Ok.okN (by omega) (by decide) ?_
      rw [nJ_tn (i := b) (by omega), nJ_succ (by omega), nJ_add (by omega)]
      have a13 : M1 13 = M 13 := by rw [q1, up2_ne _ _ _ (by decide)]
      have a12 : M1 12 = M 12 := by rw [q1, up2_ne _ _ _ (by decide)]
      have a16 : M1 16 = M 16 := by rw [q1, up2_ne _ _ _ (by decide)]
      have a15 : M1 15 = M 15 := by rw [q1, up2_ne _ _ _ (by decide)]
      have a21 : ∀ x, x ≠ 6 * b + v → M1 21 x = M 21 x := fun x hx => by rw [q1, up2_at, if_neg (fun z => hx z.2)]
      have b21 : M1 21 (6 * b + v) = nJ m := by rw [q1, up2_at, if_pos ⟨rfl, rfl⟩]
      refine Ok.has (by omega) (fun g => ?_) (fun g => ?_)
      · dsimp only
        rw [named_eq f1.num (by omega)]
        refine Ok.bindS ?_
        dsimp only
        refine Ok.okN (by omega) (by decide) ?_
        rw [nJ_tn (i := 6 * b + v) (by omega)]
        refine Ok.wr (fun M2 q2 => ?_)
        refine Ok.okN (by omega) (by decide) ?_
        refine Ok.okN (by omega) (by decide) ?_
        have e16 : M2 16 (6 * b + v) = nJ N := by rw [q2, up2_at, if_pos ⟨rfl, rfl⟩]
        rw [e16]
        refine Ok.wr (fun M3 q3 => ?_)
        have c16 : ∀ x, x ≠ 6 * b + v → M3 16 x = M 16 x := fun x hx => by
          rw [q3, up2_ne _ _ _ (by decide), q2, up2_at, if_neg (fun z => hx z.2), up2_ne _ _ _ (by decide), up2_ne _ _ _ (by decide), up2_ne _ _ _ (by decide), a16]
        have d16 : M3 16 (6 * b + v) = nJ N := by rw [q3, up2_ne _ _ _ (by decide)]; exact e16
        have c21 : ∀ x, x ≠ 6 * b + v → M3 21 x = M 21 x := fun x hx => by
          rw [q3, up2_at, if_neg (fun z => hx z.2), q2, up2_ne _ _ _ (by decide), up2_ne _ _ _ (by decide), up2_ne _ _ _ (by decide), up2_ne _ _ _ (by decide), a21 x hx]
        have d21 : M3 21 (6 * b + v) = nJ N := by rw [q3, up2_at, if_pos ⟨rfl, rfl⟩]
        have c13 : M3 13 = M 13 := by rw [q3, up2_ne _ _ _ (by decide), q2, up2_ne _ _ _ (by decide), up2_ne _ _ _ (by decide), up2_ne _ _ _ (by decide), up2_ne _ _ _ (by decide), a13]
        have c12 : M3 12 = M 12 := by rw [q3, up2_ne _ _ _ (by decide), q2, up2_ne _ _ _ (by decide), up2_ne _ _ _ (by decide), up2_ne _ _ _ (by decide), up2_ne _ _ _ (by decide), a12]
        have c15 : ∀ x, x ≠ N → M3 15 x = M 15 x := fun x hx => by
          rw [q3, up2_ne _ _ _ (by decide), q2, up2_ne _ _ _ (by decide), up2_ne _ _ _ (by decide), up2_at, if_neg (fun z => hx z.2), up2_ne _ _ _ (by decide), a15]
        have d15 : M3 15 N = (-1) - nJ (6 * b + v) := by
          rw [q3, up2_ne _ _ _ (by decide), q2, up2_ne _ _ _ (by decide), up2_ne _ _ _ (by decide), up2_at, if_pos ⟨rfl, rfl⟩]
        have f3 : NS G0 N0 b (v + 1) M3 (N + 1) := by
          refine ⟨?_, fun k hk x hx => ?_, fun x hx => ?_, fun n hn => ?_, ?_, by omega, by omega, fun n hn1 hn2 => ?_⟩
          · rw [q3, q2]; exact ((((f1.fr.up (by decide) (by decide)).up (by decide) (by decide)).up0 (by decide)).up (by decide) (by decide)).up (by decide) (by decide)
          · have hne : x ≠ 6 * b + v := fun z => hx (by omega)
            rw [← f1.row k hk x hx, q3, up2_at, if_neg (fun z => hne z.2), q2, up2_at, if_neg (fun z => hne z.2), up2_ne _ _ _ (by omega), up2_ne _ _ _ (by omega), up2_ne _ _ _ (by omega)]
          · rw [← f1.r20 x hx, q3, up2_ne _ _ _ (by decide), q2, up2_ne _ _ _ (by decide), up2_ne _ _ _ (by decide), up2_ne _ _ _ (by decide), up2_ne _ _ _ (by decide)]
          · refine ⟨?_, ?_⟩
            · rw [← (f1.old n hn).1, q3, up2_ne _ _ _ (by decide), q2, up2_ne _ _ _ (by decide), up2_ne _ _ _ (by decide), up2_ne _ _ _ (by decide), up2_at, if_neg (fun z => by have := z.2; omega)]
            · rw [← (f1.old n hn).2, q3, up2_ne _ _ _ (by decide), q2, up2_ne _ _ _ (by decide), up2_ne _ _ _ (by decide), up2_at, if_neg (fun z => by have := z.2; omega), up2_ne _ _ _ (by decide)]
          · rw [q3, up2_ne _ _ _ (by decide), q2, up2_ne _ _ _ (by decide), up2_at, if_pos ⟨rfl, rfl⟩]
          · by_cases z : n = N
            · rw [z]; exact ⟨v, Or.inr ⟨by omega, d15⟩⟩
            · rw [c15 n z]; exact hS.sit n hn1 (by omega)
        refine ih (v + 1) M3 (N + 1) f3 (fun w hw => ?_) (fun w hw => ?_) (by omega) (by omega)
        · by_cases z : w = v
          · subst z
            exact ⟨N, by omega, d21, Or.inl ⟨by rw [c13, ← a13]; exact g, d16⟩⟩
          · obtain ⟨x, x1, x2, x3⟩ := hc w (by omega)
            exact ⟨x, by omega, by rw [c21 _ (by omega)]; exact x2, x3.fr c13 (fun y hy _ => c16 y (by omega)) c12 (fun p _ hp _ _ => c21 _ (by omega))⟩
        · intro hg
          by_cases z : w = v
          · subst z
            exact ⟨N, by omega, by omega, d16, d15⟩
          · rw [c13] at hg
            obtain ⟨x, x1, x2, x3, x4⟩ := hph w (by omega) hg
            exact ⟨x, x1, by omega, by rw [c16 _ (by omega)]; exact x3, by rw [c15 x (by omega)]; exact x4⟩
      · dsimp only
        refine ih (v + 1) M1 N ⟨f1.fr, f1.row, f1.r20, f1.old, f1.num, hlo, by omega, f1.sit⟩ (fun w hw => ?_) (fun w hw => ?_) (by omega) (by omega)
        · by_cases z : w = v
          · subst z
            rw [a13] at g
            refine ⟨m, by omega, b21, Or.inr ⟨by rw [a13]; exact g, (hin g).elim Or.inl fun ⟨h3, p, p1, p2, p3, p4⟩ => Or.inr ⟨h3, p, p1, p2, by rw [a12]; exact p3, by rw [a21 _ (by omega)]; exact p4⟩⟩⟩
          · obtain ⟨x, x1, x2, x3⟩ := hc w (by omega)
            exact ⟨x, by omega, by rw [a21 _ (by omega)]; exact x2, x3.fr a13 (fun y hy _ => by rw [a16]) a12 (fun p _ hp _ _ => a21 _ (by omega))⟩
        · intro hg
          by_cases z : w = v
          · subst z; rw [g] at hg; cases hg
          · rw [a13] at hg
            obtain ⟨x, x1, x2, x3, x4⟩ := hph w (by omega) hg
            exact ⟨x, x1, by omega, by rw [a16]; exact x3, by rw [a15]; exact x4⟩
    refine Ok.ifE (fun q1 => ?_) (fun q1 => ?_)
    · have b0 : b = 0 := nJ_inj (by omega) (by omega) q1
      exact go v (by omega) (fun _ => Or.inl ⟨b0, rfl⟩)
    · have b0 : b ≠ 0 := fun z => q1 (by rw [z]; rfl)
      refine Ok.okN (by omega) (by decide) ?_
      obtain ⟨p, p1, p2, p3, p4⟩ := hp b0
      obtain ⟨m, m1, m2⟩ := p4 v (by omega)
      rw [nJ_tn (i := b) (by omega), e12, p3, nJ_mul6 (by omega), nJ_add (by omega)]
      refine Ok.okN (by omega) (by decide) ?_
      have e21 : M 21 (6 * p + v) = nJ m := by rw [hS.row 21 (by decide) _ (by omega)]; exact m2
      rw [nJ_tn (i := 6 * p + v) (by omega), e21]
      exact go m m1 (fun _ => Or.inr ⟨b0, p, p1, p2, by rw [e12]; exact p3, e21⟩)
end
section
def N8 (G0 : Sto) (N0 b i : Nat) (M : Sto) (N : Nat) : Prop := (NS G0 N0 b (6 + i) M N) ∧ (∀ w, w < 6 → ∃ n, n < N ∧ M 21 (6 * b + w) = nJ n ∧ Av M b i n) ∧ (∀ w, w < 6 → PhN M N b w) ∧ (∀ j, j < i → Ins M N b j)
theorem N8.s {G0 : Sto} {N0 b i : Nat} {M : Sto} {N : Nat} (h : N8 G0 N0 b i M N) : NS G0 N0 b (6 + i) M N := h.1
theorem N8.cur {G0 : Sto} {N0 b i : Nat} {M : Sto} {N : Nat} (h : N8 G0 N0 b i M N) : ∀ w, w < 6 → ∃ n, n < N ∧ M 21 (6 * b + w) = nJ n ∧ Av M b i n := h.2.1
theorem N8.ph {G0 : Sto} {N0 b i : Nat} {M : Sto} {N : Nat} (h : N8 G0 N0 b i M N) : ∀ w, w < 6 → PhN M N b w := h.2.2.1
theorem N8.ins {G0 : Sto} {N0 b i : Nat} {M : Sto} {N : Nat} (h : N8 G0 N0 b i M N) : ∀ j, j < i → Ins M N b j := h.2.2.2
theorem Ins.fr {M M1 : Sto} {N N1 b i : Nat} (h : Ins M N b i) (hN : N ≤ N1) (e2 : M1 2 = M 2) (e15 : ∀ n, n < N → M1 15 n = M 15 n) (e17 : M1 17 (6 * b + i) = M 17 (6 * b + i)) (e18 : M1 18 (6 * b + i) = M 18 (6 * b + i)) (e19 : M1 19 (6 * b + i) = M 19 (6 * b + i)) (hA : ∀ n, Av M b i n → Av M1 b i n) : Ins M1 N1 b i := by
  refine ⟨fun q => ?_, fun q => ?_, fun q1 q2 => ?_, fun q => ?_, fun q1 q2 q3 q4 => ?_, fun q => ?_⟩
  · rw [e2] at q
    obtain ⟨n, n1, n2, n3, n4⟩ := h.md q
    exact ⟨n, n1, by omega, by rw [e17]; exact n3, by rw [e15 n n2]; exact n4⟩
  · rw [e2] at q; rw [e17]; exact h.mt q
  · rw [e2] at q1 q2
    obtain ⟨n, n1, n2, n3⟩ := h.ux q1 q2
    exact ⟨n, by omega, by rw [e18]; exact n2, hA n n3⟩
  · rw [e2] at q; rw [e18]; exact h.un q
  · rw [e2] at q1 q2 q3 q4
    obtain ⟨n, n1, n2, n3⟩ := h.uy q1 q2 q3 q4
    exact ⟨n, by omega, by rw [e19]; exact n2, hA n n3⟩
  · rw [e2] at q; rw [e19]; exact h.uz q
theorem PhN.fr {M M1 : Sto} {N N1 b w : Nat} (h : PhN M N b w) (hN : N ≤ N1) (e13 : M1 13 = M 13) (e16 : M1 16 (6 * b + w) = M 16 (6 * b + w)) (e15 : ∀ n, n < N → M1 15 n = M 15 n) : PhN M1 N1 b w := by
  intro hg
  rw [e13] at hg
  obtain ⟨n, n1, n2, n3, n4⟩ := h hg
  exact ⟨n, n1, by omega, by rw [e16]; exact n3, by rw [e15 n n2]; exact n4⟩
theorem r_nb100 {P : Int32 × Sto → Prop} {k : Int32 → Int32 → Sto → Option (Int32 × Sto)} {G0 : Sto} {B N0 b l : Nat} (hP : PF G0 B) (hb : b < 10) (hN : 6 ≤ N0) (hN2 : N0 + 12 ≤ 130) (hl : l ≤ 6) (hle : G0 1 b = nJ l)
    (hk : ∀ M N, N8 G0 N0 b l M N → Ok P (k (nJ b) (nJ (6 * b)) M)) :
    ∀ n i M N, N8 G0 N0 b i M N → i ≤ l → l - i < n → Ok P (l_R_nameBlock_100 k n (nJ b) (nJ (6 * b)) (nJ (6 * b + i)) M) := by
  intro n
  induction n with
  | zero => intro i M N _ h1 h2; omega
  | succ n ih =>
    intro i M N h8 hi hn
    have hS := h8.s
    have hlo := hS.lo
    have hhi := hS.hi
    have e1 : M 1 = G0 1 := hS.fr.1 1 (by decide) (by decide)
    have e2 : M 2 = G0 2 := hS.fr.1 2 (by decide) (by decide)
    have e3 : M 3 = G0 3 := hS.fr.1 3 (by decide) (by decide)
    have e4 : M 4 = G0 4 := hS.fr.1 4 (by decide) (by decide)
    have e5 : M 5 = G0 5 := hS.fr.1 5 (by decide) (by decide)
    unfold l_R_nameBlock_100
    refine Ok.okN (by omega) (by decide) ?_
    rw [nJ_tn (i := b) (by omega), e1, hle, nJ_add (by omega)]
    refine Ok.leN (by omega) (by omega) (fun q => ?_) (fun q => ?_)
    · have : i = l := by omega
      subst this
      exact hk M N h8
    refine Ok.okN (by omega) (by decide) ?_
    rw [nJ_tn (i := 6 * b + i) (by omega)]
    have fin : ∀ a c, (M 2 (6 * b + i) ≠ 0 → M 2 (6 * b + i) ≠ 6 → ∃ n, n < N ∧ a = nJ n ∧ Av M b i n) → ((M 2 (6 * b + i) = 0 ∨ M 2 (6 * b + i) = 6) → a = -1) →
        (M 2 (6 * b + i) ≠ 0 → M 2 (6 * b + i) ≠ 1 → M 2 (6 * b + i) ≠ 6 → M 2 (6 * b + i) ≠ 7 → ∃ n, n < N ∧ c = nJ n ∧ Av M b i n) → ((M 2 (6 * b + i) = 0 ∨ M 2 (6 * b + i) = 1 ∨ M 2 (6 * b + i) = 6 ∨ M 2 (6 * b + i) = 7) → c = -1) →
        Ok P (j_R_nameBlock_181 (l_R_nameBlock_100 k n) k c (nJ (6 * b + i)) (nJ b) (nJ (6 * b)) (nJ (6 * b + i)) (M 2 (6 * b + i)) (up2 M 18 (6 * b + i) a)) := by
      intro a c ha1 ha2 hc1 hc2
      unfold j_R_nameBlock_181 j_R_nameBlock_205 j_R_nameBlock_233
      refine Ok.okN (by omega) (by decide) ?_
      rw [nJ_tn (i := 6 * b + i) (by omega)]
      refine Ok.wr (fun M5 q5 => ?_)
      have n5 : M5 0 17 = nJ N := by rw [q5, up2_ne _ _ _ (by decide), up2_ne _ _ _ (by decide)]; exact hS.num
      rw [nJ_succ (by omega)]
      refine r_setsOne (fun g => ?_) (fun g => ?_)
      · dsimp only
        rw [named_eq n5 (by omega)]
        refine Ok.bindS ?_
        dsimp only
        refine Ok.okN (by omega) (by decide) ?_
        refine Ok.wr (fun M7 q7 => ?_)
        refine r_setsOne (fun _ => ?_) (fun g2 => absurd g2 g)
        dsimp only
        refine Ok.okN (by omega) (by decide) ?_
        refine Ok.okN (by omega) (by decide) ?_
        have u3 : M7 3 = G0 3 := by rw [q7, up2_ne _ _ _ (by decide), up2_ne _ _ _ (by decide), up2_ne _ _ _ (by decide), up2_ne _ _ _ (by decide), q5, up2_ne _ _ _ (by decide), up2_ne _ _ _ (by decide)]; exact e3
        obtain ⟨d, d1, d2⟩ := hP.dst (6 * b + i) (by rw [← e2]; exact g)
        refine Ok.okE (i := 6 * b + d) (by rw [u3, d2, nJ_add (by omega)]) (by omega) (by decide) ?_
        rw [u3, d2, nJ_add (by omega), nJ_tn (i := 6 * b + d) (by omega)]
        have v17 : M7 17 (6 * b + i) = nJ N := by rw [q7, up2_at, if_pos ⟨rfl, rfl⟩]
        rw [v17]
        refine Ok.wr (fun M9 q9 => ?_)
        have un : ∀ k, k ≠ 0 → k ≠ 14 → k ≠ 15 → k ≠ 17 → k ≠ 18 → k ≠ 19 → k ≠ 21 → M9 k = M k := fun k h0 h1 h2 h3 h4 h5 h6 => by
          rw [q9, up2_ne _ _ _ h6, q7, up2_ne _ _ _ h3, up2_ne _ _ _ h0, up2_ne _ _ _ h2, up2_ne _ _ _ h1, q5, up2_ne _ _ _ h5, up2_ne _ _ _ h4]
        have u17 : ∀ x, x ≠ 6 * b + i → M9 17 x = M 17 x := fun x hx => by
          rw [q9, up2_ne _ _ _ (by decide), q7, up2_at, if_neg (fun z => hx z.2), up2_ne _ _ _ (by decide), up2_ne _ _ _ (by decide), up2_ne _ _ _ (by decide), q5, up2_ne _ _ _ (by decide), up2_ne _ _ _ (by decide)]
        have w17 : M9 17 (6 * b + i) = nJ N := by rw [q9, up2_ne _ _ _ (by decide)]; exact v17
        have u18 : ∀ x, M9 18 x = if x = 6 * b + i then a else M 18 x := fun x => by
          rw [q9, up2_ne _ _ _ (by decide), q7, up2_ne _ _ _ (by decide), up2_ne _ _ _ (by decide), up2_ne _ _ _ (by decide), up2_ne _ _ _ (by decide), q5, up2_ne _ _ _ (by decide), up2_at]
          by_cases z : x = 6 * b + i
          · rw [if_pos ⟨rfl, z⟩, if_pos z]
          · rw [if_neg (fun y => z y.2), if_neg z]
        have u19 : ∀ x, M9 19 x = if x = 6 * b + i then c else M 19 x := fun x => by
          rw [q9, up2_ne _ _ _ (by decide), q7, up2_ne _ _ _ (by decide), up2_ne _ _ _ (by decide), up2_ne _ _ _ (by decide), up2_ne _ _ _ (by decide), q5, up2_at]
          by_cases z : x = 6 * b + i
          · rw [if_pos ⟨rfl, z⟩, if_pos z]
          · rw [if_neg (fun y => z y.2), if_neg z, up2_ne _ _ _ (by decide)]
        have u21 : ∀ x, x ≠ 6 * b + d → M9 21 x = M 21 x := fun x hx => by
          rw [q9, up2_at, if_neg (fun z => hx z.2), q7, up2_ne _ _ _ (by decide), up2_ne _ _ _ (by decide), up2_ne _ _ _ (by decide), up2_ne _ _ _ (by decide), q5, up2_ne _ _ _ (by decide), up2_ne _ _ _ (by decide)]
        have w21 : M9 21 (6 * b + d) = nJ N := by rw [q9, up2_at, if_pos ⟨rfl, rfl⟩]
        have u14 : ∀ x, x ≠ N → M9 14 x = M 14 x := fun x hx => by
          rw [q9, up2_ne _ _ _ (by decide), q7, up2_ne _ _ _ (by decide), up2_ne _ _ _ (by decide), up2_ne _ _ _ (by decide), up2_at, if_neg (fun z => hx z.2), q5, up2_ne _ _ _ (by decide), up2_ne _ _ _ (by decide)]
        have u15 : ∀ x, x ≠ N → M9 15 x = M 15 x := fun x hx => by
          rw [q9, up2_ne _ _ _ (by decide), q7, up2_ne _ _ _ (by decide), up2_ne _ _ _ (by decide), up2_at, if_neg (fun z => hx z.2), up2_ne _ _ _ (by decide), q5, up2_ne _ _ _ (by decide), up2_ne _ _ _ (by decide)]
        have w15 : M9 15 N = nJ (6 * b + i) := by
          rw [q9, up2_ne _ _ _ (by decide), q7, up2_ne _ _ _ (by decide), up2_ne _ _ _ (by decide), up2_at, if_pos ⟨rfl, rfl⟩]
        have un17 : M9 0 17 = nJ (N + 1) := by
          rw [q9, up2_ne _ _ _ (by decide), q7, up2_ne _ _ _ (by decide), up2_at, if_pos ⟨rfl, rfl⟩]
        have e13 : M9 13 = M 13 := un 13 (by decide) (by decide) (by decide) (by decide) (by decide) (by decide) (by decide)
        have e12 : M9 12 = M 12 := un 12 (by decide) (by decide) (by decide) (by decide) (by decide) (by decide) (by decide)
        have e16 : M9 16 = M 16 := un 16 (by decide) (by decide) (by decide) (by decide) (by decide) (by decide) (by decide)
        have e22 : M9 2 = M 2 := un 2 (by decide) (by decide) (by decide) (by decide) (by decide) (by decide) (by decide)
        have hA : ∀ j, j ≤ i → ∀ n, Av M b j n → Av M9 b j n := fun j hj n h => h.fr e13 (fun w _ => by rw [e16]) e12 e22 (fun p w _ hp _ _ hw => u21 _ (by omega)) (fun j' hj' => u17 _ (by omega))
        refine ih (i + 1) M9 (N + 1) ⟨⟨?_, fun k hk x hx => ?_, fun x hx => ?_, fun n hn => ⟨?_, ?_⟩, un17, by omega, by omega, fun n hn1 hn2 => ?_⟩, fun w hw => ?_, fun w hw => ?_, fun j hj => ?_⟩ (by omega) (by omega)
        · rw [q9, q7, q5]
          exact ((((((hS.fr.up (by decide) (by decide)).up (by decide) (by decide)).up (by decide) (by decide)).up (by decide) (by decide)).up0 (by decide)).up (by decide) (by decide)).up (by decide) (by decide)
        · rw [← hS.row k hk x hx]
          rcases hk with z | z | z | z | z
          · rw [z, e16]
          · rw [z, u17 x (by omega)]
          · rw [z, u18 x, if_neg (by omega)]
          · rw [z, u19 x, if_neg (by omega)]
          · rw [z, u21 x (by omega)]
        · rw [un 20 (by decide) (by decide) (by decide) (by decide) (by decide) (by decide) (by decide)]; exact hS.r20 x hx
        · rw [u14 n (by omega)]; exact (hS.old n hn).1
        · rw [u15 n (by omega)]; exact (hS.old n hn).2
        · by_cases z : n = N
          · rw [z]; exact ⟨i, Or.inl ⟨by unfold lenN; rw [hle, nJ_tn (by omega)]; omega, w15⟩⟩
          · rw [u15 n z]; exact hS.sit n hn1 (by omega)
        · by_cases z : w = d
          · rw [z]
            exact ⟨N, by omega, w21, Or.inr ⟨i, by omega, by rw [e22]; exact g, w17⟩⟩
          · obtain ⟨x, x1, x2, x3⟩ := h8.cur w hw
            exact ⟨x, by omega, by rw [u21 _ (by omega)]; exact x2, (hA i (Nat.le_refl _) x x3).up⟩
        · exact (h8.ph w hw).fr (by omega) e13 (by rw [e16]) (fun n hn => u15 n (by omega))
        · by_cases z : j = i
          · subst z
            refine ⟨fun _ => ⟨N, by omega, by omega, w17, w15⟩, fun q => absurd (e22 ▸ q) g, fun q1 q2 => ?_, fun q => ?_, fun q1 q2 q3 q4 => ?_, fun q => ?_⟩
            · rw [e22] at q1 q2
              obtain ⟨x, x1, x2, x3⟩ := ha1 q1 q2
              exact ⟨x, by omega, by rw [u18, if_pos rfl]; exact x2, hA j (Nat.le_refl _) x x3⟩
            · rw [e22] at q; rw [u18, if_pos rfl]; exact ha2 q
            · rw [e22] at q1 q2 q3 q4
              obtain ⟨x, x1, x2, x3⟩ := hc1 q1 q2 q3 q4
              exact ⟨x, by omega, by rw [u19, if_pos rfl]; exact x2, hA j (Nat.le_refl _) x x3⟩
            · rw [e22] at q; rw [u19, if_pos rfl]; exact hc2 q
          · exact (h8.ins j (by omega)).fr (by omega) e22 (fun n hn => u15 n (by omega)) (u17 _ (by omega)) (by rw [u18, if_neg (by omega)]) (by rw [u19, if_neg (by omega)]) (hA j (by omega))
      · dsimp only
        refine Ok.okN (by omega) (by decide) ?_
        refine Ok.wr (fun M7 q7 => ?_)
        refine r_setsOne (fun g2 => absurd g g2) (fun _ => ?_)
        dsimp only
        have un : ∀ k, k ≠ 17 → k ≠ 18 → k ≠ 19 → M7 k = M k := fun k h3 h4 h5 => by
          rw [q7, up2_ne _ _ _ h3, q5, up2_ne _ _ _ h5, up2_ne _ _ _ h4]
        have u17 : ∀ x, x ≠ 6 * b + i → M7 17 x = M 17 x := fun x hx => by
          rw [q7, up2_at, if_neg (fun z => hx z.2), q5, up2_ne _ _ _ (by decide), up2_ne _ _ _ (by decide)]
        have w17 : M7 17 (6 * b + i) = -1 := by rw [q7, up2_at, if_pos ⟨rfl, rfl⟩]
        have u18 : ∀ x, M7 18 x = if x = 6 * b + i then a else M 18 x := fun x => by
          rw [q7, up2_ne _ _ _ (by decide), q5, up2_ne _ _ _ (by decide), up2_at]
          by_cases z : x = 6 * b + i
          · rw [if_pos ⟨rfl, z⟩, if_pos z]
          · rw [if_neg (fun y => z y.2), if_neg z]
        have u19 : ∀ x, M7 19 x = if x = 6 * b + i then c else M 19 x := fun x => by
          rw [q7, up2_ne _ _ _ (by decide), q5, up2_at]
          by_cases z : x = 6 * b + i
          · rw [if_pos ⟨rfl, z⟩, if_pos z]
          · rw [if_neg (fun y => z y.2), if_neg z, up2_ne _ _ _ (by decide)]
        have e22 : M7 2 = M 2 := un 2 (by decide) (by decide) (by decide)
        have e13 : M7 13 = M 13 := un 13 (by decide) (by decide) (by decide)
        have e12 : M7 12 = M 12 := un 12 (by decide) (by decide) (by decide)
        have e16 : M7 16 = M 16 := un 16 (by decide) (by decide) (by decide)
        have e15 : M7 15 = M 15 := un 15 (by decide) (by decide) (by decide)
        have e21 : M7 21 = M 21 := un 21 (by decide) (by decide) (by decide)
        have hA : ∀ j, j ≤ i → ∀ n, Av M b j n → Av M7 b j n := fun j hj n h => h.fr e13 (fun w _ => by rw [e16]) e12 e22 (fun p w _ hp _ _ hw => by rw [e21]) (fun j' hj' => u17 _ (by omega))
        refine ih (i + 1) M7 N ⟨⟨?_, fun k hk x hx => ?_, fun x hx => ?_, fun n hn => ?_, ?_, by omega, by omega, by rw [e15]; exact hS.sit⟩, fun w hw => ?_, fun w hw => ?_, fun j hj => ?_⟩ (by omega) (by omega)
        · rw [q7, q5]
          exact ((hS.fr.up (by decide) (by decide)).up (by decide) (by decide)).up (by decide) (by decide)
        · rw [← hS.row k hk x hx]
          rcases hk with z | z | z | z | z
          · rw [z, e16]
          · rw [z, u17 x (by omega)]
          · rw [z, u18 x, if_neg (by omega)]
          · rw [z, u19 x, if_neg (by omega)]
          · rw [z, e21]
        · rw [un 20 (by decide) (by decide) (by decide)]; exact hS.r20 x hx
        · rw [un 14 (by decide) (by decide) (by decide), e15]; exact hS.old n hn
        · rw [un 0 (by decide) (by decide) (by decide)]; exact hS.num
        · obtain ⟨x, x1, x2, x3⟩ := h8.cur w hw
          exact ⟨x, x1, by rw [e21]; exact x2, (hA i (Nat.le_refl _) x x3).up⟩
        · exact (h8.ph w hw).fr (Nat.le_refl _) e13 (by rw [e16]) (fun n hn => by rw [e15])
        · by_cases z : j = i
          · subst z
            refine ⟨fun q => absurd g (e22 ▸ q), fun _ => w17, fun q1 q2 => ?_, fun q => ?_, fun q1 q2 q3 q4 => ?_, fun q => ?_⟩
            · rw [e22] at q1 q2
              obtain ⟨x, x1, x2, x3⟩ := ha1 q1 q2
              exact ⟨x, by omega, by rw [u18, if_pos rfl]; exact x2, hA j (Nat.le_refl _) x x3⟩
            · rw [e22] at q; rw [u18, if_pos rfl]; exact ha2 q
            · rw [e22] at q1 q2 q3 q4
              obtain ⟨x, x1, x2, x3⟩ := hc1 q1 q2 q3 q4
              exact ⟨x, by omega, by rw [u19, if_pos rfl]; exact x2, hA j (Nat.le_refl _) x x3⟩
            · rw [e22] at q; rw [u19, if_pos rfl]; exact hc2 q
          · exact (h8.ins j (by omega)).fr (Nat.le_refl _) e22 (fun n hn => by rw [e15]) (u17 _ (by omega)) (by rw [u18, if_neg (by omega)]) (by rw [u19, if_neg (by omega)]) (hA j (by omega))
    have mid : ∀ a, (M 2 (6 * b + i) ≠ 0 → M 2 (6 * b + i) ≠ 6 → ∃ n, n < N ∧ a = nJ n ∧ Av M b i n) → ((M 2 (6 * b + i) = 0 ∨ M 2 (6 * b + i) = 6) → a = -1) →
        Ok P (j_R_nameBlock_150 (l_R_nameBlock_100 k n) k a (nJ (6 * b + i)) (nJ b) (nJ (6 * b)) (nJ (6 * b + i)) (M 2 (6 * b + i)) M) := by
      intro a ha1 ha2
      unfold j_R_nameBlock_150
      refine Ok.okN (by omega) (by decide) ?_
      rw [nJ_tn (i := 6 * b + i) (by omega)]
      refine Ok.wr (fun M3 q3 => ?_)
      subst q3
      obtain ⟨t, t1, t2⟩ := hP.knd (6 * b + i)
      refine r_usesSecond t1 (by rw [e2]; exact t2) (fun g0 g1 g6 g7 => ?_) (fun g => ?_)
      · dsimp only
        refine Ok.okN (by omega) (by decide) ?_
        obtain ⟨y, y1, y2⟩ := hP.snd (6 * b + i) (by rw [← e2]; exact g0) (by rw [← e2]; exact g1) (by rw [← e2]; exact g6) (by rw [← e2]; exact g7)
        have u5 : up2 M 18 (6 * b + i) a 5 = G0 5 := by rw [up2_ne _ _ _ (by decide)]; exact e5
        have u21 : up2 M 18 (6 * b + i) a 21 = M 21 := by rw [up2_ne _ _ _ (by decide)]
        refine Ok.okE (i := 6 * b + y) (by rw [u5, y2, nJ_add (by omega)]) (by omega) (by decide) ?_
        rw [u5, y2, nJ_add (by omega), nJ_tn (i := 6 * b + y) (by omega), u21]
        obtain ⟨m, m1, m2, m3⟩ := h8.cur y y1
        rw [m2]
        exact fin a (nJ m) ha1 ha2 (fun _ _ _ _ => ⟨m, m1, rfl, m3⟩) (fun z => by
          rcases z with z | z | z | z
          · exact absurd z g0
          · exact absurd z g1
          · exact absurd z g6
          · exact absurd z g7)
      · dsimp only
        exact fin a (-1) ha1 ha2 (fun z0 z1 z6 z7 => by
          rcases g with z | z | z | z
          · exact absurd z z0
          · exact absurd z z1
          · exact absurd z z6
          · exact absurd z z7) (fun _ => rfl)
    refine r_usesFirst (fun g0 g6 => ?_) (fun g => ?_)
    · dsimp only
      refine Ok.okN (by omega) (by decide) ?_
      obtain ⟨y, y1, y2⟩ := hP.fst (6 * b + i) (by rw [← e2]; exact g0) (by rw [← e2]; exact g6)
      refine Ok.okE (i := 6 * b + y) (by rw [e4, y2, nJ_add (by omega)]) (by omega) (by decide) ?_
      rw [e4, y2, nJ_add (by omega), nJ_tn (i := 6 * b + y) (by omega)]
      obtain ⟨m, m1, m2, m3⟩ := h8.cur y y1
      rw [m2]
      exact mid (nJ m) (fun _ _ => ⟨m, m1, rfl, m3⟩) (fun z => z.elim (fun z => absurd z g0) (fun z => absurd z g6))
    · dsimp only
      exact mid (-1) (fun z0 z6 => g.elim (fun z => absurd z z0) (fun z => absurd z z6)) (fun _ => rfl)
theorem r_nameBlock {G0 : Sto} {B N0 b : Nat} (hP : PF G0 B) (hb : b < B) (hN : 6 ≤ N0) (hN2 : N0 + 12 ≤ 130) (hnum : G0 0 17 = nJ N0)
    (hp : b ≠ 0 → ∃ p, p < 10 ∧ p ≠ b ∧ G0 12 b = nJ p ∧ ∀ w, w < 6 → ∃ n, n < N0 ∧ G0 21 (6 * p + w) = nJ n) :
    Ok (fun a => ∃ N, NS G0 N0 b 12 a.2 N ∧ NB a.2 N b) (m_R_nameBlock (nJ b) G0) := by
  have hB := hP.hB
  obtain ⟨l, l1, l2⟩ := hP.len b (by omega)
  unfold m_R_nameBlock
  rw [nJ_mul6 (by omega)]
  refine r_nb7 (by omega) hN hN2 hp (fun M N hS hc hph => ?_) FU 0 G0 N0 ⟨Fr.rfl, fun _ _ _ _ => rfl, fun _ _ => rfl, fun _ _ => ⟨rfl, rfl⟩, hnum, Nat.le_refl _, by omega, fun n h1 h2 => by omega⟩ (fun w hw => by omega) (fun w hw => by omega) (by omega) (by unfold FU; omega)
  unfold j_R_nameBlock_98
  refine r_nb100 hP (by omega) hN hN2 l1 l2 (fun M1 N1 h8 => ?_) FU 0 M N ⟨hS, fun w hw => ?_, hph, fun j hj => by omega⟩ (by omega) (by unfold FU; omega)
  · have hS1 := h8.s
    have e6 : M1 6 = G0 6 := hS1.fr.1 6 (by decide) (by decide)
    have e7 : M1 7 = G0 7 := hS1.fr.1 7 (by decide) (by decide)
    have e1 : M1 1 = G0 1 := hS1.fr.1 1 (by decide) (by decide)
    have hln : lenN M1 b = l := by unfold lenN; rw [e1, l2, nJ_tn (by omega)]
    have hlo := hS1.lo
    have hhi := hS1.hi
    have last : ∀ v, (M1 6 b = 2 → ∃ n, n < N1 ∧ v = nJ n ∧ Av M1 b l n) → (M1 6 b ≠ 2 → v = -1) → Ok (fun a : Int32 × Sto => ∃ N, NS G0 N0 b 12 a.2 N ∧ NB a.2 N b) (j_R_nameBlock_271 v (nJ b) M1) := by
      intro v hv1 hv2
      unfold j_R_nameBlock_271
      refine Ok.okN (by omega) (by decide) ?_
      rw [nJ_tn (i := b) (by omega)]
      refine Ok.wr (fun M2 q2 => ?_)
      have un : ∀ k, k ≠ 20 → M2 k = M1 k := fun k hk => by rw [q2, up2_ne _ _ _ hk]
      have w20 : M2 20 b = v := by rw [q2, up2_at, if_pos ⟨rfl, rfl⟩]
      have hl2 : lenN M2 b = l := by unfold lenN; rw [un 1 (by decide), e1, l2, nJ_tn (by omega)]
      have hA : ∀ j n, Av M1 b j n → Av M2 b j n := fun j n h => h.fr (un 13 (by decide)) (fun w _ => by rw [un 16 (by decide)]) (un 12 (by decide)) (un 2 (by decide)) (fun p w _ _ _ _ _ => by rw [un 21 (by decide)]) (fun j' _ => by rw [un 17 (by decide)])
      refine ⟨(0, M2), rfl, N1, ⟨by rw [q2]; exact hS1.fr.up (by decide) (by decide), fun k hk x hx => by show M2 k x = _; rw [un k (by omega)]; exact hS1.row k hk x hx, fun x hx => ?_, fun n hn => by show M2 14 n = _ ∧ M2 15 n = _; rw [un 14 (by decide), un 15 (by decide)]; exact hS1.old n hn, by show M2 0 17 = _; rw [un 0 (by decide)]; exact hS1.num, hlo, by omega, by show ∀ n, N0 ≤ n → n < N1 → ∃ j, (j < lenN G0 b ∧ M2 15 n = nJ (6 * b + j)) ∨ (j < 6 ∧ M2 15 n = (-1) - nJ (6 * b + j)); rw [un 15 (by decide)]; exact hS1.sit⟩, ⟨fun w hw => ?_, fun w hw => ?_, fun i hi => ?_, fun q => ?_, fun q => ?_⟩⟩
      · show M2 20 x = _
        rw [q2, up2_at, if_neg (fun z => hx z.2)]; exact hS1.r20 x hx
      · obtain ⟨n, n1, n2, n3⟩ := h8.cur w hw
        refine ⟨n, n1, ?_, ?_⟩
        · show M2 21 _ = _
          rw [un 21 (by decide)]; exact n2
        · show Av M2 b (lenN M2 b) n
          rw [hl2]; exact hA l n n3
      · exact (h8.ph w hw).fr (Nat.le_refl _) (un 13 (by decide)) (by show M2 16 _ = _; rw [un 16 (by decide)]) (fun n _ => by show M2 15 _ = _; rw [un 15 (by decide)])
      · have hi2 : i < l := by rw [← hl2]; exact hi
        exact (h8.ins i hi2).fr (Nat.le_refl _) (un 2 (by decide)) (fun n _ => by show M2 15 _ = _; rw [un 15 (by decide)]) (by show M2 17 _ = _; rw [un 17 (by decide)]) (by show M2 18 _ = _; rw [un 18 (by decide)]) (by show M2 19 _ = _; rw [un 19 (by decide)]) (hA i)
      · have q' : M1 6 b = 2 := by rw [← un 6 (by decide)]; exact q
        obtain ⟨n, n1, n2, n3⟩ := hv1 q'
        refine ⟨n, n1, ?_, ?_⟩
        · show M2 20 b = _
          rw [w20]; exact n2
        · show Av M2 b (lenN M2 b) n
          rw [hl2]; exact hA l n n3
      · have q' : M1 6 b ≠ 2 := by rw [← un 6 (by decide)]; exact q
        show M2 20 b = _
        rw [w20]; exact hv2 q'
    unfold j_R_nameBlock_239
    refine Ok.okN (by omega) (by decide) ?_
    rw [nJ_tn (i := b) (by omega)]
    refine Ok.ifE (fun q => ?_) (fun q => ?_)
    · refine Ok.okN (by omega) (by decide) ?_
      have hf : ∃ v, v < 6 ∧ G0 7 b = nJ v := by
        rcases hP.fin b hb with z | ⟨z, _⟩ | ⟨z, _, _, z2⟩
        · rw [e6, z] at q; exact absurd q (by decide)
        · rw [e6, z] at q; exact absurd q (by decide)
        · exact z2
      obtain ⟨v, v1, v2⟩ := hf
      rw [e7, v2, nJ_add (by omega)]
      refine Ok.okN (by omega) (by decide) ?_
      rw [nJ_tn (i := 6 * b + v) (by omega)]
      obtain ⟨m, m1, m2, m3⟩ := h8.cur v v1
      rw [m2]
      exact last (nJ m) (fun _ => ⟨m, m1, rfl, m3⟩) (fun z => absurd q z)
    · exact last (-1) (fun z => absurd z q) (fun _ => rfl)
  · obtain ⟨m, m1, m2, m3⟩ := hc w hw
    exact ⟨m, m1, m2, Or.inl ⟨w, hw, m3⟩⟩
end
section
theorem NB.fr {M M1 : Sto} {N N1 c : Nat} (h : NB M N c) (hN : N ≤ N1) (e1 : M1 1 = M 1) (e2 : M1 2 = M 2) (e6 : M1 6 = M 6) (e12 : M1 12 = M 12) (e13 : M1 13 = M 13) (e15 : ∀ n, n < N → M1 15 n = M 15 n)
    (row : ∀ k, k = 16 ∨ k = 17 ∨ k = 18 ∨ k = 19 ∨ k = 21 → ∀ w, w < 6 → M1 k (6 * c + w) = M k (6 * c + w)) (e20 : M1 20 c = M 20 c) (hl : lenN M c ≤ 6)
    (e21 : ∀ p w, c ≠ 0 → p ≠ c → M 12 c = nJ p → p < 10 → w < 6 → M1 21 (6 * p + w) = M 21 (6 * p + w)) : NB M1 N1 c := by
  have hl1 : lenN M1 c = lenN M c := by unfold lenN; rw [e1]
  have hA : ∀ j n, j ≤ 6 → Av M c j n → Av M1 c j n := fun j n hj h => h.fr e13 (fun w hw => row 16 (by decide) w hw) e12 e2 e21 (fun j' hj' => row 17 (by decide) j' (by omega))
  refine ⟨fun w hw => ?_, fun w hw => (h.ph w hw).fr hN e13 (row 16 (by decide) w hw) e15, fun i hi => ?_, fun q => ?_, fun q => ?_⟩
  · obtain ⟨n, n1, n2, n3⟩ := h.cur w hw
    exact ⟨n, by omega, by rw [row 21 (by decide) w hw]; exact n2, by rw [hl1]; exact hA _ n hl n3⟩
  · rw [hl1] at hi
    exact (h.ins i hi).fr hN e2 e15 (row 17 (by decide) i (by omega)) (row 18 (by decide) i (by omega)) (row 19 (by decide) i (by omega)) (fun n => hA i n (by omega))
  · rw [e6] at q
    obtain ⟨n, n1, n2, n3⟩ := h.ts q
    exact ⟨n, by omega, by rw [e20]; exact n2, by rw [hl1]; exact hA _ n hl n3⟩
  · rw [e6] at q
    rw [e20]; exact h.tn q
theorem PF.lenN_le {M : Sto} {B b : Nat} (h : PF M B) (hb : b < 10) : lenN M b ≤ 6 := by
  obtain ⟨l, l1, l2⟩ := h.len b hb
  unfold lenN
  rw [l2, nJ_tn (by omega)]; exact l1
def Elg (G : Sto) (B c : Nat) : Prop := c ≠ 0 ∧ c < B ∧ bt (G 0 12) c = true
def WN (G : Sto) (B v od : Nat) (S : Nat → Int32) (Q : Nat → Prop) (M : Sto) (N : Nat) : Prop := (Fr [14, 15, 16, 17, 18, 19, 20, 21, 22] [17] G M) ∧ (Wk (Elg G B) (G 12) (M 22) v od S Q) ∧ (∀ c, Q c → S c ≠ 0) ∧ (S 0 ≠ 0) ∧ (M 0 17 = nJ N) ∧ (6 ≤ N) ∧ (N ≤ 6 + 12 * od) ∧ (∀ c, Q c → c < B ∧ NB M N c ∧ (c ≠ 0 → ∃ p, p < 10 ∧ Q p ∧ p ≠ c ∧ G 12 c = nJ p)) ∧ (∀ n, 6 ≤ n → n < N → ∃ b j, Q b ∧ ((j < lenN G b ∧ M 15 n = nJ (6 * b + j)) ∨ (j < 6 ∧ M 15 n = (-1) - nJ (6 * b + j))))
theorem WN.fr {G : Sto} {B v od : Nat} {S : Nat → Int32} {Q : Nat → Prop} {M : Sto} {N : Nat} (h : WN G B v od S Q M N) : Fr [14, 15, 16, 17, 18, 19, 20, 21, 22] [17] G M := h.1
theorem WN.wk {G : Sto} {B v od : Nat} {S : Nat → Int32} {Q : Nat → Prop} {M : Sto} {N : Nat} (h : WN G B v od S Q M N) : Wk (Elg G B) (G 12) (M 22) v od S Q := h.2.1
theorem WN.hq {G : Sto} {B v od : Nat} {S : Nat → Int32} {Q : Nat → Prop} {M : Sto} {N : Nat} (h : WN G B v od S Q M N) : ∀ c, Q c → S c ≠ 0 := h.2.2.1
theorem WN.s0 {G : Sto} {B v od : Nat} {S : Nat → Int32} {Q : Nat → Prop} {M : Sto} {N : Nat} (h : WN G B v od S Q M N) : S 0 ≠ 0 := h.2.2.2.1
theorem WN.num {G : Sto} {B v od : Nat} {S : Nat → Int32} {Q : Nat → Prop} {M : Sto} {N : Nat} (h : WN G B v od S Q M N) : M 0 17 = nJ N := h.2.2.2.2.1
theorem WN.lo {G : Sto} {B v od : Nat} {S : Nat → Int32} {Q : Nat → Prop} {M : Sto} {N : Nat} (h : WN G B v od S Q M N) : 6 ≤ N := h.2.2.2.2.2.1
theorem WN.hi {G : Sto} {B v od : Nat} {S : Nat → Int32} {Q : Nat → Prop} {M : Sto} {N : Nat} (h : WN G B v od S Q M N) : N ≤ 6 + 12 * od := h.2.2.2.2.2.2.1
theorem WN.nb {G : Sto} {B v od : Nat} {S : Nat → Int32} {Q : Nat → Prop} {M : Sto} {N : Nat} (h : WN G B v od S Q M N) : ∀ c, Q c → c < B ∧ NB M N c ∧ (c ≠ 0 → ∃ p, p < 10 ∧ Q p ∧ p ≠ c ∧ G 12 c = nJ p) := h.2.2.2.2.2.2.2.1
theorem WN.sit {G : Sto} {B v od : Nat} {S : Nat → Int32} {Q : Nat → Prop} {M : Sto} {N : Nat} (h : WN G B v od S Q M N) : ∀ n, 6 ≤ n → n < N → ∃ b j, Q b ∧ ((j < lenN G b ∧ M 15 n = nJ (6 * b + j)) ∨ (j < 6 ∧ M 15 n = (-1) - nJ (6 * b + j))) := h.2.2.2.2.2.2.2.2
theorem WN.fr22 {G : Sto} {B v od v' : Nat} {S S' : Nat → Int32} {Q : Nat → Prop} {M M' : Sto} {N : Nat} (hP : PF G B) (h : WN G B v od S Q M N) (f : Fr [22] [] M M') (w : Wk (Elg G B) (G 12) (M' 22) v' od S' Q) (hq : ∀ c, Q c → S' c ≠ 0) (s0 : S' 0 ≠ 0) : WN G B v' od S' Q M' N := by
  have un : ∀ k, k ≠ 0 → k ≠ 22 → M' k = M k := fun k h0 h1 => f.1 k h0 (by simpa using h1)
  refine ⟨h.fr.trans (f.mono (by decide) (by decide)), w, hq, s0, by rw [f.2 17 (by decide)]; exact h.num, h.lo, h.hi, fun c hc => ?_, by rw [un 15 (by decide) (by decide)]; exact h.sit⟩
  obtain ⟨c1, c2, c3⟩ := h.nb c hc
  have hB := hP.hB
  refine ⟨c1, c2.fr (Nat.le_refl _) (un 1 (by decide) (by decide)) (un 2 (by decide) (by decide)) (un 6 (by decide) (by decide)) (un 12 (by decide) (by decide)) (un 13 (by decide) (by decide)) (fun n _ => by rw [un 15 (by decide) (by decide)]) (fun k hk w _ => by rw [un k (by omega) (by omega)]) (by rw [un 20 (by decide) (by decide)]) ?_ (fun p w _ _ _ _ _ => by rw [un 21 (by decide) (by decide)]), c3⟩
  unfold lenN
  rw [h.fr.1 1 (by decide) (by decide)]
  exact hP.lenN_le (by omega)
theorem r_na62 {P : Int32 × Sto → Prop} {k : Int32 → Sto → Option (Int32 × Sto)} {G : Sto} {B b od N : Nat} {Q : Nat → Prop} (hP : PF G B) (hQ : Q b) (hb : b < 10)
    (hk : ∀ v S M, WN G B v od S Q M N → WkO (Elg G B) (G 12) S Q → Ok P (k (nJ v) M)) :
    ∀ n m v S M, WN G B v od S Q M N → WkI (Elg G B) (G 12) S Q b m → m < B → m < n → Ok P (l_R_nameAll_62 k n (nJ v) (nJ b) (nJ m) M) := by
  intro n
  have hB := hP.hB
  induction n with
  | zero => intro m v S M _ _ _ h; omega
  | succ n ih =>
    intro m v S M hW hi hm hn
    have hod := hW.wk.od
    have e12 : M 12 = G 12 := hW.fr.1 12 (by decide) (by decide)
    have z12 : M 0 12 = G 0 12 := hW.fr.2 12 (by decide)
    unfold l_R_nameAll_62
    refine Ok.leN (b := 0) (by omega) (by omega) (fun q => ?_) (fun q => ?_)
    · have : m = 0 := by omega
      subst this
      exact hk v S M hW (hi.done fun z => z.1 rfl)
    obtain ⟨m, rfl⟩ : ∃ j, m = j + 1 := ⟨m - 1, by omega⟩
    have hpr : nJ (m + 1) + (-1) = nJ m := by rw [nJ_pred (by omega) (by omega)]; rfl
    rw [z12]
    refine Ok.has (by omega) (fun g => ?_) (fun g => ?_)
    · dsimp only
      refine Ok.okN (by omega) (by decide) ?_
      refine Ok.ifE (fun q2 => ?_) (fun q2 => ?_)
      · rw [e12, nJ_tn (by omega)] at q2
        obtain ⟨g1, g2, g3⟩ := hW.wk.push hi ⟨by omega, by omega, g⟩ q2 hQ hb (by omega) hW.hq
        refine Ok.okN (by omega) (by decide) ?_
        refine Ok.wr (fun M1 q1 => ?_)
        unfold j_R_nameAll_97
        rw [hpr, nJ_succ (by omega)]
        rw [nJ_tn (by omega)] at q1
        have e22 : M1 22 = upd (M 22) v (nJ (m + 1)) := by rw [q1, up2_self]
        refine ih m (v + 1) (upd S (m + 1) 1) M1 (hW.fr22 hP (by rw [q1]; exact Fr.rfl.up (by decide) (by decide)) (by rw [e22]; exact g2) (fun c hc => ?_) (by rw [upd_at, if_neg (by omega)]; exact hW.s0)) g3 (by omega) (by omega)
        rw [upd_at]
        by_cases z : c = m + 1
        · rw [if_pos z]; decide
        · rw [if_neg z]; exact hW.hq c hc
      · rw [e12, nJ_tn (by omega)] at q2
        unfold j_R_nameAll_97
        rw [hpr]
        exact ih m v S M hW (hi.skip fun z => q2 z.2) (by omega) (by omega)
    · dsimp only
      unfold j_R_nameAll_97
      rw [hpr]
      exact ih m v S M hW (hi.skip fun z => by rw [z.1.2.2] at g; cases g) (by omega) (by omega)
theorem r_na36 {P : Int32 × Sto → Prop} {k : Sto → Option (Int32 × Sto)} {G : Sto} {B : Nat} (hP : PF G B) (h0 : 0 < B)
    (hk : ∀ od S Q M N, WN G B 0 od S Q M N → WkO (Elg G B) (G 12) S Q → Ok P (k M)) :
    ∀ n v od S Q M N, WN G B v od S Q M N → WkO (Elg G B) (G 12) S Q → 11 - od ≤ n → Ok P (l_R_nameAll_36 k n (nJ v) M) := by
  intro n
  have hB := hP.hB
  induction n with
  | zero => intro v od S Q M N hW _ h; have := hW.wk.od; omega
  | succ n ih =>
    intro v od S Q M N hW hwo hn
    have hod := hW.wk.od
    unfold l_R_nameAll_36
    refine Ok.leN (b := 0) (by omega) (by omega) (fun q => ?_) (fun q => ?_)
    · have : v = 0 := by omega
      subst this
      exact hk od S Q M N hW hwo
    obtain ⟨v, rfl⟩ : ∃ j, v = j + 1 := ⟨v - 1, by omega⟩
    have hpr : nJ (v + 1) + (-1) = nJ v := by rw [nJ_pred (by omega) (by omega)]; rfl
    rw [hpr, nJ_tn (i := v) (by omega)]
    refine Ok.okN (by omega) (by decide) ?_
    obtain ⟨b, b1, b2, b3, b4⟩ := hW.wk.2.1 v (by omega)
    rw [b2]
    have hbp : b < B ∧ (b ≠ 0 → ∃ p, p < 10 ∧ Q p ∧ p ≠ b ∧ G 12 b = nJ p) := by
      by_cases z : b = 0
      · exact ⟨by omega, fun y => absurd z y⟩
      · obtain ⟨e, p, p1, p2, p3⟩ := hW.wk.2.2.2.1 b b1 z b3
        exact ⟨e.2.1, fun _ => ⟨p, p1, p3, fun y => b4 (y ▸ p3), p2⟩⟩
    have hPM : PF M B := hP.fr (hW.fr.mono (by decide) (by decide))
    have e12 : M 12 = G 12 := hW.fr.1 12 (by decide) (by decide)
    have hlo := hW.lo
    have hhi := hW.hi
    refine Ok.bind (r_nameBlock hPM hbp.1 hlo (by omega) hW.num (fun z => ?_)) (fun r M1 hpost => ?_)
    · obtain ⟨p, p1, p2, p3, p4⟩ := hbp.2 z
      refine ⟨p, p1, p3, by rw [e12]; exact p4, fun w hw => ?_⟩
      obtain ⟨x, x1, x2, _⟩ := (hW.nb p p2).2.1.cur w hw
      exact ⟨x, x1, x2⟩
    dsimp only at hpost
    obtain ⟨N1, hS, hNB⟩ := hpost
    dsimp only
    have un : ∀ k, k ≠ 0 → k ∉ [14, 15, 16, 17, 18, 19, 20, 21] → M1 k = M k := hS.fr.1
    have hb2 : M1 0 1 = nJ B := (hS.fr.2 1 (by decide)).trans hPM.blk
    have hB1 : nJ B - 1 = nJ (B - 1) := by
      apply Int32.toInt_inj.mp
      have n1 : (1 : Int32).toInt = 1 := rfl
      have h1 := nJ_int (i := B) (by omega)
      rw [subI (by omega) (by omega), nJ_int (i := B - 1) (by omega)]; omega
    rw [hb2, hB1]
    obtain ⟨w1, w2⟩ := hW.wk.pop hwo b2 b1
    have hlo1 := hS.lo
    have hhi1 := hS.hi
    have nbs : ∀ c, (Q c ∨ c = b) → c < B ∧ NB M1 N1 c ∧ (c ≠ 0 → ∃ p, p < 10 ∧ (Q p ∨ p = b) ∧ p ≠ c ∧ G 12 c = nJ p) := by
      intro c hc
      by_cases z : c = b
      · rw [z]
        exact ⟨hbp.1, hNB, fun y => (hbp.2 y).elim fun p hp => ⟨p, hp.1, Or.inl hp.2.1, hp.2.2⟩⟩
      · have hQc : Q c := hc.elim (fun y => y) fun y => absurd y z
        obtain ⟨c1, c2, c3⟩ := hW.nb c hQc
        refine ⟨c1, c2.fr hlo1 (un 1 (by decide) (by decide)) (un 2 (by decide) (by decide)) (un 6 (by decide) (by decide)) (un 12 (by decide) (by decide)) (un 13 (by decide) (by decide)) (fun n hn => (hS.old n hn).2) (fun k hk w hw => hS.row k hk (6 * c + w) (by clear c3; omega)) (hS.r20 c z) (hPM.lenN_le (by omega)) (fun p w c0 p1 p2 p3 hw => hS.row 21 (by decide) (6 * p + w) ?_), fun y => (c3 y).elim fun p hp => ⟨p, hp.1, Or.inl hp.2.1, hp.2.2⟩⟩
        have hpb : p ≠ b := by
          intro y
          obtain ⟨p', q1, q2, q3, q4⟩ := c3 c0
          rw [e12, q4] at p2
          have := nJ_inj (by omega) (by omega) p2
          rw [y] at this
          exact b4 (this ▸ q2)
        clear c3
        omega
    have hW1 : WN G B v (od + 1) S (fun c => Q c ∨ c = b) M1 N1 := ⟨hW.fr.trans (hS.fr.mono (by decide) (by decide)), by rw [un 22 (by decide) (by decide)]; exact w1, fun c hc => hc.elim (hW.hq c) fun y => y ▸ b3, hW.s0, hS.num, by omega, by omega, nbs, fun n n1 n2 => ?_⟩
    · refine r_na62 (od := od + 1) (Q := fun c => Q c ∨ c = b) hP (Or.inr rfl) b1 (fun v' S' M' hW' hwo' => ?_) FU (B - 1) v S M1 hW1 ((w2 9 rfl).down (fun c hc => by have := hc.2.1; omega) (by omega)) (by omega) (by unfold FU; omega)
      unfold j_R_nameAll_103
      exact ih v' (od + 1) S' _ M' N1 hW' hwo' (by omega)
    · by_cases z : n < N
      · rw [(hS.old n z).2]
        obtain ⟨a, j, a1, a2⟩ := hW.sit n n1 z
        exact ⟨a, j, Or.inl a1, a2⟩
      · obtain ⟨j, hj⟩ := hS.sit n (by omega) n2
        refine ⟨b, j, Or.inr rfl, ?_⟩
        unfold lenN at hj
        rw [hW.fr.1 1 (by decide) (by decide)] at hj
        exact hj
theorem lev_thru {E : Nat → Nat → Prop} {p : Nat} : ∀ {r c : Nat}, c ≠ p → lev E (fun _ => False) r c → lev E (fun x => x = p) r c ∨ ∃ r', r' < r ∧ lev E (fun _ => False) r' p
  | 0, c, hc, h => Or.inl ⟨h.1, fun z => hc (h.1.trans z)⟩
  | r + 1, c, hc, h => by
    rcases h with h | ⟨q, q1, q2, q3, _⟩
    · rcases lev_thru hc h with z | ⟨r', z1, z2⟩
      · exact Or.inl (Or.inl z)
      · exact Or.inr ⟨r', by omega, z2⟩
    · by_cases y : q = p
      · subst y; exact Or.inr ⟨r, by omega, q2⟩
      · rcases lev_thru y q2 with z | ⟨r', z1, z2⟩
        · exact Or.inl (Or.inr ⟨q, q1, z, q3, hc⟩)
        · exact Or.inr ⟨r', by omega, z2⟩
def NA (M : Sto) (B N : Nat) : Prop := (M 0 17 = nJ N) ∧ (6 ≤ N) ∧ (N ≤ 126) ∧ (∀ c, c < 10 → bt (M 0 12) c = true → c < B ∧ NB M N c) ∧ (∀ n, 6 ≤ n → n < N → ∃ b j, b < 10 ∧ bt (M 0 12) b = true ∧ ((j < lenN M b ∧ M 15 n = nJ (6 * b + j)) ∨ (j < 6 ∧ M 15 n = (-1) - nJ (6 * b + j))))
theorem NA.num {M : Sto} {B N : Nat} (h : NA M B N) : M 0 17 = nJ N := h.1
theorem NA.lo {M : Sto} {B N : Nat} (h : NA M B N) : 6 ≤ N := h.2.1
theorem NA.hi {M : Sto} {B N : Nat} (h : NA M B N) : N ≤ 126 := h.2.2.1
theorem NA.nb {M : Sto} {B N : Nat} (h : NA M B N) : ∀ c, c < 10 → bt (M 0 12) c = true → c < B ∧ NB M N c := h.2.2.2.1
theorem NA.sit {M : Sto} {B N : Nat} (h : NA M B N) : ∀ n, 6 ≤ n → n < N → ∃ b j, b < 10 ∧ bt (M 0 12) b = true ∧ ((j < lenN M b ∧ M 15 n = nJ (6 * b + j)) ∨ (j < 6 ∧ M 15 n = (-1) - nJ (6 * b + j))) := h.2.2.2.2
theorem all_in {G : Sto} {B : Nat} {S : Nat → Int32} {Q : Nat → Prop} (hP : PF G B) (h0 : 0 < B) (hR : RRq G B) (hD : DM G B) (q0 : Q 0) (hS : ∀ c, c < 10 → S c ≠ 0 → Q c) (hwo : WkO (Elg G B) (G 12) S Q) :
    ∀ r r' c, r' ≤ r → c < 10 → lev (Ed G B) (fun _ => False) r' c → Q c := by
  intro r
  have hB := hP.hB
  induction r with
  | zero => intro r' c hr hc hl; rw [show r' = 0 by omega] at hl; rw [hl.1]; exact q0
  | succ r ih =>
    intro r' c hr hc hl
    by_cases z : c = 0
    · rw [z]; exact q0
    · have hb : bt (G 0 12) c = true := (hR.rch c (by omega)).mpr ⟨hc, r', hl⟩
      have hcB := lev_lt hP h0 hl (by omega)
      obtain ⟨p, p1, p2, p3, p4⟩ := hD.par c hcB z hb
      rcases lev_thru (Ne.symm p2) hl with y | ⟨s, s1, s2⟩
      · exact absurd y (p4 r')
      · exact hS c hc (hwo c p hc (by omega) ⟨z, hcB, hb⟩ p3 (ih s p (by omega) (by omega) s2))
theorem r_na8 {P : Int32 × Sto → Prop} {k : Sto → Option (Int32 × Sto)} {G : Sto}
    (hk : ∀ M, Fr [14] [] G M → Ok P (k M)) : ∀ n c M, Fr [14] [] G M → c ≤ 6 → 6 - c < n → Ok P (l_R_nameAll_8 k n (nJ c) M) := by
  intro n
  induction n with
  | zero => intro c M _ h1 h2; omega
  | succ n ih =>
    intro c M hf hc hn
    unfold l_R_nameAll_8
    refine Ok.leN (a := 6) (by omega) (by omega) (fun q => hk M hf) (fun q => ?_)
    refine Ok.okN (by omega) (by decide) ?_
    rw [nJ_succ (by omega)]
    refine Ok.wr (fun M1 q1 => ?_)
    exact ih (c + 1) M1 (by rw [q1]; exact hf.up (by decide) (by decide)) (by omega) (by omega)
theorem r_nameAll {G : Sto} {B : Nat} (hP : PF G B) (h0 : 0 < B) (hR : RRq G B) (hD : DM G B) : Ok (fun a => Fr [14, 15, 16, 17, 18, 19, 20, 21, 22] [17] G a.2 ∧ ∃ N, NA a.2 B N) (m_R_nameAll G) := by
  unfold m_R_nameAll
  refine Ok.wr (fun M1 q1 => ?_)
  have f1 : Fr [14, 15, 16, 17, 18, 19, 20, 21, 22] [17] G M1 := by rw [q1]; exact Fr.rfl.up0 (by decide)
  refine r_na8 (fun M2 f2 => ?_) FU 0 M1 Fr.rfl (by omega) (by unfold FU; omega)
  unfold j_R_nameAll_27
  refine Ok.okN (i := 0) (by omega) (by decide) ?_
  refine Ok.wr (fun M3 q3 => ?_)
  have f3 : Fr [14, 15, 16, 17, 18, 19, 20, 21, 22] [17] G M3 := by rw [q3]; exact (f1.trans (f2.mono (by decide) (by decide))).up (by decide) (by decide)
  have n3 : M3 0 17 = nJ 6 := by rw [q3, up2_ne _ _ _ (by decide), f2.2 17 (by decide), q1, up2_at, if_pos ⟨rfl, rfl⟩]; rfl
  refine r_na36 hP h0 (fun od S Q M N hW hwo => ?_) FU 1 0 (fun c => if c = 0 then 1 else 0) (fun _ => False) M3 6 ⟨f3, Wk.start ?_, fun c q => q.elim, by decide, n3, by omega, by omega, fun c q => q.elim, fun n n1 n2 => by omega⟩ WkO.start (by unfold FU; omega)
  · have hod := hW.wk.od
    have hS : ∀ c, c < 10 → S c ≠ 0 → Q c := fun c hc hs => (hW.wk.2.2.2.2 c hc hs).elim (fun y => y) fun ⟨i, i1, _⟩ => by omega
    have hall := all_in hP h0 hR hD (hS 0 (by omega) hW.s0) hS hwo
    have z12 : M 0 12 = G 0 12 := hW.fr.2 12 (by decide)
    have hhi := hW.hi
    refine ⟨(0, M), rfl, hW.fr, N, hW.num, hW.lo, by omega, fun c hc hb => ?_, fun n n1 n2 => ?_⟩
    rotate_left
    · obtain ⟨a, j, a1, a2⟩ := hW.sit n n1 n2
      have hB := hP.hB
      have haB := (hW.nb a a1).1
      refine ⟨a, j, by omega, ?_, ?_⟩
      · show bt (M 0 12) a = true
        rw [z12]
        by_cases y : a = 0
        · rw [y]; exact (hR.rch 0 (by omega)).mpr ⟨by omega, 0, ⟨rfl, fun z => z⟩⟩
        · exact (hW.wk.2.2.2.1 a (by omega) y (hW.hq a a1)).1.2.2
      · show (j < lenN M a ∧ M 15 n = _) ∨ (j < 6 ∧ M 15 n = _)
        unfold lenN
        rw [hW.fr.1 1 (by decide) (by decide)]
        exact a2
    have hb : bt (G 0 12) c = true := by rw [← z12]; exact hb
    obtain ⟨_, r, hr⟩ := (hR.rch c (by omega)).mp hb
    obtain ⟨c1, c2, _⟩ := hW.nb c (hall r r c (Nat.le_refl _) hc hr)
    exact ⟨c1, c2⟩
  · rw [q3, up2_at, if_pos ⟨rfl, rfl⟩]
end
section
def vle (s x s' x' : Int32) : Prop := s = 0 ∨ s' = 2 ∨ (s = 1 ∧ s' = 1 ∧ x = x')
theorem vle.trans {a b c d e f : Int32} (h1 : vle a b c d) (h2 : vle c d e f) : vle a b e f := by
  rcases h1 with h | h | ⟨h3, h4, h5⟩
  · exact Or.inl h
  · rcases h2 with g | g | ⟨g, _, _⟩
    · rw [h] at g; exact absurd g (by decide)
    · exact Or.inr (Or.inl g)
    · rw [h] at g; exact absurd g (by decide)
  · rcases h2 with g | g | ⟨g1, g2, g3⟩
    · rw [h4] at g; exact absurd g (by decide)
    · exact Or.inr (Or.inl g)
    · exact Or.inr (Or.inr ⟨h3, g2, h5.trans g3⟩)
def okS (s : Int32) : Prop := s = 0 ∨ s = 1 ∨ s = 2
theorem vle.rf {s x : Int32} (h : okS s) : vle s x s x := by
  rcases h with h | h | h
  · exact Or.inl h
  · exact Or.inr (Or.inr ⟨h, h, rfl⟩)
  · exact Or.inr (Or.inl h)
def tn (v : Int32) : Nat := v.toNatClampNeg
theorem tn_nJ {i : Nat} (h : i < 1000000) : tn (nJ i) = i := nJ_tn (by omega)
def rk (k x y : Int32) : Int32 := if k = 2 then x + y else if k = 3 then x - y else if k = 4 then x * y else if y ≤ x then 0 else 1
theorem reckon_eq (k x y : Int32) (M : Sto) : m_R_reckon k x y M = some (rk k x y, M) := by
  unfold m_R_reckon rk j_R_reckon_50
  by_cases h2 : k = 2
  · rw [if_pos h2, if_pos h2]
  rw [if_neg h2, if_neg h2]
  by_cases h3 : k = 3
  · rw [if_pos h3, if_pos h3]
  rw [if_neg h3, if_neg h3]
  by_cases h4 : k = 4
  · rw [if_pos h4, if_pos h4]
  rw [if_neg h4, if_neg h4]
  by_cases h5 : y ≤ x
  · rw [if_pos h5, if_pos h5]
  · rw [if_neg h5, if_neg h5]
def knS (M : Sto) (j : Nat) : Int32 :=
  if M 2 j = 0 then 1 else if M 2 j = 6 then 2 else if M 2 j = 1 then M 24 (tn (M 18 j))
  else if M 24 (tn (M 18 j)) = 2 ∨ M 24 (tn (M 19 j)) = 2 then 2 else if M 24 (tn (M 18 j)) = 1 ∧ M 24 (tn (M 19 j)) = 1 then 1 else 0
def knX (M : Sto) (j : Nat) : Int32 :=
  if M 2 j = 0 then M 4 j else if M 2 j = 6 then 0 else if M 2 j = 1 then M 25 (tn (M 18 j))
  else rk (M 2 j) (M 25 (tn (M 18 j))) (M 25 (tn (M 19 j)))
abbrev Site : Type := Bool × Nat × Nat
abbrev Site.ins (b i : Nat) : Site := (true, b, i)
abbrev Site.phi (b v : Nat) : Site := (false, b, v)
def Site.ok (M : Sto) : Site → Prop
  | (true, b, i) => b < 10 ∧ bt (M 0 12) b = true ∧ i < lenN M b ∧ M 2 (6 * b + i) ≠ 7
  | (false, b, v) => b < 10 ∧ bt (M 0 12) b = true ∧ v < 6 ∧ bt (M 13 b) v = true
def Site.nm (M : Sto) : Site → Int32
  | (true, b, i) => M 17 (6 * b + i)
  | (false, b, v) => M 16 (6 * b + v)
def Prd (M : Sto) (b p : Nat) : Prop := bt (M 11 b) p = true ∧ bt (M 0 27) p = true ∧ bt (M 23 p) b = true
def Site.ub (M : Sto) (B : Nat) : Site → Int32 → Int32 → Prop
  | (true, b, i), s, x => vle (knS M (6 * b + i)) (knX M (6 * b + i)) s x
  | (false, b, v), s, x => ∀ p, p < B → Prd M b p → vle (M 24 (tn (M 21 (6 * p + v)))) (M 25 (tn (M 21 (6 * p + v)))) s x
def wy (M : Sto) (b : Nat) : Int32 :=
  if M 6 b = 2 then (if M 24 (tn (M 20 b)) = 0 then 0 else if M 24 (tn (M 20 b)) = 2 then lead M b else if M 25 (tn (M 20 b)) = 0 then 1 <<< ((M 9 b) &&& 31) else 1 <<< ((M 8 b) &&& 31))
  else lead M b
def KC (M M' : Sto) : Prop := Fr [23, 24, 25] [27] M M'
theorem KC.mk {M M' : Sto} (h : Fr [23, 24, 25] [27] M M') : KC M M' := h
theorem KC.fr {M M' : Sto} (h : KC M M') : Fr [23, 24, 25] [27] M M' := h
theorem KC.cell {M M' : Sto} (h : KC M M') {k : Nat} (h0 : k ≠ 0) (h1 : k ∉ [23, 24, 25]) : M' k = M k := h.fr.1 k h0 h1
def Mle (M M' : Sto) : Prop := (KC M M') ∧ (∀ n, vle (M 24 n) (M 25 n) (M' 24 n) (M' 25 n)) ∧ (∀ b c, bt (M 23 b) c = true → bt (M' 23 b) c = true) ∧ (∀ c, bt (M 0 27) c = true → bt (M' 0 27) c = true)
theorem Mle.kc {M M' : Sto} (h : Mle M M') : KC M M' := h.1
theorem Mle.v {M M' : Sto} (h : Mle M M') : ∀ n, vle (M 24 n) (M 25 n) (M' 24 n) (M' 25 n) := h.2.1
theorem Mle.t {M M' : Sto} (h : Mle M M') : ∀ b c, bt (M 23 b) c = true → bt (M' 23 b) c = true := h.2.2.1
theorem Mle.c {M M' : Sto} (h : Mle M M') : ∀ c, bt (M 0 27) c = true → bt (M' 0 27) c = true := h.2.2.2
theorem kn_mono {M M' : Sto} (h : Mle M M') (j : Nat) : vle (knS M j) (knX M j) (knS M' j) (knX M' j) := by
  have e2 : M' 2 = M 2 := h.kc.cell (by decide) (by decide)
  have e4 : M' 4 = M 4 := h.kc.cell (by decide) (by decide)
  have e18 : M' 18 = M 18 := h.kc.cell (by decide) (by decide)
  have e19 : M' 19 = M 19 := h.kc.cell (by decide) (by decide)
  have hx := h.v (tn (M 18 j))
  have hy := h.v (tn (M 19 j))
  unfold knS knX
  rw [e2, e4, e18, e19]
  by_cases h0 : M 2 j = 0
  · simp only [h0, if_true]; exact Or.inr (Or.inr ⟨rfl, rfl, rfl⟩)
  rw [if_neg h0, if_neg h0, if_neg h0, if_neg h0]
  by_cases h6 : M 2 j = 6
  · simp only [h6, if_true]; exact Or.inr (Or.inl rfl)
  rw [if_neg h6, if_neg h6, if_neg h6, if_neg h6]
  by_cases h1 : M 2 j = 1
  · simp only [h1, if_true]; exact hx
  rw [if_neg h1, if_neg h1, if_neg h1, if_neg h1]
  by_cases ha : M 24 (tn (M 18 j)) = 2 ∨ M 24 (tn (M 19 j)) = 2
  · have hb : M' 24 (tn (M 18 j)) = 2 ∨ M' 24 (tn (M 19 j)) = 2 := by
      rcases ha with a | a
      · rcases hx with q | q | ⟨q, _⟩
        · rw [a] at q; exact absurd q (by decide)
        · exact Or.inl q
        · rw [a] at q; exact absurd q (by decide)
      · rcases hy with q | q | ⟨q, _⟩
        · rw [a] at q; exact absurd q (by decide)
        · exact Or.inr q
        · rw [a] at q; exact absurd q (by decide)
    rw [if_pos hb]; exact Or.inr (Or.inl rfl)
  · rw [if_neg ha]
    by_cases hc : M 24 (tn (M 18 j)) = 1 ∧ M 24 (tn (M 19 j)) = 1
    · rw [if_pos hc]
      by_cases hb : M' 24 (tn (M 18 j)) = 2 ∨ M' 24 (tn (M 19 j)) = 2
      · rw [if_pos hb]; exact Or.inr (Or.inl rfl)
      · have g1 : M' 24 (tn (M 18 j)) = 1 ∧ M 25 (tn (M 18 j)) = M' 25 (tn (M 18 j)) := by
          rcases hx with q | q | ⟨_, q, q2⟩
          · rw [hc.1] at q; exact absurd q (by decide)
          · exact absurd (Or.inl q) hb
          · exact ⟨q, q2⟩
        have g2 : M' 24 (tn (M 19 j)) = 1 ∧ M 25 (tn (M 19 j)) = M' 25 (tn (M 19 j)) := by
          rcases hy with q | q | ⟨_, q, q2⟩
          · rw [hc.2] at q; exact absurd q (by decide)
          · exact absurd (Or.inr q) hb
          · exact ⟨q, q2⟩
        rw [if_neg hb, if_pos ⟨g1.1, g2.1⟩, g1.2, g2.2]
        exact Or.inr (Or.inr ⟨rfl, rfl, rfl⟩)
    · rw [if_neg hc]; exact Or.inl rfl
theorem Site.ub_mono {M M' : Sto} {B : Nat} (h : Mle M M') : ∀ (σ : Site) {s x : Int32}, σ.ub M' B s x → σ.ub M B s x
  | (true, b, i), _, _, hu => (kn_mono h _).trans hu
  | (false, b, v), _, _, hu => fun p hp hq => by
    have e21 : M' 21 = M 21 := h.kc.cell (by decide) (by decide)
    have e11 : M' 11 = M 11 := h.kc.cell (by decide) (by decide)
    have := hu p hp ⟨by rw [e11]; exact hq.1, h.c p hq.2.1, h.t p b hq.2.2⟩
    rw [e21] at this
    exact (h.v _).trans this
theorem Site.ok_fr {M M' : Sto} (h : KC M M') : ∀ σ : Site, σ.ok M' ↔ σ.ok M
  | (true, b, i) => by
    show (b < 10 ∧ bt (M' 0 12) b = true ∧ i < lenN M' b ∧ M' 2 (6 * b + i) ≠ 7) ↔ (b < 10 ∧ bt (M 0 12) b = true ∧ i < lenN M b ∧ M 2 (6 * b + i) ≠ 7)
    unfold lenN
    rw [h.fr.2 12 (by decide), h.cell (k := 2) (by decide) (by decide), h.cell (k := 1) (by decide) (by decide)]
  | (false, b, v) => by
    show (b < 10 ∧ bt (M' 0 12) b = true ∧ v < 6 ∧ bt (M' 13 b) v = true) ↔ (b < 10 ∧ bt (M 0 12) b = true ∧ v < 6 ∧ bt (M 13 b) v = true)
    rw [h.fr.2 12 (by decide), h.cell (k := 13) (by decide) (by decide)]
theorem Site.nm_fr {M M' : Sto} (h : KC M M') : ∀ σ : Site, σ.nm M' = σ.nm M
  | (true, b, i) => by show M' 17 _ = M 17 _; rw [h.cell (k := 17) (by decide) (by decide)]
  | (false, b, v) => by show M' 16 _ = M 16 _; rw [h.cell (k := 16) (by decide) (by decide)]
theorem sub_inj {a b : Nat} (ha : a < 1000) (hb : b < 1000) (h : (-1 : Int32) - nJ a = -1 - nJ b) : a = b := by
  have n1 : (-1 : Int32).toInt = -1 := rfl
  have h1 := nJ_int (i := a) (by omega)
  have h2 := nJ_int (i := b) (by omega)
  have := congrArg Int32.toInt h
  rw [subI (by omega) (by omega), subI (by omega) (by omega)] at this
  omega
theorem sub_ne {a b : Nat} (ha : a < 1000) (hb : b < 1000) (h : (-1 : Int32) - nJ a = nJ b) : False := by
  have n1 : (-1 : Int32).toInt = -1 := rfl
  have h1 := nJ_int (i := a) (by omega)
  have h2 := nJ_int (i := b) (by omega)
  have := congrArg Int32.toInt h
  rw [subI (by omega) (by omega)] at this
  omega
theorem Site.name {M : Sto} {B N : Nat} (hP : PF M B) (hA : NA M B N) : ∀ σ : Site, σ.ok M → ∃ n, 6 ≤ n ∧ n < N ∧ σ.nm M = nJ n ∧ M 15 n = (match σ with | (true, b, i) => nJ (6 * b + i) | (false, b, v) => (-1) - nJ (6 * b + v))
  | (true, b, i), h => ((hA.nb b h.1 h.2.1).2.ins i h.2.2.1).md h.2.2.2
  | (false, b, v), h => (hA.nb b h.1 h.2.1).2.ph v h.2.2.1 h.2.2.2
theorem Site.inj {M : Sto} {B N : Nat} (hP : PF M B) (hA : NA M B N) {σ τ : Site} (h1 : σ.ok M) (h2 : τ.ok M) (h : σ.nm M = τ.nm M) : σ = τ := by
  obtain ⟨n, n1, n2, n3, n4⟩ := Site.name hP hA σ h1
  obtain ⟨m, m1, m2, m3, m4⟩ := Site.name hP hA τ h2
  have hhi := hA.hi
  have : n = m := nJ_inj (by omega) (by omega) (n3.symm.trans (h.trans m3))
  subst this
  have e := n4.symm.trans m4
  obtain ⟨tσ, b, i⟩ := σ
  obtain ⟨tτ, c, k⟩ := τ
  cases tσ with
  | true =>
    have l1 := hP.lenN_le h1.1
    have hb := h1.1
    have hi := h1.2.2.1
    cases tτ with
    | true =>
      have l2 := hP.lenN_le h2.1
      have hc := h2.1
      have hk := h2.2.2.1
      have := nJ_inj (by omega) (by omega) e
      have e1 : b = c := by omega
      have e2 : i = k := by omega
      rw [e1, e2]
    | false =>
      have hc := h2.1
      have hk := h2.2.2.1
      exact (sub_ne (by omega) (by omega) e.symm).elim
  | false =>
    have hb := h1.1
    have hi := h1.2.2.1
    cases tτ with
    | true =>
      have l2 := hP.lenN_le h2.1
      have hc := h2.1
      have hk := h2.2.2.1
      exact (sub_ne (by omega) (by omega) e).elim
    | false =>
      have hc := h2.1
      have hk := h2.2.2.1
      have := sub_inj (by omega) (by omega) e
      have e1 : b = c := by omega
      have e2 : i = k := by omega
      rw [e1, e2]
theorem wy_mono {M M' : Sto} (h : Mle M M') {B b : Nat} (hP : PF M B) (hb : b < B) {c : Nat} (hc : c < 32) (hw : bt (wy M b) c = true) : bt (wy M' b) c = true := by
  have hB := hP.hB
  have e6 : M' 6 = M 6 := h.kc.cell (by decide) (by decide)
  have e8 : M' 8 = M 8 := h.kc.cell (by decide) (by decide)
  have e9 : M' 9 = M 9 := h.kc.cell (by decide) (by decide)
  have e20 : M' 20 = M 20 := h.kc.cell (by decide) (by decide)
  have el : lead M' b = lead M b := lead_fr e6 e8 e9 b
  unfold wy at hw ⊢
  rw [e6, e8, e9, e20, el]
  by_cases h2 : M 6 b = 2
  · rw [if_pos h2] at hw ⊢
    have hl : lead M b = (1 <<< ((M 8 b) &&& 31)) ||| (1 <<< ((M 9 b) &&& 31)) := by
      unfold lead
      rw [if_neg (by rw [h2]; decide), if_neg (by rw [h2]; decide)]
    rcases h.v (tn (M 20 b)) with q | q | ⟨q1, q2, q3⟩
    · rw [if_pos q, bt_zero] at hw; cases hw
    · rw [if_neg (by rw [q]; decide), if_pos q]
      by_cases z0 : M 24 (tn (M 20 b)) = 0
      · rw [if_pos z0, bt_zero] at hw; cases hw
      rw [if_neg z0] at hw
      by_cases z2 : M 24 (tn (M 20 b)) = 2
      · rw [if_pos z2] at hw; exact hw
      rw [if_neg z2] at hw
      rw [hl, bt_or, Bool.or_eq_true_iff]
      by_cases zx : M 25 (tn (M 20 b)) = 0
      · rw [if_pos zx] at hw; exact Or.inr hw
      · rw [if_neg zx] at hw; exact Or.inl hw
    · rw [q1, if_neg (by decide), if_neg (by decide)] at hw
      rw [q2, if_neg (by decide), if_neg (by decide), ← q3]
      exact hw
  · rw [if_neg h2] at hw ⊢; exact hw
theorem wy_lead {M : Sto} {b c : Nat} (hw : bt (wy M b) c = true) : bt (lead M b) c = true := by
  unfold wy at hw
  by_cases h2 : M 6 b = 2
  · rw [if_pos h2] at hw
    have hl : lead M b = (1 <<< ((M 8 b) &&& 31)) ||| (1 <<< ((M 9 b) &&& 31)) := by
      unfold lead
      rw [if_neg (by rw [h2]; decide), if_neg (by rw [h2]; decide)]
    by_cases z0 : M 24 (tn (M 20 b)) = 0
    · rw [if_pos z0, bt_zero] at hw; cases hw
    rw [if_neg z0] at hw
    by_cases z2 : M 24 (tn (M 20 b)) = 2
    · rw [if_pos z2] at hw; exact hw
    rw [if_neg z2] at hw
    rw [hl, bt_or, Bool.or_eq_true_iff]
    by_cases zx : M 25 (tn (M 20 b)) = 0
    · rw [if_pos zx] at hw; exact Or.inr hw
    · rw [if_neg zx] at hw; exact Or.inl hw
  · rw [if_neg h2] at hw; exact hw
def TE (M : Sto) (B : Nat) (b c : Nat) : Prop := b < B ∧ bt (M 23 b) c = true
theorem lev_mono {E E' : Nat → Nat → Prop} {av : Nat → Prop} (h : ∀ b c, E b c → E' b c) : ∀ {r c : Nat}, lev E av r c → lev E' av r c
  | 0, _, q => q
  | _ + 1, _, q => q.elim (fun q => Or.inl (lev_mono h q)) fun ⟨p, p1, p2, p3, p4⟩ => Or.inr ⟨p, p1, lev_mono h p2, h _ _ p3, p4⟩
def KIq (M : Sto) (B : Nat) : Prop := (∀ n, okS (M 24 n)) ∧ (∀ n, M 24 n ≠ 1 → M 25 n = 0) ∧ (∀ n, n < 6 → M 24 n ≠ 0) ∧ (∀ σ : Site, σ.ok M → ∀ s x, σ.ub M B s x → vle (M 24 (tn (σ.nm M))) (M 25 (tn (σ.nm M))) s x) ∧ (∀ b, b < B → ∀ c, c < 32 → bt (M 23 b) c = true → bt (wy M b) c = true) ∧ (bt (M 0 27) 0 = true) ∧ (∀ c, c < 32 → bt (M 0 27) c = true → c < 10 ∧ bt (M 0 12) c = true) ∧ (∀ b, b < B → ∀ c, c < 32 → bt (M 23 b) c = true → bt (M 0 27) b = true ∧ bt (M 0 27) c = true) ∧ (∀ c, c < 32 → bt (M 0 27) c = true → ∃ r, lev (TE M B) (fun _ => False) r c) ∧ (∀ n, 130 ≤ n → M 24 n = 0 ∧ M 25 n = 0)
theorem KIq.st {M : Sto} {B : Nat} (h : KIq M B) : ∀ n, okS (M 24 n) := h.1
theorem KIq.nz {M : Sto} {B : Nat} (h : KIq M B) : ∀ n, M 24 n ≠ 1 → M 25 n = 0 := h.2.1
theorem KIq.six {M : Sto} {B : Nat} (h : KIq M B) : ∀ n, n < 6 → M 24 n ≠ 0 := h.2.2.1
theorem KIq.k {M : Sto} {B : Nat} (h : KIq M B) : ∀ σ : Site, σ.ok M → ∀ s x, σ.ub M B s x → vle (M 24 (tn (σ.nm M))) (M 25 (tn (σ.nm M))) s x := h.2.2.2.1
theorem KIq.w {M : Sto} {B : Nat} (h : KIq M B) : ∀ b, b < B → ∀ c, c < 32 → bt (M 23 b) c = true → bt (wy M b) c = true := h.2.2.2.2.1
theorem KIq.z {M : Sto} {B : Nat} (h : KIq M B) : bt (M 0 27) 0 = true := h.2.2.2.2.2.1
theorem KIq.rc {M : Sto} {B : Nat} (h : KIq M B) : ∀ c, c < 32 → bt (M 0 27) c = true → c < 10 ∧ bt (M 0 12) c = true := h.2.2.2.2.2.2.1
theorem KIq.tc {M : Sto} {B : Nat} (h : KIq M B) : ∀ b, b < B → ∀ c, c < 32 → bt (M 23 b) c = true → bt (M 0 27) b = true ∧ bt (M 0 27) c = true := h.2.2.2.2.2.2.2.1
theorem KIq.cw {M : Sto} {B : Nat} (h : KIq M B) : ∀ c, c < 32 → bt (M 0 27) c = true → ∃ r, lev (TE M B) (fun _ => False) r c := h.2.2.2.2.2.2.2.2.1
theorem KIq.out {M : Sto} {B : Nat} (h : KIq M B) : ∀ n, 130 ≤ n → M 24 n = 0 ∧ M 25 n = 0 := h.2.2.2.2.2.2.2.2.2
def mu (M : Sto) : Int := sm (fun n => (M 24 n).toInt) 130 + cb (M 0 27) + sm (fun b => cb (M 23 b)) 10
theorem okS.le {s : Int32} (h : okS s) : 0 ≤ s.toInt ∧ s.toInt ≤ 2 := by
  rcases h with h | h | h <;> rw [h] <;> decide
theorem mu_le {M : Sto} {B : Nat} (h : KIq M B) : mu M ≤ 370 := by
  have h1 := sm_le (f := fun n => (M 24 n).toInt) (k := 2) 130 (fun b _ => (h.st b).le.2)
  have h2 := cb_le (M 0 27)
  have h3 := sm_le (f := fun b => cb (M 23 b)) (k := 10) 10 (fun b _ => cb_le _)
  unfold mu
  omega
theorem mu_ge {M : Sto} {B : Nat} (h : KIq M B) : 0 ≤ mu M := by
  have h1 := sm_ge (f := fun n => (M 24 n).toInt) 130 (fun b _ => (h.st b).le.1)
  have h2 := cb_ge (M 0 27)
  have h3 := sm_ge (f := fun b => cb (M 23 b)) 10 (fun b _ => cb_ge _)
  unfold mu
  omega
def bec (M : Sto) (n : Nat) (s x : Int32) : Sto := up2 (up2 M 24 n s) 25 n (if s = 1 then x else 0)
def chg (M : Sto) (n : Nat) (s x : Int32) : Prop := M 24 n ≠ s ∨ (s = 1 ∧ M 25 n ≠ x)
theorem becomes_eq {M : Sto} {n : Nat} {s x : Int32} (hn : n < 130) : ∃ c, m_R_becomes (nJ n) s x M = some (c, bec M n s x) ∧ ((c = 0 ∧ ¬ chg M n s x) ∨ (c = 1 ∧ chg M n s x)) := by
  have fin : ∀ c : Int32, (c = 0 ∨ c = 1) → j_R_becomes_30 c (nJ n) s x M = some (c, bec M n s x) := by
    intro c hc
    unfold j_R_becomes_30 j_R_becomes_54 bec wr
    have hbz : bz c = true := decide_eq_true hc
    rw [nJ_tn (by omega), okN_t hn (by decide)]
    simp only [if_true]
    by_cases h : s = 1
    · simp [h, hbz]
    · simp [h, hbz]
  unfold m_R_becomes j_R_becomes_29 j_R_becomes_25
  rw [nJ_tn (by omega), okN_t hn (by decide)]
  simp only [if_true]
  by_cases h : M 24 n = s
  · rw [if_pos h]
    by_cases h1 : s = 1
    · rw [if_pos h1]
      by_cases h2 : M 25 n = x
      · rw [if_pos h2]
        exact ⟨0, fin 0 (Or.inl rfl), Or.inl ⟨rfl, fun z => z.elim (fun y => y h) fun y => y.2 h2⟩⟩
      · rw [if_neg h2]
        exact ⟨1, fin 1 (Or.inr rfl), Or.inr ⟨rfl, Or.inr ⟨h1, h2⟩⟩⟩
    · rw [if_neg h1]
      exact ⟨0, fin 0 (Or.inl rfl), Or.inl ⟨rfl, fun z => z.elim (fun y => y h) fun y => h1 y.1⟩⟩
  · rw [if_neg h]
    exact ⟨1, fin 1 (Or.inr rfl), Or.inr ⟨rfl, Or.inl h⟩⟩
theorem up2_same (M : Sto) (k j : Nat) : up2 M k j (M k j) = M := by
  funext a b
  rw [up2_at]
  by_cases h : a = k ∧ b = j
  · rw [if_pos h, h.1, h.2]
  · rw [if_neg h]
theorem bec_same {M : Sto} {n : Nat} {s x : Int32} (h : ¬ chg M n s x) (hz : M 24 n ≠ 1 → M 25 n = 0) : bec M n s x = M := by
  have h1 : M 24 n = s := Classical.byContradiction fun q => h (Or.inl q)
  unfold bec
  have h2 : (if s = 1 then x else 0) = M 25 n := by
    by_cases q : s = 1
    · rw [if_pos q]; exact Classical.byContradiction fun y => h (Or.inr ⟨q, fun z => y z.symm⟩)
    · rw [if_neg q, hz (by rw [h1]; exact q)]
  rw [h2, ← h1, up2_same]
  exact up2_same M 25 n
def SP (M : Sto) (B : Nat) (σ : Site) (a : Int32 × Sto) : Prop := (a.1 = 0 ∧ a.2 = M ∧ σ.ub M B (M 24 (tn (σ.nm M))) (M 25 (tn (σ.nm M)))) ∨ (a.1 = 1 ∧ KIq a.2 B ∧ KC M a.2 ∧ mu M < mu a.2 ∧ a.2 0 27 = M 0 27)
theorem bec_step {M : Sto} {B N n : Nat} {s x : Int32} {σ : Site} (hP : PF M B) (hA : NA M B N) (hI : KIq M B) (hσ : σ.ok M) (hn : σ.nm M = nJ n) (hs : okS s) (hu : σ.ub M B s x) (hmin : ∀ s' x', σ.ub M B s' x' → vle s x s' x') :
    Ok (SP M B σ) (m_R_becomes (nJ n) s x M) := by
  obtain ⟨m, m1, m2, m3, _⟩ := Site.name hP hA σ hσ
  have hhi := hA.hi
  have hnm : n < 1000000 → n = m := fun h => nJ_inj (by omega) (by omega) (hn.symm.trans m3)
  have hnm2 : nJ n = nJ m := hn.symm.trans m3
  rw [hnm2]
  obtain ⟨c, hc, hcc⟩ := becomes_eq (M := M) (n := m) (s := s) (x := x) (by omega)
  rw [hc]
  have hv := hI.k σ hσ s x hu
  rw [m3, tn_nJ (by omega)] at hv
  rcases hcc with ⟨c0, hno⟩ | ⟨c1, hch⟩
  · have hsame := bec_same hno (hI.nz m)
    refine ⟨_, rfl, Or.inl ⟨c0, hsame, ?_⟩⟩
    rw [m3, tn_nJ (by omega)]
    have e1 : M 24 m = s := Classical.byContradiction fun q => hno (Or.inl q)
    by_cases q : s = 1
    · have e2 : M 25 m = x := Classical.byContradiction fun y => hno (Or.inr ⟨q, y⟩)
      rw [e1, e2]; exact hu
    · rw [e1]
      rcases hs with y | y | y
      · -- nothing: the rule gives nothing
        have hz : vle s x s (M 25 m) := Or.inl y
        obtain ⟨tσ, b, i⟩ := σ
        cases tσ with
        | true => exact vle.trans hu hz
        | false => exact fun p hp hq => (hu p hp hq).trans hz
      · exact absurd y q
      · have hz : vle s x s (M 25 m) := Or.inr (Or.inl y)
        obtain ⟨tσ, b, i⟩ := σ
        cases tσ with
        | true => exact vle.trans hu hz
        | false => exact fun p hp hq => (hu p hp hq).trans hz
  · refine ⟨_, rfl, Or.inr ⟨c1, ?_⟩⟩
    have hlt : (M 24 m).toInt < s.toInt := by
      have n0 : (0 : Int32).toInt = 0 := rfl
      have n1 : (1 : Int32).toInt = 1 := rfl
      have n2 : (2 : Int32).toInt = 2 := rfl
      rcases hv with q | q | ⟨q1, q2, q3⟩
      · rw [q, n0]
        rcases hs with y | y | y
        · rcases hch with z | z
          · exact absurd (q.trans y.symm) z
          · rw [y] at z; exact absurd z.1 (by decide)
        · rw [y]; decide
        · rw [y]; decide
      · rcases hI.st m with y | y | y
        · rw [y, q]; decide
        · rw [y, q]; decide
        · rcases hch with z | z
          · exact absurd (y.trans q.symm) z
          · rw [q] at z; exact absurd z.1 (by decide)
      · rcases hch with z | z
        · exact absurd (q1.trans q2.symm) z
        · exact absurd q3 z.2
    have k24 : ∀ j, bec M m s x 24 j = if j = m then s else M 24 j := fun j => by
      unfold bec
      rw [up2_ne _ _ _ (by decide), up2_at]
      by_cases z : j = m
      · rw [if_pos ⟨rfl, z⟩, if_pos z]
      · rw [if_neg (fun y => z y.2), if_neg z]
    have k25 : ∀ j, bec M m s x 25 j = if j = m then (if s = 1 then x else 0) else M 25 j := fun j => by
      unfold bec
      rw [up2_at]
      by_cases z : j = m
      · rw [if_pos ⟨rfl, z⟩, if_pos z]
      · rw [if_neg (fun y => z y.2), if_neg z, up2_ne _ _ _ (by decide)]
    have kc : KC M (bec M m s x) := KC.mk ((Fr.rfl.up (by decide) (by decide)).up (by decide) (by decide))
    have k23 : bec M m s x 23 = M 23 := by unfold bec; rw [up2_ne _ _ _ (by decide), up2_ne _ _ _ (by decide)]
    have k27 : bec M m s x 0 = M 0 := by unfold bec; rw [up2_ne _ _ _ (by decide), up2_ne _ _ _ (by decide)]
    have hle : Mle M (bec M m s x) := by
      refine ⟨kc, fun j => ?_, fun b c h => by rw [k23]; exact h, fun c h => by rw [k27]; exact h⟩
      rw [k24, k25]
      by_cases z : j = m
      · rw [if_pos z, if_pos z, z]
        rcases hv with q | q | ⟨q1, q2, q3⟩
        · exact Or.inl q
        · exact Or.inr (Or.inl q)
        · rw [if_pos q2]; exact Or.inr (Or.inr ⟨q1, q2, q3⟩)
      · rw [if_neg z, if_neg z]; exact vle.rf (hI.st j)
    show KIq (bec M m s x) B ∧ KC M (bec M m s x) ∧ mu M < mu (bec M m s x) ∧ bec M m s x 0 27 = M 0 27
    refine ⟨⟨fun j => ?_, fun j hj => ?_, fun j hj => ?_, fun τ hτ s' x' hu' => ?_, fun b hb c hc hw => ?_, by rw [k27]; exact hI.z, by rw [k27]; exact hI.rc, by rw [k23, k27]; exact hI.tc, fun c hc h => ?_, fun j hj => by rw [k24, k25, if_neg (by omega), if_neg (by omega)]; exact hI.out j hj⟩, kc, ?_, by rw [k27]⟩
    · show okS (bec M m s x 24 j)
      rw [k24]
      by_cases z : j = m
      · rw [if_pos z]; exact hs
      · rw [if_neg z]; exact hI.st j
    · have hj : bec M m s x 24 j ≠ 1 := hj
      show bec M m s x 25 j = 0
      rw [k24] at hj
      rw [k25]
      by_cases z : j = m
      · rw [if_pos z] at hj ⊢; rw [if_neg hj]
      · rw [if_neg z] at hj ⊢; exact hI.nz j hj
    · show bec M m s x 24 j ≠ 0
      rw [k24, if_neg (by omega)]; exact hI.six j hj
    · have hτ0 := (Site.ok_fr kc τ).mp hτ
      have hu0 := Site.ub_mono hle τ hu'
      show vle (bec M m s x 24 _) (bec M m s x 25 _) s' x'
      rw [Site.nm_fr kc τ, k24, k25]
      by_cases z : tn (τ.nm M) = m
      · rw [if_pos z, if_pos z]
        obtain ⟨y, y1, y2, y3, _⟩ := Site.name hP hA τ hτ0
        rw [y3, tn_nJ (by omega)] at z
        have : σ = τ := Site.inj hP hA hσ hτ0 (by rw [m3, y3, z])
        subst this
        have hmn := hmin s' x' hu0
        rcases hmn with q | q | ⟨q1, q2, q3⟩
        · exact Or.inl q
        · exact Or.inr (Or.inl q)
        · rw [if_pos q1]; exact Or.inr (Or.inr ⟨q1, q2, q3⟩)
      · rw [if_neg z, if_neg z]; exact hI.k τ hτ0 s' x' hu0
    · have hw : bt (bec M m s x 23 b) c = true := hw
      rw [k23] at hw
      exact wy_mono hle hP hb hc (hI.w b hb c hc hw)
    · have h : bt (bec M m s x 0 27) c = true := h
      rw [k27] at h
      obtain ⟨r, hr⟩ := hI.cw c hc h
      refine ⟨r, lev_mono (fun b c hb => ?_) hr⟩
      show b < B ∧ bt (bec M m s x 23 b) c = true
      rw [k23]; exact hb
    · show mu M < mu (bec M m s x)
      have h1 : sm (fun n => (M 24 n).toInt) 130 < sm (fun n => (bec M m s x 24 n).toInt) 130 := sm_more (j := m) (by rw [k24, if_pos rfl]; exact hlt) 130 (by omega) (fun j _ => by
        rw [k24]
        by_cases z : j = m
        · rw [if_pos z, z]; omega
        · rw [if_neg z]; exact Int.le_refl _)
      unfold mu
      rw [k27, k23]
      omega
end
section
theorem KC.rfl {M : Sto} : KC M M := KC.mk Fr.rfl
theorem KC.trans {M M1 M2 : Sto} (h1 : KC M M1) (h2 : KC M1 M2) : KC M M2 := KC.mk (h1.fr.trans h2.fr)
theorem PF.kc {M M' : Sto} {B : Nat} (h : PF M B) (k : KC M M') : PF M' B := h.fr (k.fr.mono (by decide) (by decide))
theorem RRq.kc {M M' : Sto} {B : Nat} (h : RRq M B) (k : KC M M') : RRq M' B := h.fr (k.fr.mono (by decide) (by decide))
theorem NA.kc {M M' : Sto} {B N : Nat} (hP : PF M B) (h : NA M B N) (k : KC M M') : NA M' B N := by
  refine ⟨by rw [k.fr.2 17 (by decide)]; exact h.num, h.lo, h.hi, fun c hc hb => ?_, by unfold lenN; rw [k.cell (k := 15) (by decide) (by decide), k.cell (k := 1) (by decide) (by decide), k.fr.2 12 (by decide)]; exact h.sit⟩
  rw [k.fr.2 12 (by decide)] at hb
  obtain ⟨c1, c2⟩ := h.nb c hc hb
  refine ⟨c1, c2.fr (Nat.le_refl _) (k.cell (by decide) (by decide)) (k.cell (by decide) (by decide)) (k.cell (by decide) (by decide)) (k.cell (by decide) (by decide)) (k.cell (by decide) (by decide)) (fun n _ => by rw [k.cell (k := 15) (by decide) (by decide)]) (fun q hq w _ => ?_) (by rw [k.cell (k := 20) (by decide) (by decide)]) (hP.lenN_le hc) (fun p w _ _ _ _ _ => by rw [k.cell (k := 21) (by decide) (by decide)])⟩
  rw [k.cell (k := q) (by omega) (by rcases hq with z | z | z | z | z <;> rw [z] <;> decide)]
theorem vle2 {a b s x : Int32} (h : vle 2 a s x) : vle 2 b s x := by
  rcases h with q | q | ⟨q, _⟩
  · exact absurd q (by decide)
  · exact Or.inr (Or.inl q)
  · exact absurd q (by decide)
theorem r_meet9 {P : Int32 × Sto → Prop} {k : Int32 → Int32 → Int32 → Sto → Option (Int32 × Sto)} {M : Sto} {B N b v : Nat} {v1 : Int32} (hP : PF M B) (hA : NA M B N) (hI : KIq M B) (hb : b < B) (hv : v < 6)
    (hk : ∀ s x, okS s → (Site.phi b v).ub M B s x → (∀ s' x', (Site.phi b v).ub M B s' x' → vle s x s' x') → Ok P (k v1 s x M)) :
    ∀ n i s x, okS s → (∀ p, p < i → Prd M b p → vle (M 24 (tn (M 21 (6 * p + v)))) (M 25 (tn (M 21 (6 * p + v)))) s x) → (∀ s' x', (∀ p, p < i → Prd M b p → vle (M 24 (tn (M 21 (6 * p + v)))) (M 25 (tn (M 21 (6 * p + v)))) s' x') → vle s x s' x') → i ≤ B → B - i < n → Ok P (l_R_meet_9 k n v1 (nJ b) (nJ v) s x (nJ i) M) := by
  intro n
  have hB := hP.hB
  induction n with
  | zero => intro i s x _ _ _ h1 h2; omega
  | succ n ih =>
    intro i s x hs hu hm hi hn
    unfold l_R_meet_9
    rw [hP.blk]
    refine Ok.leN (by omega) (by omega) (fun q => ?_) (fun q => ?_)
    · have : i = B := by omega
      subst this
      exact hk s x hs hu hm
    refine Ok.okN (by omega) (by decide) ?_
    rw [nJ_tn (i := b) (by omega), nJ_tn (i := i) (by omega)]
    have e149 : ∀ s x, j_R_meet_149 (l_R_meet_9 k n) k v1 (nJ b) (nJ v) s x (nJ i) M = l_R_meet_9 k n v1 (nJ b) (nJ v) s x (nJ (i + 1)) M := fun s x => by
      unfold j_R_meet_149
      rw [nJ_succ (by omega)]
    have skip : ¬ Prd M b i → Ok P (j_R_meet_149 (l_R_meet_9 k n) k v1 (nJ b) (nJ v) s x (nJ i) M) := by
      intro hno
      rw [e149]
      refine ih (i + 1) s x hs (fun p hp hq => ?_) (fun s' x' h => hm s' x' fun p hp hq => h p (by omega) hq) (by omega) (by omega)
      by_cases z : p = i
      · rw [z] at hq; exact absurd hq hno
      · exact hu p (by omega) hq
    refine Ok.has (by omega) (fun g1 => ?_) (fun g1 => skip fun z => by rw [z.1] at g1; cases g1)
    dsimp only
    refine Ok.has (by omega) (fun g2 => ?_) (fun g2 => skip fun z => by rw [z.2.1] at g2; cases g2)
    dsimp only
    refine Ok.okN (by omega) (by decide) ?_
    refine Ok.has (by omega) (fun g3 => ?_) (fun g3 => skip fun z => by rw [z.2.2] at g3; cases g3)
    dsimp only
    have hpr : Prd M b i := ⟨g1, g2, g3⟩
    have e6 : 6 * nJ i + nJ v = nJ (6 * i + v) := by rw [nJ_mul6 (by omega), nJ_add (by omega)]
    refine Ok.okE e6 (by omega) (by decide) ?_
    rw [e6, nJ_tn (by omega)]
    obtain ⟨m, m1, m2, _⟩ := (hA.nb i (by omega) (hI.rc i (by omega) g2).2).2.cur v hv
    have hhi := hA.hi
    simp only [m2]
    rw [nJ_tn (by omega)]
    have hV : tn (M 21 (6 * i + v)) = m := by rw [m2, tn_nJ (by omega)]
    have go : ∀ s1 x1, okS s1 → vle s x s1 x1 → vle (M 24 m) (M 25 m) s1 x1 → (∀ s' x', vle s x s' x' → vle (M 24 m) (M 25 m) s' x' → vle s1 x1 s' x') → Ok P (j_R_meet_149 (l_R_meet_9 k n) k v1 (nJ b) (nJ v) s1 x1 (nJ i) M) := by
      intro s1 x1 h1 h2 h3 h4
      rw [e149]
      refine ih (i + 1) s1 x1 h1 (fun p hp hq => ?_) (fun s' x' h => h4 s' x' (hm s' x' fun p hp hq => h p (by omega) hq) ?_) (by omega) (by omega)
      · by_cases z : p = i
        · rw [z, hV]; exact h3
        · exact (hu p (by omega) hq).trans h2
      · have := h i (by omega) hpr
        rw [hV] at this; exact this
    have any : (∀ s' x', vle s x s' x' → vle (M 24 m) (M 25 m) s' x' → s' = 2) → Ok P (j_R_meet_115 (l_R_meet_9 k n) k v1 (nJ b) (nJ v) x (nJ i) M) := by
      intro h
      unfold j_R_meet_115
      exact go 2 x (Or.inr (Or.inr rfl)) (Or.inr (Or.inl rfl)) (Or.inr (Or.inl rfl)) (fun s' x' a c => Or.inr (Or.inl (h s' x' a c)))
    have rest : M 24 m ≠ 2 → ¬ (s = 1 ∧ M 24 m = 1 ∧ M 25 m ≠ x) → Ok P (j_R_meet_121 (l_R_meet_9 k n) k v1 (nJ b) (nJ v) s x (nJ i) (nJ m) M) := by
      intro h2 h3
      unfold j_R_meet_121
      rw [nJ_tn (by omega)]
      refine Ok.ifE (fun z => ?_) (fun z => ?_)
      · refine Ok.okN (by omega) (by decide) ?_
        refine Ok.ifE (fun y => ?_) (fun y => ?_)
        · refine Ok.okN (by omega) (by decide) ?_
          exact go 1 (M 25 m) (Or.inr (Or.inl rfl)) (Or.inl z) (Or.inr (Or.inr ⟨y, rfl, rfl⟩)) (fun s' x' _ c => y ▸ c)
        · have y0 : M 24 m = 0 := by
            rcases hI.st m with q | q | q
            · exact q
            · exact absurd q y
            · exact absurd q h2
          exact go s x hs (vle.rf hs) (Or.inl y0) (fun s' x' a _ => a)
      · refine go s x hs (vle.rf hs) ?_ (fun s' x' a _ => a)
        rcases hI.st m with q | q | q
        · exact Or.inl q
        · rcases hs with y | y | y
          · exact absurd y z
          · exact Or.inr (Or.inr ⟨q, y, Classical.byContradiction fun w => h3 ⟨y, q, w⟩⟩)
          · exact Or.inr (Or.inl y)
        · exact absurd q h2
    refine Ok.okN (by omega) (by decide) ?_
    refine Ok.ifE (fun z => ?_) (fun z => ?_)
    · exact any (fun s' x' _ c => by
        rcases c with q | q | ⟨q, _⟩
        · rw [z] at q; exact absurd q (by decide)
        · exact q
        · rw [z] at q; exact absurd q (by decide))
    · refine Ok.ifE (fun y => ?_) (fun y => rest z fun w => y w.1)
      refine Ok.okN (by omega) (by decide) ?_
      refine Ok.ifE (fun y2 => ?_) (fun y2 => rest z fun w => y2 w.2.1)
      refine Ok.okN (by omega) (by decide) ?_
      refine Ok.ifE (fun y3 => rest z fun w => w.2.2 y3) (fun y3 => ?_)
      exact any (fun s' x' a c => by
        rcases a with q | q | ⟨q1, q2, q3⟩
        · rw [y] at q; exact absurd q (by decide)
        · exact q
        · rcases c with w | w | ⟨w1, w2, w3⟩
          · rw [y2] at w; exact absurd w (by decide)
          · exact w
          · exact absurd (w3.trans q3.symm) y3)
theorem Ok.ret {Q : Int32 × Sto → Prop} {x : Option (Int32 × Sto)} (h : Ok Q x) (hb : ∀ a, Q a → a.1 = 0 ∨ a.1 = 1) : Ok Q (x.bind fun o => if bz o.1 then Option.some (o.1, o.2) else none) := by
  obtain ⟨⟨r, M⟩, rfl, hq⟩ := h
  exact Ok.bzt (hb _ hq) ⟨(r, M), rfl, hq⟩
theorem SP.bz {M : Sto} {B : Nat} {σ : Site} (a : Int32 × Sto) (h : SP M B σ a) : a.1 = 0 ∨ a.1 = 1 := h.elim (fun z => Or.inl z.1) fun z => Or.inr z.1
theorem r_meet {M : Sto} {B N b v n : Nat} (hP : PF M B) (hA : NA M B N) (hI : KIq M B) (hb : b < B) (hσ : (Site.phi b v).ok M) (hn : M 16 (6 * b + v) = nJ n) : Ok (SP M B (Site.phi b v)) (m_R_meet (nJ n) (nJ b) (nJ v) M) := by
  unfold m_R_meet
  have hB := hP.hB
  refine r_meet9 hP hA hI hb hσ.2.2.1 (fun s x hs hu hm => ?_) FU 0 0 0 (Or.inl rfl) (fun p hp => by omega) (fun _ _ _ => Or.inl rfl) (by omega) (by unfold FU; omega)
  unfold j_R_meet_155
  exact Ok.ret (bec_step hP hA hI hσ hn hs hu hm) SP.bz
theorem r_knows {M : Sto} {B N b i : Nat} (hP : PF M B) (hA : NA M B N) (hI : KIq M B) (hb : b < B) (hr : bt (M 0 12) b = true) (hi : i < lenN M b) :
    Ok (fun a => (M 2 (6 * b + i) = 7 ∧ a.1 = 0 ∧ a.2 = M) ∨ (M 2 (6 * b + i) ≠ 7 ∧ SP M B (Site.ins b i) a)) (m_R_knows (nJ (6 * b + i)) M) := by
  have hB := hP.hB
  have hl := hP.lenN_le (b := b) (by omega)
  have hin := (hA.nb b (by omega) hr).2.ins i hi
  have hhi := hA.hi
  have n0 : (0 : Int32).toInt = 0 := rfl
  have nm1 : (-1 : Int32).toInt = -1 := rfl
  unfold m_R_knows
  refine Ok.okN (by omega) (by decide) ?_
  refine Ok.okN (by omega) (by decide) ?_
  rw [nJ_tn (by omega)]
  by_cases h7 : M 2 (6 * b + i) = 7
  · rw [hin.mt h7]
    refine Ok.le (fun q => by omega) (fun q => ?_)
    exact Ok.bzt (Or.inl rfl) ⟨(0, M), rfl, Or.inl ⟨h7, rfl, rfl⟩⟩
  obtain ⟨n, n1, n2, n3, _⟩ := hin.md h7
  have hσ : (Site.ins b i).ok M := ⟨by omega, hr, hi, h7⟩
  have en := nJ_int (i := n) (by omega)
  rw [n3]
  refine Ok.le (fun _ => ?_) (fun q => by omega)
  have back : ∀ {x : Option (Int32 × Sto)}, Ok (SP M B (Site.ins b i)) x → Ok (fun a => (M 2 (6 * b + i) = 7 ∧ a.1 = 0 ∧ a.2 = M) ∨ (M 2 (6 * b + i) ≠ 7 ∧ SP M B (Site.ins b i) a)) x := fun h => h.to fun a ha => Or.inr ⟨h7, ha⟩
  have done : ∀ s x, okS s → vle (knS M (6 * b + i)) (knX M (6 * b + i)) s x → (∀ s' x', vle (knS M (6 * b + i)) (knX M (6 * b + i)) s' x' → vle s x s' x') → Ok (SP M B (Site.ins b i)) (m_R_becomes (nJ n) s x M) := fun s x hs hu hm => bec_step hP hA hI hσ n3 hs hu hm
  refine back ?_
  refine Ok.ifE (fun z0 => ?_) (fun z0 => ?_)
  · refine Ok.okN (by omega) (by decide) ?_
    refine Ok.ret (done 1 _ (Or.inr (Or.inl rfl)) ?_ ?_) SP.bz
    · unfold knS knX; rw [if_pos z0, if_pos z0]; exact vle.rf (Or.inr (Or.inl rfl))
    · unfold knS knX; rw [if_pos z0, if_pos z0]; exact fun _ _ h => h
  refine Ok.ifE (fun z6 => ?_) (fun z6 => ?_)
  · refine Ok.ret (done 2 0 (Or.inr (Or.inr rfl)) (Or.inr (Or.inl rfl)) ?_) SP.bz
    unfold knS; rw [if_neg z0, if_pos z6]; exact fun _ _ h => vle2 h
  refine Ok.okN (by omega) (by decide) ?_
  obtain ⟨u, u1, u2, _⟩ := hin.ux z0 z6
  have eu : tn (M 18 (6 * b + i)) = u := by rw [u2, tn_nJ (by omega)]
  refine Ok.ifE (fun z1 => ?_) (fun z1 => ?_)
  · refine Ok.okE u2 (by omega) (by decide) ?_
    refine Ok.okE u2 (by omega) (by decide) ?_
    rw [u2, nJ_tn (by omega)]
    refine Ok.ret (done _ _ (hI.st u) ?_ ?_) SP.bz
    · unfold knS knX; rw [if_neg z0, if_neg z0, if_neg z6, if_neg z6, if_pos z1, if_pos z1, eu]; exact vle.rf (hI.st u)
    · unfold knS knX; rw [if_neg z0, if_neg z0, if_neg z6, if_neg z6, if_pos z1, if_pos z1, eu]; exact fun _ _ h => h
  refine Ok.okN (by omega) (by decide) ?_
  obtain ⟨w, w1, w2, _⟩ := hin.uy z0 z1 z6 h7
  have ew : tn (M 19 (6 * b + i)) = w := by rw [w2, tn_nJ (by omega)]
  have eS : knS M (6 * b + i) = if M 24 u = 2 ∨ M 24 w = 2 then 2 else if M 24 u = 1 ∧ M 24 w = 1 then 1 else 0 := by
    unfold knS; rw [if_neg z0, if_neg z6, if_neg z1, eu, ew]
  have eX : knX M (6 * b + i) = rk (M 2 (6 * b + i)) (M 25 u) (M 25 w) := by
    unfold knX; rw [if_neg z0, if_neg z6, if_neg z1, eu, ew]
  have any : (M 24 u = 2 ∨ M 24 w = 2) → Ok (SP M B (Site.ins b i)) (j_R_knows_114 (nJ n) M) := by
    intro h
    unfold j_R_knows_114
    refine Ok.ret (done 2 0 (Or.inr (Or.inr rfl)) (Or.inr (Or.inl rfl)) ?_) SP.bz
    rw [eS, if_pos h]; exact fun _ _ h => vle2 h
  have non : ¬ (M 24 u = 2 ∨ M 24 w = 2) → ¬ (M 24 u = 1 ∧ M 24 w = 1) → Ok (SP M B (Site.ins b i)) (j_R_knows_176 M) := by
    intro h1 h2
    unfold j_R_knows_176 j_R_knows_177
    refine Ok.bzt (Or.inl rfl) ⟨(0, M), rfl, Or.inl ⟨rfl, rfl, ?_⟩⟩
    show vle _ _ _ _
    rw [eS, if_neg h1, if_neg h2]; exact Or.inl rfl
  refine Ok.okE u2 (by omega) (by decide) ?_
  rw [u2, nJ_tn (by omega)]
  refine Ok.ifE (fun y => any (Or.inl y)) (fun y => ?_)
  refine Ok.okE w2 (by omega) (by decide) ?_
  rw [w2, nJ_tn (by omega)]
  refine Ok.ifE (fun y2 => any (Or.inr y2)) (fun y2 => ?_)
  have h2 : ¬ (M 24 u = 2 ∨ M 24 w = 2) := fun z => z.elim y y2
  refine Ok.okN (by omega) (by decide) ?_
  refine Ok.ifE (fun x1 => ?_) (fun x1 => non h2 fun z => x1 z.1)
  refine Ok.okN (by omega) (by decide) ?_
  refine Ok.ifE (fun x2 => ?_) (fun x2 => non h2 fun z => x2 z.2)
  refine Ok.okN (by omega) (by decide) ?_
  refine Ok.okN (by omega) (by decide) ?_
  rw [reckon_eq]
  refine Ok.bindS ?_
  dsimp only
  have hd := done 1 (rk (M 2 (6 * b + i)) (M 25 u) (M 25 w)) (Or.inr (Or.inl rfl)) (by rw [eS, eX, if_neg h2, if_pos ⟨x1, x2⟩]; exact vle.rf (Or.inr (Or.inl rfl))) (by rw [eS, eX, if_neg h2, if_pos ⟨x1, x2⟩]; exact fun _ _ h => h)
  refine Ok.bind hd (fun r M1 hsp => ?_)
  dsimp only
  unfold j_R_knows_176 j_R_knows_177
  rcases hsp with ⟨a1, a2, a3⟩ | ⟨a1, a2, a3, a4⟩
  · dsimp only at a1 a2
    rw [if_pos a1]
    exact Ok.bzt (Or.inl rfl) ⟨(0, M1), rfl, Or.inl ⟨rfl, a2, a3⟩⟩
  · dsimp only at a1 a2 a3 a4
    rw [if_neg (by rw [a1]; decide)]
    exact Ok.bzt (Or.inr rfl) ⟨(1, M1), rfl, Or.inr ⟨rfl, a2, a3, a4⟩⟩
theorem ways_eq {M : Sto} {B N b : Nat} (hP : PF M B) (hA : NA M B N) (hb : b < B) (hr : bt (M 0 12) b = true) : m_R_ways (nJ b) M = some (wy M b, M) := by
  have hB := hP.hB
  have hhi := hA.hi
  have n0 : (0 : Int32).toInt = 0 := rfl
  have n1 : (1 : Int32).toInt = 1 := rfl
  have n2 : (2 : Int32).toInt = 2 := rfl
  unfold m_R_ways wy
  rw [nJ_tn (by omega), okN_t (by omega) (by decide), lead_eq (by omega)]
  simp only [if_true]
  by_cases h2 : M 6 b = 2
  · have hle : (2 : Int32) ≤ M 6 b := by rw [h2]; decide
    obtain ⟨t, t1, t2, _⟩ := (hA.nb b (by omega) hr).2.ts h2
    have et : tn (M 20 b) = t := by rw [t2, tn_nJ (by omega)]
    rw [if_pos hle, if_pos h2, et, t2, nJ_tn (by omega), okN_t (by omega) (by decide)]
    simp only [if_true]
    unfold j_R_ways_77 j_R_ways_78
    by_cases z0 : M 24 t = 0
    · rw [if_pos z0, if_pos z0]
    rw [if_neg z0, if_neg z0]
    by_cases z2 : M 24 t = 2
    · rw [if_pos z2, if_pos z2]; rfl
    rw [if_neg z2, if_neg z2]
    by_cases zx : M 25 t = 0
    · rw [if_pos zx, if_pos zx]
    · rw [if_neg zx, if_neg zx]
  · have hle : ¬ (2 : Int32) ≤ M 6 b := by
      rcases hP.fin b hb with z | ⟨z, _⟩ | ⟨z, _⟩
      · rw [z]; decide
      · rw [z]; decide
      · exact absurd z h2
    rw [if_neg hle, if_neg h2]; rfl
theorem r_set {M : Sto} {B b : Nat} (hP : PF M B) (hR : RRq M B) (hI : KIq M B) (h0 : 0 < B) (hb : b < B) (hc : bt (M 0 27) b = true) :
    KIq (up2 (up2 M 23 b (wy M b)) 0 27 (M 0 27 ||| wy M b)) B ∧ KC M (up2 (up2 M 23 b (wy M b)) 0 27 (M 0 27 ||| wy M b)) ∧ mu M ≤ mu (up2 (up2 M 23 b (wy M b)) 0 27 (M 0 27 ||| wy M b)) ∧
    ((wy M b ≠ M 23 b ∨ M 0 27 ||| wy M b ≠ M 0 27) → mu M < mu (up2 (up2 M 23 b (wy M b)) 0 27 (M 0 27 ||| wy M b))) := by
  have hB := hP.hB
  generalize hM4 : up2 (up2 M 23 b (wy M b)) 0 27 (M 0 27 ||| wy M b) = M4
  have kc : KC M M4 := KC.mk (by rw [← hM4]; exact (Fr.rfl.up (by decide) (by decide)).up0 (by decide))
  have e24 : M4 24 = M 24 := by rw [← hM4, up2_ne _ _ _ (by decide), up2_ne _ _ _ (by decide)]
  have e25 : M4 25 = M 25 := by rw [← hM4, up2_ne _ _ _ (by decide), up2_ne _ _ _ (by decide)]
  have e23 : M4 23 b = wy M b := by rw [← hM4, up2_ne _ _ _ (by decide), up2_at, if_pos ⟨rfl, rfl⟩]
  have o23 : ∀ a, a ≠ b → M4 23 a = M 23 a := fun a ha => by rw [← hM4, up2_ne _ _ _ (by decide), up2_at, if_neg (fun z => ha z.2)]
  have e27 : M4 0 27 = M 0 27 ||| wy M b := by rw [← hM4, up2_at, if_pos ⟨rfl, rfl⟩]
  have z12 : M4 0 12 = M 0 12 := kc.fr.2 12 (by decide)
  have ew : ∀ a, wy M4 a = wy M a := fun a => by
    unfold wy
    rw [e24, e25, kc.cell (k := 6) (by decide) (by decide), kc.cell (k := 20) (by decide) (by decide), kc.cell (k := 8) (by decide) (by decide), kc.cell (k := 9) (by decide) (by decide), lead_fr (kc.cell (by decide) (by decide)) (kc.cell (by decide) (by decide)) (kc.cell (by decide) (by decide))]
  have wl : ∀ c, c < 32 → bt (wy M b) c = true → 0 < c ∧ c < B := fun c hc h => lead_lt hP hb hc (wy_lead h)
  have tb : ∀ c, bt (M 23 b) c = true → bt (wy M b) c = true := fun c h => by
    by_cases z : c < 32
    · exact hI.w b hb c z h
    · rw [bt_big (by omega)] at h; cases h
  have hle : Mle M M4 := by
    refine ⟨kc, fun n => by rw [e24, e25]; exact vle.rf (hI.st n), fun a c h => ?_, fun c h => by rw [e27, bt_or, h]; rfl⟩
    by_cases z : a = b
    · rw [z, e23]; rw [z] at h; exact tb c h
    · rw [o23 a z]; exact h
  have te : ∀ a c, TE M B a c → TE M4 B a c := fun a c h => ⟨h.1, hle.t a c h.2⟩
  obtain ⟨rb, hrb⟩ := hI.cw b (by omega) hc
  have m24 : sm (fun n => (M4 24 n).toInt) 130 = sm (fun n => (M 24 n).toInt) 130 := by rw [e24]
  have m27 : cb (M 0 27) ≤ cb (M4 0 27) := cb_mono fun c _ h => hle.c c h
  have m23 : sm (fun a => cb (M 23 a)) 10 ≤ sm (fun a => cb (M4 23 a)) 10 := sm_mono 10 fun a _ => cb_mono fun c _ h => hle.t a c h
  refine ⟨⟨by rw [e24]; exact hI.st, by rw [e24, e25]; exact hI.nz, by rw [e24]; exact hI.six, fun σ hσ s x hu => ?_, fun a ha c hc' h => ?_, by rw [e27, bt_or, hI.z]; rfl, fun c hc' h => ?_, fun a ha c hc' h => ?_, fun c hc' h => ?_, by rw [e24, e25]; exact hI.out⟩, kc, ?_, fun hne => ?_⟩
  · rw [Site.nm_fr kc, e24, e25]
    exact hI.k σ ((Site.ok_fr kc σ).mp hσ) s x (Site.ub_mono hle σ hu)
  · rw [ew]
    by_cases z : a = b
    · rw [z, e23] at h; rw [z]; exact h
    · rw [o23 a z] at h; exact hI.w a ha c hc' h
  · rw [e27, bt_or] at h
    rw [z12]
    rcases Bool.or_eq_true_iff.mp h with q | q
    · exact hI.rc c hc' q
    · have hl := wl c hc' q
      obtain ⟨_, s, hs⟩ := (hR.rch b (by omega)).mp (hI.rc b (by omega) hc).2
      exact ⟨by omega, (hR.rch c (by omega)).mpr ⟨by omega, s + 1, Or.inr ⟨b, by omega, hs, ⟨hb, wy_lead q⟩, fun z => z⟩⟩⟩
  · by_cases z : a = b
    · rw [z, e23] at h
      rw [z]
      refine ⟨hle.c b hc, ?_⟩
      rw [e27, bt_or, h]; exact Bool.or_true _
    · rw [o23 a z] at h
      have := hI.tc a ha c hc' h
      exact ⟨hle.c a this.1, hle.c c this.2⟩
  · rw [e27, bt_or] at h
    rcases Bool.or_eq_true_iff.mp h with q | q
    · obtain ⟨r, hr⟩ := hI.cw c hc' q
      exact ⟨r, lev_mono te hr⟩
    · exact ⟨rb + 1, Or.inr ⟨b, by omega, lev_mono te hrb, ⟨hb, by rw [e23]; exact q⟩, fun z => z⟩⟩
  · unfold mu; omega
  · have key : ∀ x y : Int32, x ≠ y → (∀ c, c < 32 → bt y c = true → bt x c = true) → (∀ c, c < 32 → bt x c = true → bt y c = true ∨ c < 10) → cb y < cb x := by
      intro x y hxy h1 h2
      have : ∃ c, c < 32 ∧ bt x c = true ∧ bt y c = false := by
        apply Classical.byContradiction
        intro hno
        apply hxy
        apply bt_ext
        intro c hc'
        cases hx : bt x c with
        | true =>
          cases hy : bt y c with
          | true => rfl
          | false => exact (hno ⟨c, hc', hx, hy⟩).elim
        | false =>
          cases hy : bt y c with
          | true => rw [h1 c hc' hy] at hx; cases hx
          | false => rfl
      obtain ⟨c, c1, c2, c3⟩ := this
      have c4 : c < 10 := (h2 c c1 c2).elim (fun q => by rw [q] at c3; cases c3) fun q => q
      exact cb_more c4 c3 c2 fun a ha h => h1 a (by omega) h
    rcases hne with q | q
    · have h1 : cb (M 23 b) < cb (M4 23 b) := by
        rw [e23]
        exact key _ _ q (fun c _ h => tb c h) (fun c hc' h => Or.inr (by have := wl c hc' h; omega))
      have : sm (fun a => cb (M 23 a)) 10 < sm (fun a => cb (M4 23 a)) 10 := sm_more (j := b) h1 10 (by omega) fun a _ => cb_mono fun c _ h => hle.t a c h
      unfold mu; omega
    · have h1 : cb (M 0 27) < cb (M4 0 27) := by
        rw [e27]
        refine key _ _ q (fun c _ h => by rw [bt_or, h]; rfl) (fun c hc' h => ?_)
        rw [bt_or] at h
        rcases Bool.or_eq_true_iff.mp h with y | y
        · exact Or.inl y
        · exact Or.inr (by have := wl c hc' y; omega)
      unfold mu; omega
end
section
def Fx (M : Sto) (B : Nat) (σ : Site) : Prop := σ.ok M → σ.ub M B (M 24 (tn (σ.nm M))) (M 25 (tn (σ.nm M)))
def PS (M0 : Sto) (B : Nat) (F : Prop) (v : Int32) (M : Sto) : Prop := KIq M B ∧ KC M0 M ∧ ((v = 0 ∧ M = M0 ∧ F) ∨ (v = 1 ∧ mu M0 < mu M))
def FB (M : Sto) (B b : Nat) : Prop := (∀ w, w < 6 → Fx M B (Site.phi b w)) ∧ (∀ i, i < lenN M b → Fx M B (Site.ins b i)) ∧ (∀ c, c < 32 → bt (wy M b) c = true → bt (M 23 b) c = true)
theorem FB.ph {M : Sto} {B b : Nat} (h : FB M B b) : ∀ w, w < 6 → Fx M B (Site.phi b w) := h.1
theorem FB.ins {M : Sto} {B b : Nat} (h : FB M B b) : ∀ i, i < lenN M b → Fx M B (Site.ins b i) := h.2.1
theorem FB.w {M : Sto} {B b : Nat} (h : FB M B b) : ∀ c, c < 32 → bt (wy M b) c = true → bt (M 23 b) c = true := h.2.2
theorem PS.step {M0 M : Sto} {B : Nat} {F F' : Prop} {v : Int32} {σ : Site} {a : Int32 × Sto} (h : PS M0 B F v M) (hs : SP M B σ a) (hF : F → Fx M0 B σ → F') (w : Int32) (hw : (a.1 = 0 → w = v) ∧ (a.1 ≠ 0 → w = 1)) : PS M0 B F' w a.2 := by
  rcases hs with ⟨a0, a1, a2⟩ | ⟨a0, a1, a2, a3⟩
  · rw [a1, hw.1 a0]
    rcases h with ⟨h1, h2, ⟨h3, h4, h5⟩ | h3⟩
    · refine ⟨h1, h2, Or.inl ⟨h3, h4, hF h5 fun _ => ?_⟩⟩
      rw [← h4]; exact a2
    · exact ⟨h1, h2, Or.inr h3⟩
  · have hw1 := hw.2 (by rw [a0]; decide)
    refine ⟨a1, h.2.1.trans a2, Or.inr ⟨hw1, ?_⟩⟩
    rcases h.2.2 with ⟨_, h4, _⟩ | ⟨_, h4⟩
    · rw [← h4]; exact a3.1
    · have := a3.1; omega
theorem SP.co {M : Sto} {B b : Nat} {σ : Site} {a : Int32 × Sto} (hs : SP M B σ a) (h : bt (M 0 27) b = true) : bt (a.2 0 27) b = true := by
  rcases hs with ⟨_, a1, _⟩ | ⟨_, _, _, _, a3⟩
  · rw [a1]; exact h
  · rw [a3]; exact h
theorem PS.keep {M0 M : Sto} {B : Nat} {F F' : Prop} {v : Int32} (h : PS M0 B F v M) (hF : F → F') : PS M0 B F' v M :=
  ⟨h.1, h.2.1, h.2.2.elim (fun q => Or.inl ⟨q.1, q.2.1, hF q.2.2⟩) Or.inr⟩
theorem r_pass28 {P : Int32 × Sto → Prop} {k : Int32 → Int32 → Sto → Option (Int32 × Sto)} {M0 : Sto} {B N b : Nat} {F : Prop} (hP : PF M0 B) (hA : NA M0 B N) (hb : b < B) (hr : bt (M0 0 12) b = true)
    (hk : ∀ v M, PS M0 B (F ∧ ∀ w, w < 6 → Fx M0 B (Site.phi b w)) v M → bt (M 0 27) b = true → Ok P (k v (nJ b) M)) :
    ∀ n i v M, PS M0 B (F ∧ ∀ w, w < i → Fx M0 B (Site.phi b w)) v M → bt (M 0 27) b = true → i ≤ 6 → 6 - i < n → Ok P (l_R_pass_28 k n v (nJ b) (nJ i) M) := by
  intro n
  have hB := hP.hB
  induction n with
  | zero => intro i v M _ _ h1 h2; omega
  | succ n ih =>
    intro i v M hS hco hi hn
    have kc := hS.2.1
    have hPM := hP.kc kc
    have hAM := hA.kc hP kc
    have e13 : M 13 = M0 13 := kc.cell (by decide) (by decide)
    unfold l_R_pass_28
    refine Ok.leN (a := 6) (by omega) (by omega) (fun q => ?_) (fun q => ?_)
    · have : i = 6 := by omega
      subst this
      exact hk v M hS hco
    refine Ok.okN (by omega) (by decide) ?_
    rw [nJ_tn (i := b) (by omega)]
    unfold j_R_pass_69
    rw [nJ_succ (by omega)]
    have grow : ∀ w, w < i + 1 → w ≠ i → w < i := fun w h1 h2 => by omega
    refine Ok.has (by omega) (fun g => ?_) (fun g => ?_)
    · dsimp only
      have e6 : 6 * nJ b + nJ i = nJ (6 * b + i) := by rw [nJ_mul6 (by omega), nJ_add (by omega)]
      refine Ok.okE e6 (by omega) (by decide) ?_
      rw [e6, nJ_tn (by omega)]
      have hσ : (Site.phi b i).ok M := ⟨by omega, by rw [kc.fr.2 12 (by decide)]; exact hr, by omega, g⟩
      obtain ⟨m, m1, m2, m3, _⟩ := Site.name hPM hAM _ hσ
      have m3 : M 16 (6 * b + i) = nJ m := m3
      rw [m3]
      refine Ok.bind (r_meet hPM hAM hS.1 hb hσ m3) (fun r M1 hsp => ?_)
      dsimp only
      have hF : ∀ F0 : F ∧ ∀ w, w < i → Fx M0 B (Site.phi b w), Fx M0 B (Site.phi b i) → F ∧ ∀ w, w < i + 1 → Fx M0 B (Site.phi b w) := fun F0 h => ⟨F0.1, fun w hw => by
        by_cases z : w = i
        · rw [z]; exact h
        · exact F0.2 w (by omega)⟩
      refine Ok.ifE (fun z => ?_) (fun z => ?_)
      · exact ih (i + 1) v M1 (hS.step hsp hF v ⟨fun _ => rfl, fun y => absurd z y⟩) (hsp.co hco) (by omega) (by omega)
      · exact ih (i + 1) 1 M1 (hS.step hsp hF 1 ⟨fun y => absurd y z, fun _ => rfl⟩) (hsp.co hco) (by omega) (by omega)
    · dsimp only
      refine ih (i + 1) v M (hS.keep fun F0 => ⟨F0.1, fun w hw => ?_⟩) hco (by omega) (by omega)
      by_cases z : w = i
      · intro hok
        rw [e13] at g
        rw [z] at hok
        have := hok.2.2.2
        rw [g] at this; cases this
      · exact F0.2 w (by omega)
theorem r_pass80 {P : Int32 × Sto → Prop} {k : Int32 → Int32 → Sto → Option (Int32 × Sto)} {M0 : Sto} {B N b : Nat} {F : Prop} (hP : PF M0 B) (hA : NA M0 B N) (hb : b < B) (hr : bt (M0 0 12) b = true)
    (hk : ∀ v M, PS M0 B (F ∧ ∀ w, w < lenN M0 b → Fx M0 B (Site.ins b w)) v M → bt (M 0 27) b = true → Ok P (k v (nJ b) M)) :
    ∀ n i v M, PS M0 B (F ∧ ∀ w, w < i → Fx M0 B (Site.ins b w)) v M → bt (M 0 27) b = true → i ≤ lenN M0 b → lenN M0 b - i < n → Ok P (l_R_pass_80 k n v (nJ b) (nJ (6 * b + i)) M) := by
  intro n
  have hB := hP.hB
  have hl := hP.lenN_le (b := b) (by omega)
  induction n with
  | zero => intro i v M _ _ h1 h2; omega
  | succ n ih =>
    intro i v M hS hco hi hn
    have kc := hS.2.1
    have hPM := hP.kc kc
    have hAM := hA.kc hP kc
    have e1 : M 1 = M0 1 := kc.cell (by decide) (by decide)
    have e2 : M 2 = M0 2 := kc.cell (by decide) (by decide)
    have eln : M 1 b = nJ (lenN M0 b) := by
      rw [e1]
      obtain ⟨l, l1, l2⟩ := hP.len b (by omega)
      unfold lenN
      rw [l2, nJ_tn (by omega)]
    unfold l_R_pass_80
    refine Ok.okN (by omega) (by decide) ?_
    rw [nJ_tn (i := b) (by omega), eln, nJ_mul6 (by omega), nJ_add (by omega)]
    refine Ok.leN (by omega) (by omega) (fun q => ?_) (fun q => ?_)
    · have : i = lenN M0 b := by omega
      rw [this] at hS
      exact hk v M hS hco
    unfold j_R_pass_105
    rw [nJ_succ (by omega)]
    have hr' : bt (M 0 12) b = true := by rw [kc.fr.2 12 (by decide)]; exact hr
    have hln : lenN M b = lenN M0 b := by unfold lenN; rw [e1]
    have hF : ∀ F0 : F ∧ ∀ w, w < i → Fx M0 B (Site.ins b w), Fx M0 B (Site.ins b i) → F ∧ ∀ w, w < i + 1 → Fx M0 B (Site.ins b w) := fun F0 h => ⟨F0.1, fun w hw => by
      by_cases z : w = i
      · rw [z]; exact h
      · exact F0.2 w (by omega)⟩
    refine Ok.bind (r_knows hPM hAM hS.1 hb hr' (by omega)) (fun r M1 hsp => ?_)
    dsimp only
    rcases hsp with ⟨k7, a1, a2⟩ | ⟨k7, hsp⟩
    · dsimp only at a1 a2
      subst a2
      rw [if_pos a1]
      refine ih (i + 1) v M1 (hS.keep fun F0 => hF F0 fun hok => absurd (e2 ▸ k7) hok.2.2.2) hco (by omega) (by omega)
    · refine Ok.ifE (fun z => ?_) (fun z => ?_)
      · exact ih (i + 1) v M1 (hS.step hsp hF v ⟨fun _ => rfl, fun y => absurd z y⟩) (hsp.co hco) (by omega) (by omega)
      · exact ih (i + 1) 1 M1 (hS.step hsp hF 1 ⟨fun y => absurd y z, fun _ => rfl⟩) (hsp.co hco) (by omega) (by omega)
theorem r_pass4 {P : Int32 × Sto → Prop} {k : Int32 → Sto → Option (Int32 × Sto)} {M0 : Sto} {B N : Nat} (hP : PF M0 B) (hR : RRq M0 B) (hA : NA M0 B N) (h0 : 0 < B)
    (hk : ∀ v M, PS M0 B (∀ b, b < B → bt (M0 0 27) b = true → FB M0 B b) v M → Ok P (k v M)) :
    ∀ n b v M, PS M0 B (∀ a, a < b → bt (M0 0 27) a = true → FB M0 B a) v M → b ≤ B → B - b < n → Ok P (l_R_pass_4 k n v (nJ b) M) := by
  intro n
  have hB := hP.hB
  induction n with
  | zero => intro i v M _ h1 h2; omega
  | succ n ih =>
    intro b v M hS hb hn
    have kc := hS.2.1
    have hPM := hP.kc kc
    unfold l_R_pass_4
    rw [hPM.blk]
    refine Ok.leN (by omega) (by omega) (fun q => ?_) (fun q => ?_)
    · have : b = B := by omega
      subst this
      exact hk v M hS
    have e167 : ∀ v M, j_R_pass_167 (l_R_pass_4 k n) k v (nJ b) M = l_R_pass_4 k n v (nJ (b + 1)) M := fun v M => by
      unfold j_R_pass_167
      rw [nJ_succ (by omega)]
    refine Ok.has (by omega) (fun g => ?_) (fun g => ?_)
    · dsimp only
      have hr : bt (M0 0 12) b = true := by rw [← kc.fr.2 12 (by decide)]; exact (hS.1.rc b (by omega) g).2
      refine r_pass28 (F := ∀ a, a < b → bt (M0 0 27) a = true → FB M0 B a) hP hA q hr (fun v1 M1 hS1 hco1 => ?_) FU 0 v M (hS.keep fun F0 => ⟨F0, fun w hw => by omega⟩) g (by omega) (by unfold FU; omega)
      unfold j_R_pass_75
      rw [nJ_mul6 (by omega)]
      have hl := hP.lenN_le (b := b) (by omega)
      refine r_pass80 (F := (∀ a, a < b → bt (M0 0 27) a = true → FB M0 B a) ∧ ∀ w, w < 6 → Fx M0 B (Site.phi b w)) hP hA q hr (fun v2 M2 hS2 hc2 => ?_) FU 0 v1 M1 (hS1.keep fun F0 => ⟨F0, fun w hw => by omega⟩) hco1 (by omega) (by unfold FU; omega)
      have kc2 := hS2.2.1
      have hP2 := hP.kc kc2
      have hr2 : bt (M2 0 12) b = true := by rw [kc2.fr.2 12 (by decide)]; exact hr
      unfold j_R_pass_111
      rw [ways_eq hP2 (hA.kc hP kc2) q hr2]
      refine Ok.bindS ?_
      dsimp only
      obtain ⟨s1, s2, s3, s4⟩ := r_set hP2 (hR.kc kc2) hS2.1 h0 q hc2
      have set : ∀ w, (w = 0 → (M2 = M0 ∧ ((∀ a, a < b → bt (M0 0 27) a = true → FB M0 B a) ∧ ∀ w, w < 6 → Fx M0 B (Site.phi b w)) ∧ ∀ w, w < lenN M0 b → Fx M0 B (Site.ins b w)) ∧ wy M2 b = M2 23 b ∧ M2 0 27 ||| wy M2 b = M2 0 27) → (w ≠ 0 → w = 1 ∧ (mu M0 < mu M2 ∨ M2 = M0 ∧ (wy M2 b ≠ M2 23 b ∨ M2 0 27 ||| wy M2 b ≠ M2 0 27))) → Ok P (j_R_pass_149 (l_R_pass_4 k n) k w (nJ b) (wy M2 b) M2) := by
        intro w hw0 hw1
        unfold j_R_pass_149
        refine Ok.okN (by omega) (by decide) ?_
        rw [nJ_tn (by omega)]
        refine Ok.wr (fun M3 q3 => ?_)
        have e27 : M3 0 27 = M2 0 27 := by rw [q3, up2_ne _ _ _ (by decide)]
        rw [e27]
        refine Ok.wr (fun M4 q4 => ?_)
        rw [q3] at q4
        rw [← q4] at s1 s2 s3 s4
        rw [e167]
        by_cases z : w = 0
        · obtain ⟨⟨y1, y2, y3⟩, y4, y5⟩ := hw0 z
          have hsame : M4 = M2 := by rw [q4, y5, y4, up2_same]; exact up2_same M2 0 27
          refine ih (b + 1) w M4 ⟨s1, kc2.trans s2, Or.inl ⟨z, hsame.trans y1, fun a ha hca => ?_⟩⟩ (by omega) (by omega)
          by_cases x : a = b
          · rw [x]
            refine ⟨y2.2, y3, fun c hc h => ?_⟩
            rw [← y1] at h ⊢
            rw [← y4]; exact h
          · exact y2.1 a (by omega) hca
        · obtain ⟨y1, y2⟩ := hw1 z
          refine ih (b + 1) w M4 ⟨s1, kc2.trans s2, Or.inr ⟨y1, ?_⟩⟩ (by omega) (by omega)
          rcases y2 with y | ⟨y, y3⟩
          · omega
          · have := s4 y3
            rw [y] at this
            exact this
      unfold j_R_pass_144
      refine Ok.ifE (fun z => ?_) (fun z => ?_)
      · have hv : M2 = M0 ∧ ((∀ a, a < b → bt (M0 0 27) a = true → FB M0 B a) ∧ ∀ w, w < 6 → Fx M0 B (Site.phi b w)) ∧ ∀ w, w < lenN M0 b → Fx M0 B (Site.ins b w) := by
          rcases hS2.2.2 with ⟨_, y, y2⟩ | ⟨y, _⟩
          · exact ⟨y, y2⟩
          · rw [y] at z; exact absurd z (by decide)
        refine Ok.okN (by omega) (by decide) ?_
        rw [nJ_tn (by omega)]
        refine Ok.ifE (fun z2 => ?_) (fun z2 => ?_)
        · refine Ok.ifE (fun z3 => ?_) (fun z3 => ?_)
          · exact set 0 (fun _ => ⟨hv, z2, z3⟩) (fun y => absurd rfl y)
          · exact set 1 (fun y => absurd y (by decide)) (fun _ => ⟨rfl, Or.inr ⟨hv.1, Or.inr z3⟩⟩)
        · exact set 1 (fun y => absurd y (by decide)) (fun _ => ⟨rfl, Or.inr ⟨hv.1, Or.inl z2⟩⟩)
      · have hv : mu M0 < mu M2 := by
          rcases hS2.2.2 with ⟨y, _⟩ | ⟨_, y⟩
          · exact absurd y z
          · exact y
        exact set 1 (fun y => absurd y (by decide)) (fun _ => ⟨rfl, Or.inl hv⟩)
    · dsimp only
      rw [e167]
      refine ih (b + 1) v M ?_ (by omega) (by omega)
      rcases hS with ⟨h1, h2, ⟨h3, h4, h5⟩ | h3⟩
      · refine ⟨h1, h2, Or.inl ⟨h3, h4, fun a ha hca => ?_⟩⟩
        by_cases z : a = b
        · rw [z, ← h4, g] at hca; cases hca
        · exact h5 a (by omega) hca
      · exact ⟨h1, h2, Or.inr h3⟩
def FixA (M : Sto) (B : Nat) : Prop := ∀ b, b < B → bt (M 0 27) b = true → FB M B b
theorem r_pass {M : Sto} {B N : Nat} (hP : PF M B) (hR : RRq M B) (hA : NA M B N) (h0 : 0 < B) (hI : KIq M B) : Ok (fun a => (a.1 = 0 ∧ a.2 = M ∧ FixA M B) ∨ (a.1 = 1 ∧ KIq a.2 B ∧ KC M a.2 ∧ mu M < mu a.2)) (m_R_pass M) := by
  unfold m_R_pass
  refine r_pass4 hP hR hA h0 (fun v M1 hS => ?_) FU 0 0 M ⟨hI, KC.rfl, Or.inl ⟨rfl, rfl, fun a ha => by omega⟩⟩ (by omega) (by have := hP.hB; unfold FU; omega)
  unfold j_R_pass_173
  rcases hS with ⟨h1, h2, ⟨h3, h4, h5⟩ | ⟨h3, h4⟩⟩
  · exact Ok.bzt (Or.inl h3) ⟨(v, M1), rfl, Or.inl ⟨h3, h4, h5⟩⟩
  · exact Ok.bzt (Or.inr h3) ⟨(v, M1), rfl, Or.inr ⟨h3, h1, h2, h4⟩⟩
theorem r_fk74 {P : Int32 × Sto → Prop} {k : Sto → Option (Int32 × Sto)} {G : Sto} {B N : Nat} (hP : PF G B) (hR : RRq G B) (hA : NA G B N) (h0 : 0 < B)
    (hk : ∀ M, KC G M → KIq M B → FixA M B → Ok P (k M)) :
    ∀ (n : Nat) v M, KC G M → KIq M B → (v = 0 ∧ FixA M B ∨ v = 1) → 0 < n → (v = 1 → 371 - mu M < (n : Int)) → Ok P (l_R_findKnown_74 k n v M) := by
  intro n
  induction n with
  | zero => intro v M _ _ _ h1 h2; omega
  | succ n ih =>
    intro v M kc hI hv _ hn
    unfold l_R_findKnown_74
    refine Ok.ifE (fun z => ?_) (fun z => ?_)
    · rcases hv with ⟨_, y⟩ | y
      · exact hk M kc hI y
      · rw [y] at z; exact absurd z (by decide)
    · have hv1 : v = 1 := hv.elim (fun y => absurd y.1 z) fun y => y
      have h1 := hn hv1
      have h2 := mu_le hI
      refine Ok.bind (r_pass (hP.kc kc) (hR.kc kc) (hA.kc hP kc) h0 hI) (fun r M1 hp => ?_)
      dsimp only at hp ⊢
      rcases hp with ⟨a1, a2, a3⟩ | ⟨a1, a2, a3, a4⟩
      · subst a2
        exact ih r M1 kc hI (Or.inl ⟨a1, a3⟩) (by omega) (fun y => by rw [a1] at y; exact absurd y (by decide))
      · exact ih r M1 (kc.trans a3) a2 (Or.inr a1) (by omega) (fun _ => by omega)
theorem r_fk28 {P : Int32 × Sto → Prop} {k : Sto → Option (Int32 × Sto)} {G : Sto}
    (hk : ∀ M, Fr [24, 25, 26] [] G M → (∀ n, n < 130 → M 24 n = (if n < 6 then 1 else 0) ∧ M 25 n = 0 ∧ M 26 n = 0) → (∀ n, 130 ≤ n → M 24 n = G 24 n ∧ M 25 n = G 25 n) → Ok P (k M)) :
    ∀ n i M, Fr [24, 25, 26] [] G M → (∀ n, n < i → M 24 n = (if n < 6 then 1 else 0) ∧ M 25 n = 0 ∧ M 26 n = 0) → (∀ n, 130 ≤ n → M 24 n = G 24 n ∧ M 25 n = G 25 n) → i ≤ 130 → 130 - i < n → Ok P (l_R_findKnown_28 k n (nJ i) M) := by
  intro n
  induction n with
  | zero => intro i M _ _ _ h1 h2; omega
  | succ n ih =>
    intro i M hf hv hw hi hn
    unfold l_R_findKnown_28
    refine Ok.leN (a := 130) (by omega) (by omega) (fun q => ?_) (fun q => ?_)
    · have : i = 130 := by omega
      subst this
      exact hk M hf hv hw
    have step : ∀ s, s = (if i < 6 then 1 else 0) → Ok P (j_R_findKnown_51 (l_R_findKnown_28 k n) k s (nJ i) (nJ i) M) := by
      intro s hs
      unfold j_R_findKnown_51
      refine Ok.okN (by omega) (by decide) ?_
      rw [nJ_tn (by omega), nJ_succ (by omega)]
      refine Ok.wr (fun M1 q1 => ?_)
      refine Ok.okN (by omega) (by decide) ?_
      refine Ok.wr (fun M2 q2 => ?_)
      refine Ok.okN (by omega) (by decide) ?_
      refine Ok.bzt (Or.inl rfl) ?_
      refine Ok.wr (fun M3 q3 => ?_)
      have e24 : ∀ m, M3 24 m = if m = i then s else M 24 m := fun m => by
        rw [q3, up2_ne _ _ _ (by decide), q2, up2_ne _ _ _ (by decide), q1, up2_at]
        by_cases z : m = i
        · rw [if_pos ⟨rfl, z⟩, if_pos z]
        · rw [if_neg (fun y => z y.2), if_neg z]
      have e25 : ∀ m, M3 25 m = if m = i then 0 else M 25 m := fun m => by
        rw [q3, up2_ne _ _ _ (by decide), q2, up2_at]
        by_cases z : m = i
        · rw [if_pos ⟨rfl, z⟩, if_pos z]
        · rw [if_neg (fun y => z y.2), if_neg z, q1, up2_ne _ _ _ (by decide)]
      have e26 : ∀ m, M3 26 m = if m = i then 0 else M 26 m := fun m => by
        rw [q3, up2_at]
        by_cases z : m = i
        · rw [if_pos ⟨rfl, z⟩, if_pos z]
        · rw [if_neg (fun y => z y.2), if_neg z, q2, up2_ne _ _ _ (by decide), q1, up2_ne _ _ _ (by decide)]
      refine ih (i + 1) M3 (by rw [q3, q2, q1]; exact ((hf.up (by decide) (by decide)).up (by decide) (by decide)).up (by decide) (by decide)) (fun m hm => ?_) (fun m hm => by rw [e24, e25, if_neg (by omega), if_neg (by omega)]; exact hw m hm) (by omega) (by omega)
      rw [e24, e25, e26]
      by_cases z : m = i
      · rw [if_pos z, if_pos z, if_pos z, hs, z]; exact ⟨rfl, rfl, rfl⟩
      · rw [if_neg z, if_neg z, if_neg z]; exact hv m (by omega)
    refine Ok.leN (a := 6) (by omega) (by omega) (fun q2 => step 0 (by rw [if_neg (by omega)])) (fun q2 => step 1 (by rw [if_pos (by omega)]))
theorem r_fk7 {P : Int32 × Sto → Prop} {k : Sto → Option (Int32 × Sto)} {G : Sto}
    (hk : ∀ M, Fr [23] [] G M → (∀ n, n < 10 → M 23 n = 0) → Ok P (k M)) :
    ∀ n i M, Fr [23] [] G M → (∀ n, n < i → M 23 n = 0) → i ≤ 10 → 10 - i < n → Ok P (l_R_findKnown_7 k n (nJ i) M) := by
  intro n
  induction n with
  | zero => intro i M _ _ h1 h2; omega
  | succ n ih =>
    intro i M hf hv hi hn
    unfold l_R_findKnown_7
    refine Ok.leN (a := 10) (by omega) (by omega) (fun q => ?_) (fun q => ?_)
    · have : i = 10 := by omega
      subst this
      exact hk M hf hv
    refine Ok.okN (by omega) (by decide) ?_
    rw [nJ_tn (by omega), nJ_succ (by omega)]
    refine Ok.wr (fun M1 q1 => ?_)
    refine ih (i + 1) M1 (by rw [q1]; exact hf.up (by decide) (by decide)) (fun a ha => ?_) (by omega) (by omega)
    rw [q1, up2_at]
    by_cases z : a = i
    · rw [if_pos ⟨rfl, z⟩]
    · rw [if_neg (fun y => z y.2)]; exact hv a (by omega)
theorem r_findKnown {G : Sto} {B N : Nat} (hP : PF G B) (hR : RRq G B) (hA : NA G B N) (h0 : 0 < B) (ho : ∀ n, 130 ≤ n → G 24 n = 0 ∧ G 25 n = 0) :
    Ok (fun a => Fr [23, 24, 25, 26] [27] G a.2 ∧ KIq a.2 B ∧ FixA a.2 B ∧ ∀ n, n < 130 → a.2 26 n = 0) (m_R_findKnown G) := by
  unfold m_R_findKnown
  have hB := hP.hB
  refine Ok.wr (fun M1 q1 => ?_)
  have f1 : Fr [23, 24, 25, 26] [27] G M1 := by rw [q1]; exact Fr.rfl.up0 (by decide)
  have z1 : M1 0 27 = 1 := by rw [q1, up2_at, if_pos ⟨rfl, rfl⟩]
  refine r_fk7 (fun M2 f2 g2 => ?_) FU 0 M1 Fr.rfl (fun n hn => by omega) (by omega) (by unfold FU; omega)
  unfold j_R_findKnown_26
  refine r_fk28 (fun M3 f3 g3 g4 => ?_) FU 0 M2 Fr.rfl (fun n hn => by omega) (fun n _ => ⟨rfl, rfl⟩) (by omega) (by unfold FU; omega)
  have f13 : Fr [23, 24, 25, 26] [27] G M3 := (f1.trans (f2.mono (by decide) (by decide))).trans (f3.mono (by decide) (by decide))
  have hP3 : PF M3 B := hP.fr (f13.mono (by decide) (by decide))
  have hR3 : RRq M3 B := hR.fr (f13.mono (by decide) (by decide))
  have hA3 : NA M3 B N := by
    have cell : ∀ k, k ≠ 0 → k ∉ [23, 24, 25, 26] → M3 k = G k := f13.1
    refine ⟨by rw [f13.2 17 (by decide)]; exact hA.num, hA.lo, hA.hi, fun c hc hb => ?_, by unfold lenN; rw [cell 15 (by decide) (by decide), cell 1 (by decide) (by decide), f13.2 12 (by decide)]; exact hA.sit⟩
    rw [f13.2 12 (by decide)] at hb
    obtain ⟨c1, c2⟩ := hA.nb c hc hb
    refine ⟨c1, c2.fr (Nat.le_refl _) (cell _ (by decide) (by decide)) (cell _ (by decide) (by decide)) (cell _ (by decide) (by decide)) (cell _ (by decide) (by decide)) (cell _ (by decide) (by decide)) (fun n _ => by rw [cell 15 (by decide) (by decide)]) (fun q hq w _ => ?_) (by rw [cell 20 (by decide) (by decide)]) (hP.lenN_le hc) (fun p w _ _ _ _ _ => by rw [cell 21 (by decide) (by decide)])⟩
    rw [cell q (by omega) (by rcases hq with z | z | z | z | z <;> rw [z] <;> decide)]
  have z27 : M3 0 27 = 1 := by rw [f3.2 27 (by decide), f2.2 27 (by decide)]; exact z1
  have t23 : ∀ b, b < 10 → M3 23 b = 0 := fun b hb => by rw [f3.1 23 (by decide) (by decide)]; exact g2 b hb
  have e24 : M2 24 = G 24 := by rw [f2.1 24 (by decide) (by decide), q1, up2_ne _ _ _ (by decide)]
  have e25 : M2 25 = G 25 := by rw [f2.1 25 (by decide) (by decide), q1, up2_ne _ _ _ (by decide)]
  have out : ∀ n, 130 ≤ n → M3 24 n = 0 ∧ M3 25 n = 0 := fun n hn => by
    rw [(g4 n hn).1, (g4 n hn).2, e24, e25]; exact ho n hn
  have i24 : ∀ n, M3 24 n = if n < 6 then 1 else 0 := fun n => by
    by_cases z : n < 130
    · exact (g3 n z).1
    · rw [if_neg (by omega)]; exact (out n (by omega)).1
  have i25 : ∀ n, M3 25 n = 0 := fun n => by
    by_cases z : n < 130
    · exact (g3 n z).2.1
    · exact (out n (by omega)).2
  have hI : KIq M3 B := by
    refine ⟨fun n => ?_, fun n _ => i25 n, fun n hn => by rw [i24, if_pos hn]; decide, fun σ hσ s x _ => ?_, fun b hb c _ h => ?_, by rw [z27]; decide, fun c hc h => ?_, fun b hb c _ h => ?_, fun c hc h => ?_, out⟩
    · rw [i24]
      by_cases z : n < 6
      · rw [if_pos z]; exact Or.inr (Or.inl rfl)
      · rw [if_neg z]; exact Or.inl rfl
    · obtain ⟨m, m1, m2, m3, _⟩ := Site.name hP3 hA3 σ hσ
      have := hA.hi
      rw [m3, tn_nJ (by omega), i24, if_neg (by omega)]
      exact Or.inl rfl
    · rw [t23 b (by omega), bt_zero] at h; cases h
    · rw [z27, bt_one] at h
      have := of_decide_eq_true h
      subst this
      exact ⟨by omega, (hR3.rch 0 (by omega)).mpr ⟨by omega, 0, ⟨rfl, fun z => z⟩⟩⟩
    · rw [t23 b (by omega), bt_zero] at h; cases h
    · rw [z27, bt_one] at h
      have := of_decide_eq_true h
      subst this
      exact ⟨0, ⟨rfl, fun z => z⟩⟩
  unfold j_R_findKnown_72
  refine r_fk74 hP3 hR3 hA3 h0 (fun M4 kc hI4 hF4 => ⟨(0, M4), rfl, f13.trans (kc.fr.mono (by decide) (by decide)), hI4, hF4, fun n hn => by show M4 26 n = 0; rw [kc.cell (k := 26) (by decide) (by decide)]; exact (g3 n hn).2.2⟩) FU 1 M3 KC.rfl hI (Or.inr rfl) (by unfold FU; omega) (fun _ => ?_)
  have := mu_ge hI
  have := fu_le
  omega
theorem vle_nz {s x s' x' : Int32} (h : vle s x s' x') (hs : s ≠ 0) : s' ≠ 0 := by
  rcases h with q | q | ⟨_, q, _⟩
  · exact absurd q hs
  · rw [q]; decide
  · rw [q]; decide
theorem lev_co {M : Sto} {B : Nat} (hI : KIq M B) : ∀ {r c : Nat}, c < 32 → lev (TE M B) (fun _ => False) r c → bt (M 0 27) c = true
  | 0, _, _, h => h.1 ▸ hI.z
  | _ + 1, c, hc, h => h.elim (fun h => lev_co hI hc h) fun ⟨p, _, _, p3, _⟩ => (hI.tc p p3.1 c hc p3.2).2
theorem in_nz {M : Sto} {B N c : Nat} (hP : PF M B) (hA : NA M B N) (hI : KIq M B) (hF : FixA M B) (hc : c < 10) (hco : bt (M 0 27) c = true) (hs : ∀ w n, w < 6 → n < 1000 → InSw M c w n → M 24 n ≠ 0) :
    ∀ i, i ≤ lenN M c → ∀ n, n < 1000 → Av M c i n → M 24 n ≠ 0 := by
  have hhi := hA.hi
  have hr := (hI.rc c (by omega) hco).2
  obtain ⟨hcB, hN⟩ := hA.nb c hc hr
  have hl := hP.lenN_le hc
  intro i
  induction i with
  | zero =>
    intro _ n hn h
    rcases h with ⟨w, w1, w2⟩ | ⟨j, j1, _⟩
    · exact hs w n w1 hn w2
    · omega
  | succ i ih =>
    intro hi n hn h
    have ih := ih (by omega)
    rcases h with h | ⟨j, j1, j2, j3⟩
    · exact ih n hn (Or.inl h)
    · by_cases z : j = i
      · subst z
        have hin := hN.ins j (by omega)
        have hok : (Site.ins c j).ok M := ⟨hc, hr, by omega, j2⟩
        have hu : vle (knS M (6 * c + j)) (knX M (6 * c + j)) (M 24 (tn (M 17 (6 * c + j)))) (M 25 (tn (M 17 (6 * c + j)))) := (hF c hcB hco).ins j (by omega) hok
        rw [j3, tn_nJ (by omega)] at hu
        refine vle_nz hu ?_
        unfold knS
        by_cases z0 : M 2 (6 * c + j) = 0
        · rw [if_pos z0]; decide
        rw [if_neg z0]
        by_cases z6 : M 2 (6 * c + j) = 6
        · rw [if_pos z6]; decide
        rw [if_neg z6]
        obtain ⟨u, u1, u2, u3⟩ := hin.ux z0 z6
        have hu0 := ih u (by omega) u3
        rw [u2, tn_nJ (by omega)]
        by_cases z1 : M 2 (6 * c + j) = 1
        · rw [if_pos z1]; exact hu0
        rw [if_neg z1]
        obtain ⟨w, w1, w2, w3⟩ := hin.uy z0 z1 z6 j2
        have hw0 := ih w (by omega) w3
        rw [w2, tn_nJ (by omega)]
        by_cases y : M 24 u = 2 ∨ M 24 w = 2
        · rw [if_pos y]; decide
        · rw [if_neg y]
          have y1 : M 24 u = 1 ∧ M 24 w = 1 := by
            refine ⟨?_, ?_⟩
            · rcases hI.st u with q | q | q
              · exact absurd q hu0
              · exact q
              · exact absurd (Or.inl q) y
            · rcases hI.st w with q | q | q
              · exact absurd q hw0
              · exact q
              · exact absurd (Or.inr q) y
          rw [if_pos y1]; decide
      · exact ih n hn (Or.inr ⟨j, by omega, j2, j3⟩)
theorem come_nz {M : Sto} {B N : Nat} (hP : PF M B) (hR : RRq M B) (hD : DM M B) (hA : NA M B N) (hI : KIq M B) (hF : FixA M B) (h13 : M 13 0 = 0) :
    ∀ r r' c, r' ≤ r → c < 10 → lev (TE M B) (fun _ => False) r' c → ∀ n, n < 1000 → Av M c (lenN M c) n → M 24 n ≠ 0 := by
  have hB := hP.hB
  have hhi := hA.hi
  have te : ∀ b c, c < 32 → TE M B b c → Ed M B b c := fun b c hc h => ⟨h.1, wy_lead (hI.w b h.1 c hc h.2)⟩
  have tel : ∀ (av : Nat → Prop) r c, c < 32 → lev (TE M B) av r c → lev (Ed M B) av r c := by
    intro av r
    induction r with
    | zero => intro c _ h; exact h
    | succ r ih => intro c hc h; exact h.elim (fun h => Or.inl (ih c hc h)) fun ⟨p, p1, p2, p3, p4⟩ => Or.inr ⟨p, p1, ih p (by omega) p2, te p c hc p3, p4⟩
  intro r
  induction r with
  | zero =>
    intro r' c hr hc hl n hn hav
    rw [show r' = 0 by omega] at hl
    have hco := lev_co hI (by omega) hl
    have c0 := hl.1
    subst c0
    refine in_nz hP hA hI hF hc hco (fun w n w1 hn h => ?_) _ (Nat.le_refl _) n hn hav
    rcases h with ⟨g, _⟩ | ⟨_, ⟨_, g⟩ | ⟨g, _⟩⟩
    · rw [h13, bt_zero] at g; cases g
    · rw [g]; exact hI.six w w1
    · exact absurd rfl g
  | succ r ih =>
    intro r' c hr hc hl n hn hav
    have hco := lev_co hI (by omega) hl
    have hrc := (hI.rc c (by omega) hco).2
    obtain ⟨hcB, hN⟩ := hA.nb c hc hrc
    by_cases c0 : c = 0
    · subst c0
      refine in_nz hP hA hI hF hc hco (fun w n w1 hn h => ?_) _ (Nat.le_refl _) n hn hav
      rcases h with ⟨g, _⟩ | ⟨_, ⟨_, g⟩ | ⟨g, _⟩⟩
      · rw [h13, bt_zero] at g; cases g
      · rw [g]; exact hI.six w w1
      · exact absurd rfl g
    refine in_nz hP hA hI hF hc hco (fun w n w1 hn h => ?_) _ (Nat.le_refl _) n hn hav
    rcases h with ⟨g, g2⟩ | ⟨_, ⟨g, _⟩ | ⟨_, p, p1, p2, p3, p4⟩⟩
    · -- a phi
      obtain ⟨s, rfl⟩ : ∃ s, r' = s + 1 := by
        cases r' with
        | zero => exact absurd hl.1 c0
        | succ s => exact ⟨s, rfl⟩
      obtain ⟨p, p1, p2, p3, _⟩ := lev_pre c0 hl
      have hcp := lev_co hI (by omega) p2
      have hrp := (hI.rc p (by omega) hcp).2
      obtain ⟨m, m1, m2, m3⟩ := (hA.nb p p1 hrp).2.cur w w1
      have hm := ih s p (by omega) p1 p2 m (by omega) m3
      have hok : (Site.phi c w).ok M := ⟨hc, hrc, w1, g⟩
      have hu := (hF c hcB hco).ph w w1 hok p p3.1 ⟨(hR.bef c p hcB (by omega)).mpr ⟨p3.1, hrp, te p c (by omega) p3⟩, hcp, p3.2⟩
      have hu : vle (M 24 (tn (M 21 (6 * p + w)))) (M 25 (tn (M 21 (6 * p + w)))) (M 24 (tn (M 16 (6 * c + w)))) (M 25 (tn (M 16 (6 * c + w)))) := hu
      rw [m2, g2, tn_nJ (by omega), tn_nJ (by omega)] at hu
      exact vle_nz hu hm
    · exact absurd g c0
    · -- the name of the block above
      obtain ⟨q, q1, q2, q3, q4⟩ := hD.par c hcB c0 hrc
      have : p = q := nJ_inj (by omega) (by omega) (p3.symm.trans q3)
      subst this
      rcases lev_thru (Ne.symm q2) hl with y | ⟨s, s1, s2⟩
      · exact absurd (tel _ _ c (by omega) y) (q4 r')
      · have hcp := lev_co hI (by omega) s2
        have hrp := (hI.rc p (by omega) hcp).2
        obtain ⟨m, m1, m2, m3⟩ := (hA.nb p p1 hrp).2.cur w w1
        have : n = m := nJ_inj (by omega) (by omega) (p4.symm.trans m2)
        subst this
        exact ih s p (by omega) p1 s2 n hn m3
end
section
def NP (M : Sto) (a : Int32 × Sto) : Prop := (a.1 = 0 ∧ a.2 = M) ∨ (a.1 = 1 ∧ Fr [26] [] M a.2 ∧ cnt (M 26) 130 < cnt (a.2 26) 130)
def nmOk (x : Int32) : Prop := x = -1 ∨ ∃ n, n < 130 ∧ x = nJ n
theorem r_needs {M : Sto} {x : Int32} (hx : nmOk x) : Ok (NP M) (m_R_needs x M) := by
  have n0 : (0 : Int32).toInt = 0 := rfl
  unfold m_R_needs
  rcases hx with h | ⟨n, n1, n2⟩
  · rw [h]
    unfold j_R_needs_17 j_R_needs_18 j_R_needs_30
    refine Ok.lt (fun _ => ?_) (fun q => absurd q (by decide))
    rw [if_pos rfl]
    exact Ok.bzt (Or.inl rfl) ⟨(0, M), rfl, Or.inl ⟨rfl, rfl⟩⟩
  · rw [n2]
    have e := nJ_int (i := n) (by omega)
    refine Ok.lt (fun q => by omega) (fun _ => ?_)
    refine Ok.okN n1 (by decide) ?_
    rw [nJ_tn (by omega)]
    refine Ok.ifE (fun z => ?_) (fun z => ?_)
    · unfold j_R_needs_18 j_R_needs_30
      rw [if_neg (by decide)]
      refine Ok.okN n1 (by decide) ?_
      refine Ok.bzt (Or.inr rfl) ?_
      rw [nJ_tn (by omega)]
      refine Ok.wr (fun M1 q1 => ?_)
      refine Ok.bzt (Or.inr rfl) ⟨(1, M1), rfl, Or.inr ⟨rfl, ?_, ?_⟩⟩
      · rw [q1]; exact Fr.rfl.up (by decide) (by decide)
      · show cnt (M 26) 130 < cnt (M1 26) 130
        rw [q1, up2_self, cnt_upd _ z 130 n1]; omega
    · unfold j_R_needs_17 j_R_needs_18 j_R_needs_30
      rw [if_pos rfl]
      exact Ok.bzt (Or.inl rfl) ⟨(0, M), rfl, Or.inl ⟨rfl, rfl⟩⟩
theorem NP.fr {G M : Sto} {a : Int32 × Sto} (h : NP M a) (f : Fr [26] [] G M) : Fr [26] [] G a.2 := by
  rcases h with ⟨_, h⟩ | ⟨_, h, _⟩
  · rw [h]; exact f
  · exact f.trans h
def NX (G : Sto) (B N : Nat) : Prop := (PF G B) ∧ (NA G B N) ∧ (KIq G B)
theorem NX.pf {G : Sto} {B N : Nat} (h : NX G B N) : PF G B := h.1
theorem NX.na {G : Sto} {B N : Nat} (h : NX G B N) : NA G B N := h.2.1
theorem NX.ki {G : Sto} {B N : Nat} (h : NX G B N) : KIq G B := h.2.2
theorem NX.co {G : Sto} {B N b : Nat} (h : NX G B N) (hb : b < 32) (hc : bt (G 0 27) b = true) : b < B ∧ NB G N b := by
  have := h.ki.rc b hb hc
  exact h.na.nb b this.1 this.2
theorem NX.ux {G : Sto} {B N b i : Nat} (h : NX G B N) (hn : NB G N b) (hi : i < lenN G b) : nmOk (G 18 (6 * b + i)) := by
  have hhi := h.na.hi
  by_cases z : G 2 (6 * b + i) = 0 ∨ G 2 (6 * b + i) = 6
  · exact Or.inl ((hn.ins i hi).un z)
  · obtain ⟨n, n1, n2, _⟩ := (hn.ins i hi).ux (fun q => z (Or.inl q)) (fun q => z (Or.inr q))
    exact Or.inr ⟨n, by omega, n2⟩
theorem NX.uy {G : Sto} {B N b i : Nat} (h : NX G B N) (hn : NB G N b) (hi : i < lenN G b) : nmOk (G 19 (6 * b + i)) := by
  have hhi := h.na.hi
  by_cases z : G 2 (6 * b + i) = 0 ∨ G 2 (6 * b + i) = 1 ∨ G 2 (6 * b + i) = 6 ∨ G 2 (6 * b + i) = 7
  · exact Or.inl ((hn.ins i hi).uz z)
  · obtain ⟨n, n1, n2, _⟩ := (hn.ins i hi).uy (fun q => z (Or.inl q)) (fun q => z (Or.inr (Or.inl q))) (fun q => z (Or.inr (Or.inr (Or.inl q)))) (fun q => z (Or.inr (Or.inr (Or.inr q))))
    exact Or.inr ⟨n, by omega, n2⟩
theorem NX.md {G : Sto} {B N b i : Nat} (h : NX G B N) (hn : NB G N b) (hi : i < lenN G b) : nmOk (G 17 (6 * b + i)) := by
  have hhi := h.na.hi
  by_cases z : G 2 (6 * b + i) = 7
  · exact Or.inl ((hn.ins i hi).mt z)
  · obtain ⟨n, _, n1, n2, _⟩ := (hn.ins i hi).md z
    exact Or.inr ⟨n, by omega, n2⟩
theorem r_fn29 {P : Int32 × Sto → Prop} {k : Int32 → Sto → Option (Int32 × Sto)} {G : Sto} {B N b : Nat} (h : NX G B N) (hb : b < B) (hn : NB G N b)
    (hk : ∀ M, Fr [26] [] G M → Ok P (k (nJ b) M)) :
    ∀ n i M, Fr [26] [] G M → i ≤ lenN G b → lenN G b - i < n → Ok P (l_R_findNeeded_29 k n (nJ b) (nJ (6 * b + i)) M) := by
  intro n
  have hB := h.pf.hB
  have hl := h.pf.lenN_le (b := b) (by omega)
  induction n with
  | zero => intro i M _ h1 h2; omega
  | succ n ih =>
    intro i M hf hi hfu
    have e1 : M 1 b = nJ (lenN G b) := by
      rw [hf.1 1 (by decide) (by decide)]
      obtain ⟨l, l1, l2⟩ := h.pf.len b (by omega)
      unfold lenN
      rw [l2, nJ_tn (by omega)]
    unfold l_R_findNeeded_29
    refine Ok.okN (by omega) (by decide) ?_
    rw [nJ_tn (i := b) (by omega), e1, nJ_mul6 (by omega), nJ_add (by omega)]
    refine Ok.leN (by omega) (by omega) (fun q => hk M hf) (fun q => ?_)
    refine Ok.okN (by omega) (by decide) ?_
    rw [nJ_tn (i := 6 * b + i) (by omega)]
    have next : ∀ M1, Fr [26] [] G M1 → Ok P (j_R_findNeeded_66 (l_R_findNeeded_29 k n) k (nJ b) (nJ (6 * b + i)) M1) := by
      intro M1 f1
      have go : ∀ M2, Fr [26] [] G M2 → Ok P (j_R_findNeeded_88 (l_R_findNeeded_29 k n) k (nJ b) (nJ (6 * b + i)) M2) := fun M2 f2 => by
        unfold j_R_findNeeded_88
        rw [nJ_succ (by omega)]
        exact ih (i + 1) M2 f2 (by omega) (by omega)
      unfold j_R_findNeeded_66
      refine Ok.okN (by omega) (by decide) ?_
      rw [nJ_tn (i := 6 * b + i) (by omega)]
      refine Ok.ifE (fun z => ?_) (fun z => go M1 f1)
      refine Ok.okN (by omega) (by decide) ?_
      rw [f1.1 17 (by decide) (by decide)]
      exact Ok.bind (r_needs (h.md hn (by omega))) (fun r M2 hp => go M2 (hp.fr f1))
    refine Ok.ifE (fun z => ?_) (fun z => next M hf)
    refine Ok.okN (by omega) (by decide) ?_
    rw [hf.1 18 (by decide) (by decide)]
    exact Ok.bind (r_needs (h.ux hn (by omega))) (fun r M2 hp => next M2 (hp.fr hf))
theorem r_fn2 {P : Int32 × Sto → Prop} {k : Sto → Option (Int32 × Sto)} {G : Sto} {B N : Nat} (h : NX G B N)
    (hk : ∀ M, Fr [26] [] G M → Ok P (k M)) :
    ∀ n b M, Fr [26] [] G M → b ≤ B → B - b < n → Ok P (l_R_findNeeded_2 k n (nJ b) M) := by
  intro n
  have hB := h.pf.hB
  have hhi := h.na.hi
  induction n with
  | zero => intro i M _ h1 h2; omega
  | succ n ih =>
    intro b M hf hb hn
    unfold l_R_findNeeded_2
    rw [hf.2 1 (by decide), h.pf.blk, hf.2 27 (by decide)]
    refine Ok.leN (by omega) (by omega) (fun q => hk M hf) (fun q => ?_)
    have go : ∀ M1, Fr [26] [] G M1 → Ok P (j_R_findNeeded_130 (l_R_findNeeded_2 k n) k (nJ b) M1) := fun M1 f1 => by
      unfold j_R_findNeeded_130
      rw [nJ_succ (by omega)]
      exact ih (b + 1) M1 f1 (by omega) (by omega)
    refine Ok.has (by omega) (fun g => ?_) (fun g => go M hf)
    dsimp only
    obtain ⟨_, hnb⟩ := h.co (by omega) g
    have hl := h.pf.lenN_le (b := b) (by omega)
    rw [nJ_mul6 (by omega)]
    refine r_fn29 h q hnb (fun M1 f1 => ?_) FU 0 M hf (by omega) (by unfold FU; omega)
    unfold j_R_findNeeded_94
    refine Ok.okN (by omega) (by decide) ?_
    rw [nJ_tn (i := b) (by omega)]
    refine Ok.ifE (fun z => ?_) (fun z => go M1 f1)
    rw [f1.1 6 (by decide) (by decide)] at z
    obtain ⟨t, t1, t2, _⟩ := hnb.ts z
    refine Ok.okN (by omega) (by decide) ?_
    have e20 : M1 20 b = nJ t := by rw [f1.1 20 (by decide) (by decide)]; exact t2
    rw [e20, nJ_tn (by omega)]
    refine Ok.okN (by omega) (by decide) ?_
    refine Ok.ifE (fun z2 => ?_) (fun z2 => go M1 f1)
    refine Ok.okN (by omega) (by decide) ?_
    exact Ok.bind (r_needs (Or.inr ⟨t, by omega, rfl⟩)) (fun r M2 hp => go M2 (hp.fr f1))
def NR (G M0 : Sto) (v : Int32) (M : Sto) : Prop := Fr [26] [] G M ∧ ((v = 0 ∧ M = M0) ∨ (v = 1 ∧ cnt (M0 26) 130 < cnt (M 26) 130))
theorem NR.step {G M0 M : Sto} {v w : Int32} {a : Int32 × Sto} (h : NR G M0 v M) (hp : NP M a) (hw : (a.1 = 0 → w = v) ∧ (a.1 ≠ 0 → w = 1)) : NR G M0 w a.2 := by
  refine ⟨hp.fr h.1, ?_⟩
  rcases hp with ⟨a0, a1⟩ | ⟨a0, _, a2⟩
  · rw [hw.1 a0, a1]; exact h.2
  · have hw1 := hw.2 (by rw [a0]; decide)
    refine Or.inr ⟨hw1, ?_⟩
    rcases h.2 with ⟨_, h4⟩ | ⟨_, h4⟩
    · rw [← h4]; exact a2
    · omega
theorem r_np93 {P : Int32 × Sto → Prop} {k : Int32 → Sto → Option (Int32 × Sto)} {G M0 : Sto} {B N b w : Nat} (h : NX G B N) (hb : b < 10) (hw : w < 6)
    (hk : ∀ v M, NR G M0 v M → Ok P (k v M)) :
    ∀ n i v M, NR G M0 v M → i ≤ B → B - i < n → Ok P (l_R_needsParts_93 k n v (nJ b) (nJ w) (nJ i) M) := by
  intro n
  have hB := h.pf.hB
  have hhi := h.na.hi
  induction n with
  | zero => intro i v M _ h1 h2; omega
  | succ n ih =>
    intro i v M hS hi hn
    have hf := hS.1
    unfold l_R_needsParts_93
    rw [hf.2 1 (by decide), h.pf.blk]
    refine Ok.leN (by omega) (by omega) (fun q => hk v M hS) (fun q => ?_)
    refine Ok.okN (by omega) (by decide) ?_
    rw [nJ_tn (i := b) (by omega), nJ_tn (i := i) (by omega)]
    have go : ∀ u M1, NR G M0 u M1 → Ok P (j_R_needsParts_166 (l_R_needsParts_93 k n) k u (nJ b) (nJ w) (nJ i) M1) := fun u M1 f1 => by
      unfold j_R_needsParts_166
      rw [nJ_succ (by omega)]
      exact ih (i + 1) u M1 f1 (by omega) (by omega)
    refine Ok.has (by omega) (fun g1 => ?_) (fun g1 => go v M hS)
    dsimp only
    refine Ok.has (by omega) (fun g2 => ?_) (fun g2 => go v M hS)
    dsimp only
    refine Ok.okN (by omega) (by decide) ?_
    refine Ok.has (by omega) (fun g3 => ?_) (fun g3 => go v M hS)
    dsimp only
    have e6 : 6 * nJ i + nJ w = nJ (6 * i + w) := by rw [nJ_mul6 (by omega), nJ_add (by omega)]
    refine Ok.okE e6 (by omega) (by decide) ?_
    rw [e6, nJ_tn (by omega)]
    rw [hf.2 27 (by decide)] at g2
    obtain ⟨m, m1, m2, _⟩ := (h.co (by omega) g2).2.cur w hw
    have e21 : M 21 (6 * i + w) = nJ m := by rw [hf.1 21 (by decide) (by decide)]; exact m2
    rw [e21]
    refine Ok.bind (r_needs (Or.inr ⟨m, by omega, rfl⟩)) (fun r M2 hp => ?_)
    dsimp only
    refine Ok.ifE (fun z => ?_) (fun z => ?_)
    · exact go v M2 (hS.step hp ⟨fun _ => rfl, fun y => absurd z y⟩)
    · exact go 1 M2 (hS.step hp ⟨fun y => absurd y z, fun _ => rfl⟩)
theorem div6 : ∀ j, j < 60 → nJ j / 6 = nJ (j / 6) ∧ nJ j - nJ j / 6 * 6 = nJ (j % 6) := by decide +kernel
theorem neg_neg1 {j : Nat} (h : j < 1000) : (-1 : Int32) - ((-1) - nJ j) = nJ j := by
  apply Int32.toInt_inj.mp
  have n1 : (-1 : Int32).toInt = -1 := rfl
  have h1 := nJ_int (i := j) (by omega)
  have h2 : ((-1 : Int32) - nJ j).toInt = -1 - (j : Int) := by rw [subI (by omega) (by omega), h1, n1]
  rw [subI (by omega) (by omega), h2, h1, n1]; omega
theorem r_needsParts {G M : Sto} {B N n : Nat} (h : NX G B N) (hf : Fr [26] [] G M) (hn : 6 ≤ n) (hN : n < N) : Ok (fun a => NR G M a.1 a.2) (m_R_needsParts (nJ n) M) := by
  have hB := h.pf.hB
  have hhi := h.na.hi
  have n0 : (0 : Int32).toInt = 0 := rfl
  have hend : Ok (fun a => NR G M a.1 a.2) (j_R_needsParts_25 M) := by
    unfold j_R_needsParts_25
    exact Ok.bzt (Or.inl rfl) ⟨(0, M), rfl, hf, Or.inl ⟨rfl, rfl⟩⟩
  have back : ∀ v M1, NR G M v M1 → Ok (fun a => NR G M a.1 a.2) (if bz v = true then some (v, M1) else none) := fun v M1 hr => Ok.bzt (hr.2.elim (fun z => Or.inl z.1) fun z => Or.inr z.1) ⟨(v, M1), rfl, hr⟩
  unfold m_R_needsParts
  refine Ok.ltN (b := 6) (by omega) (by omega) (fun q => hend) (fun q => ?_)
  refine Ok.okN (by omega) (by decide) ?_
  rw [nJ_tn (by omega)]
  refine Ok.ifE (fun z => hend) (fun z => ?_)
  refine Ok.okN (by omega) (by decide) ?_
  refine Ok.ifE (fun z2 => hend) (fun z2 => ?_)
  refine Ok.okN (by omega) (by decide) ?_
  obtain ⟨b, j, b1, b2, hj⟩ := h.na.sit n hn hN
  obtain ⟨bB, hnb⟩ := h.na.nb b b1 b2
  have hl := h.pf.lenN_le b1
  rcases hj with ⟨j1, j2⟩ | ⟨j1, j2⟩
  · have e15 : M 15 n = nJ (6 * b + j) := by rw [hf.1 15 (by decide) (by decide)]; exact j2
    have ej := nJ_int (i := 6 * b + j) (by omega)
    rw [e15]
    refine Ok.lt (fun q => by omega) (fun _ => ?_)
    refine Ok.okN (by omega) (by decide) ?_
    rw [nJ_tn (by omega), hf.1 18 (by decide) (by decide)]
    refine Ok.bind (r_needs (h.ux hnb j1)) (fun r5 M5 h5 => ?_)
    dsimp only
    refine Ok.okN (by omega) (by decide) ?_
    have f5 := h5.fr hf
    have f5 : Fr [26] [] G M5 := f5
    rw [f5.1 19 (by decide) (by decide)]
    refine Ok.bind (r_needs (h.uy hnb j1)) (fun r6 M6 h6 => ?_)
    dsimp only
    have s0 : NR G M 0 M := ⟨hf, Or.inl ⟨rfl, rfl⟩⟩
    unfold j_R_needsParts_68 j_R_needsParts_73
    refine Ok.ifE (fun z6 => ?_) (fun z6 => ?_)
    · refine Ok.ifE (fun z5 => ?_) (fun z5 => ?_)
      · exact back 0 M6 ((s0.step (w := 0) h5 ⟨fun _ => rfl, fun y => absurd z5 y⟩).step (w := 0) h6 ⟨fun _ => rfl, fun y => absurd z6 y⟩)
      · exact back 1 M6 ((s0.step (w := 1) h5 ⟨fun y => absurd y z5, fun _ => rfl⟩).step (w := 1) h6 ⟨fun _ => rfl, fun y => rfl⟩)
    · by_cases z5 : r5 = 0
      · exact back 1 M6 ((s0.step (w := 0) h5 ⟨fun _ => rfl, fun y => absurd z5 y⟩).step (w := 1) h6 ⟨fun y => absurd y z6, fun _ => rfl⟩)
      · exact back 1 M6 ((s0.step (w := 1) h5 ⟨fun y => absurd y z5, fun _ => rfl⟩).step (w := 1) h6 ⟨fun y => absurd y z6, fun _ => rfl⟩)
  · have e15 : M 15 n = (-1) - nJ (6 * b + j) := by rw [hf.1 15 (by decide) (by decide)]; exact j2
    have n1 : (-1 : Int32).toInt = -1 := rfl
    have ej := nJ_int (i := 6 * b + j) (by omega)
    have en : ((-1 : Int32) - nJ (6 * b + j)).toInt = -1 - ((6 * b + j : Nat) : Int) := by rw [subI (by omega) (by omega), ej, n1]
    rw [e15]
    refine Ok.lt (fun _ => ?_) (fun q => by omega)
    rw [if_neg (by decide), if_neg (by decide), neg_neg1 (by omega), (div6 _ (by omega)).1]
    have hd := div6 (6 * b + j) (by omega)
    rw [hd.1] at hd
    rw [hd.2, show (6 * b + j) / 6 = b by omega, show (6 * b + j) % 6 = j by omega]
    exact r_np93 h b1 j1 (fun v M1 hr => by unfold j_R_needsParts_172; exact back v M1 hr) FU 0 0 M ⟨hf, Or.inl ⟨rfl, rfl⟩⟩ (by omega) (by unfold FU; omega)
theorem r_fn147 {P : Int32 × Sto → Prop} {k : Int32 → Sto → Option (Int32 × Sto)} {G M0 : Sto} {B N : Nat} (h : NX G B N)
    (hk : ∀ v M, NR G M0 v M → Ok P (k v M)) :
    ∀ n i v M, NR G M0 v M → 6 ≤ i → i ≤ N → N - i < n → Ok P (l_R_findNeeded_147 k n v (nJ i) M) := by
  intro n
  have hB := h.pf.hB
  have hhi := h.na.hi
  induction n with
  | zero => intro i v M _ _ h1 h2; omega
  | succ n ih =>
    intro i v M hS hi6 hi hn
    unfold l_R_findNeeded_147
    rw [hS.1.2 17 (by decide), h.na.num]
    refine Ok.leN (by omega) (by omega) (fun q => hk v M hS) (fun q => ?_)
    have go : ∀ u M1, NR G M0 u M1 → Ok P (j_R_findNeeded_172 (l_R_findNeeded_147 k n) k u (nJ i) M1) := fun u M1 f1 => by
      unfold j_R_findNeeded_172
      rw [nJ_succ (by omega)]
      exact ih (i + 1) u M1 f1 (by omega) (by omega) (by omega)
    refine Ok.bind (r_needsParts h hS.1 hi6 q) (fun r M1 hr => ?_)
    dsimp only at hr ⊢
    unfold j_R_findNeeded_167
    have comb : ∀ u, (r = 0 → u = v) → (r ≠ 0 → u = 1) → NR G M0 u M1 := by
      intro u h1 h2
      refine ⟨hr.1, ?_⟩
      rcases hr.2 with ⟨a1, a2⟩ | ⟨a1, a2⟩
      · rw [h1 a1, a2]; exact hS.2
      · refine Or.inr ⟨h2 (by rw [a1]; decide), ?_⟩
        rcases hS.2 with ⟨_, h4⟩ | ⟨_, h4⟩
        · rw [← h4]; exact a2
        · omega
    refine Ok.ifE (fun z => ?_) (fun z => ?_)
    · refine Ok.ifE (fun y => ?_) (fun y => ?_)
      · exact go 0 M1 (comb 0 (fun _ => y.symm) (fun q => absurd z q))
      · have hv1 : v = 1 := hS.2.elim (fun q => absurd q.1 y) fun q => q.1
        exact go 1 M1 (comb 1 (fun _ => hv1.symm) (fun _ => rfl))
    · exact go 1 M1 (comb 1 (fun q => absurd q z) (fun _ => rfl))
theorem r_fn138 {P : Int32 × Sto → Prop} {k : Sto → Option (Int32 × Sto)} {G : Sto} {B N : Nat} (h : NX G B N)
    (hk : ∀ M, Fr [26] [] G M → Ok P (k M)) :
    ∀ (n : Nat) v M, Fr [26] [] G M → (v = 0 ∨ v = 1) → 0 < n → (v = 1 → 131 - cnt (M 26) 130 < (n : Int)) → Ok P (l_R_findNeeded_138 k n v M) := by
  intro n
  have hhi := h.na.hi
  have hlo := h.na.lo
  induction n with
  | zero => intro v M _ _ h1 h2; omega
  | succ n ih =>
    intro v M hf hv _ hn
    unfold l_R_findNeeded_138
    refine Ok.ifE (fun _ => hk M hf) (fun z => ?_)
    have hv1 : v = 1 := hv.elim (fun y => absurd y z) fun y => y
    have h1 := hn hv1
    have h2 := cnt_le (M 26) 130
    refine r_fn147 (M0 := M) h (fun u M1 hr => ?_) FU 6 0 M ⟨hf, Or.inl ⟨rfl, rfl⟩⟩ (by omega) (by omega) (by unfold FU; omega)
    unfold j_R_findNeeded_179
    refine ih u M1 hr.1 (hr.2.elim (fun y => Or.inl y.1) fun y => Or.inr y.1) (by omega) (fun y => ?_)
    rcases hr.2 with ⟨a1, _⟩ | ⟨_, a2⟩
    · rw [a1] at y; exact absurd y (by decide)
    · omega
theorem r_findNeeded {G : Sto} {B N : Nat} (h : NX G B N) : Ok (fun a => Fr [26] [] G a.2) (m_R_findNeeded G) := by
  unfold m_R_findNeeded
  refine r_fn2 h (fun M hf => ?_) FU 0 G Fr.rfl (by omega) (by have := h.pf.hB; unfold FU; omega)
  unfold j_R_findNeeded_136
  refine r_fn138 (k := j_R_findNeeded_182) (P := fun a => Fr [26] [] G a.2) h (fun M1 f1 => ⟨(0, M1), rfl, f1⟩) FU 1 M hf (Or.inr rfl) (by unfold FU; omega) (fun _ => ?_)
  have := cnt_ge (M 26) 130
  have := fu_le
  omega
end
section
def RB (M : Sto) (B N : Nat) : Prop := (N ≤ 126) ∧ (bt (M 0 27) 0 = true) ∧ (∀ b, b < 32 → bt (M 0 27) b = true → b < B ∧ NB M N b) ∧ (∀ b i n, b < 32 → bt (M 0 27) b = true → i < lenN M b → M 2 (6 * b + i) = 0 → n < 1000 → M 17 (6 * b + i) = nJ n → M 24 n = 1) ∧ (∀ b c, b < 32 → bt (M 0 27) b = true → c < 32 → bt (wy M b) c = true → bt (M 0 27) c = true) ∧ (∀ b n, b < 32 → bt (M 0 27) b = true → M 6 b = 2 → n < 1000 → M 20 b = nJ n → M 24 n ≠ 0) ∧ (∀ n, okS (M 24 n))
theorem RB.hi {M : Sto} {B N : Nat} (h : RB M B N) : N ≤ 126 := h.1
theorem RB.z {M : Sto} {B N : Nat} (h : RB M B N) : bt (M 0 27) 0 = true := h.2.1
theorem RB.nb {M : Sto} {B N : Nat} (h : RB M B N) : ∀ b, b < 32 → bt (M 0 27) b = true → b < B ∧ NB M N b := h.2.2.1
theorem RB.set {M : Sto} {B N : Nat} (h : RB M B N) : ∀ b i n, b < 32 → bt (M 0 27) b = true → i < lenN M b → M 2 (6 * b + i) = 0 → n < 1000 → M 17 (6 * b + i) = nJ n → M 24 n = 1 := h.2.2.2.1
theorem RB.nxt {M : Sto} {B N : Nat} (h : RB M B N) : ∀ b c, b < 32 → bt (M 0 27) b = true → c < 32 → bt (wy M b) c = true → bt (M 0 27) c = true := h.2.2.2.2.1
theorem RB.tnz {M : Sto} {B N : Nat} (h : RB M B N) : ∀ b n, b < 32 → bt (M 0 27) b = true → M 6 b = 2 → n < 1000 → M 20 b = nJ n → M 24 n ≠ 0 := h.2.2.2.2.2.1
theorem RB.st {M : Sto} {B N : Nat} (h : RB M B N) : ∀ n, okS (M 24 n) := h.2.2.2.2.2.2
theorem RB.of {M : Sto} {B N : Nat} (hP : PF M B) (hR : RRq M B) (hD : DM M B) (hA : NA M B N) (hI : KIq M B) (hF : FixA M B) (h13 : M 13 0 = 0) : RB M B N := by
  have hB := hP.hB
  have hhi := hA.hi
  have nb : ∀ b, b < 32 → bt (M 0 27) b = true → b < B ∧ NB M N b := fun b hb hc => hA.nb b (hI.rc b hb hc).1 (hI.rc b hb hc).2
  refine ⟨hhi, hI.z, nb, fun b i n hb hc hi hk hn he => ?_, fun b c hb hc hc' hw => ?_, fun b n hb hc h2 hn he => ?_, hI.st⟩
  · obtain ⟨bB, hn'⟩ := nb b hb hc
    have hok : (Site.ins b i).ok M := ⟨by omega, (hI.rc b hb hc).2, hi, by rw [hk]; decide⟩
    have hS : knS M (6 * b + i) = 1 := by unfold knS; rw [if_pos hk]
    have h1 : vle (knS M (6 * b + i)) (knX M (6 * b + i)) (M 24 (tn (M 17 (6 * b + i)))) (M 25 (tn (M 17 (6 * b + i)))) := (hF b bB hc).ins i hi hok
    have h2 : vle (M 24 (tn (M 17 (6 * b + i)))) (M 25 (tn (M 17 (6 * b + i)))) 1 (knX M (6 * b + i)) := hI.k _ hok 1 (knX M (6 * b + i)) (by
      show vle (knS M (6 * b + i)) (knX M (6 * b + i)) 1 (knX M (6 * b + i))
      rw [hS]; exact vle.rf (Or.inr (Or.inl rfl)))
    rw [he, tn_nJ (by omega)] at h1 h2
    have h3 := vle_nz h1 (by rw [hS]; decide)
    rcases h2 with q | q | ⟨q, _⟩
    · exact absurd q h3
    · exact absurd q (by decide)
    · exact q
  · obtain ⟨bB, _⟩ := nb b hb hc
    exact (hI.tc b bB c hc' ((hF b bB hc).w c hc' hw)).2
  · obtain ⟨bB, hn'⟩ := nb b hb hc
    obtain ⟨t, t1, t2, t3⟩ := hn'.ts h2
    have : n = t := nJ_inj (by omega) (by omega) (he.symm.trans t2)
    subst this
    obtain ⟨r, hr⟩ := hI.cw b hb hc
    exact come_nz hP hR hD hA hI hF h13 r r b (Nat.le_refl _) (by omega) hr n hn t3
def RL : List Nat := [10, 11, 14, 22, 23, 26, 27, 28, 29, 30]
def RL0 : List Nat := [0, 11, 12, 17, 32, 34, 35, 37, 38]
theorem RB.fr {M M' : Sto} {B N : Nat} (hP : PF M B) (h : RB M B N) (f : Fr RL RL0 M M') : RB M' B N := by
  have cell : ∀ k, k ≠ 0 → k ∉ RL → M' k = M k := f.1
  have z27 : M' 0 27 = M 0 27 := f.2 27 (by decide)
  have hB := hP.hB
  refine ⟨h.hi, by rw [z27]; exact h.z, fun b hb hc => ?_, ?_, fun b c hb hc hc' hw => ?_, ?_, by rw [cell 24 (by decide) (by decide)]; exact h.st⟩
  · rw [z27] at hc
    obtain ⟨c1, c2⟩ := h.nb b hb hc
    refine ⟨c1, c2.fr (Nat.le_refl _) (cell _ (by decide) (by decide)) (cell _ (by decide) (by decide)) (cell _ (by decide) (by decide)) (cell _ (by decide) (by decide)) (cell _ (by decide) (by decide)) (fun n _ => by rw [cell 15 (by decide) (by decide)]) (fun q hq w _ => ?_) (by rw [cell 20 (by decide) (by decide)]) (hP.lenN_le (by omega)) (fun p w _ _ _ _ _ => by rw [cell 21 (by decide) (by decide)])⟩
    rw [cell q (by omega) (by rcases hq with z | z | z | z | z <;> rw [z] <;> decide)]
  · unfold lenN
    rw [z27, cell 1 (by decide) (by decide), cell 2 (by decide) (by decide), cell 17 (by decide) (by decide), cell 24 (by decide) (by decide)]
    exact h.set
  · rw [z27] at hc ⊢
    have ew : wy M' b = wy M b := by
      unfold wy
      rw [cell 24 (by decide) (by decide), cell 25 (by decide) (by decide), cell 6 (by decide) (by decide), cell 20 (by decide) (by decide), cell 8 (by decide) (by decide), cell 9 (by decide) (by decide), lead_fr (cell _ (by decide) (by decide)) (cell _ (by decide) (by decide)) (cell _ (by decide) (by decide))]
    rw [ew] at hw
    exact h.nxt b c hb hc hc' hw
  · rw [z27, cell 6 (by decide) (by decide), cell 20 (by decide) (by decide), cell 24 (by decide) (by decide)]
    exact h.tnz
def RT (G : Sto) (K c : Nat) (M : Sto) : Prop := (Fr [28, 29, 30] [34, 35, 37, 38] G M) ∧ (∃ a, a ≤ K ∧ M 0 34 = nJ a) ∧ (∃ t, t ≤ K ∧ M 0 35 = nJ t) ∧ (M 0 37 = nJ c)
theorem RT.fr {G : Sto} {K c : Nat} {M : Sto} (h : RT G K c M) : Fr [28, 29, 30] [34, 35, 37, 38] G M := h.1
theorem RT.a {G : Sto} {K c : Nat} {M : Sto} (h : RT G K c M) : ∃ a, a ≤ K ∧ M 0 34 = nJ a := h.2.1
theorem RT.t {G : Sto} {K c : Nat} {M : Sto} (h : RT G K c M) : ∃ t, t ≤ K ∧ M 0 35 = nJ t := h.2.2.1
theorem RT.s {G : Sto} {K c : Nat} {M : Sto} (h : RT G K c M) : M 0 37 = nJ c := h.2.2.2
theorem RT.mono {G M : Sto} {K K' c : Nat} (h : RT G K c M) (hk : K ≤ K') : RT G K' c M := by
  obtain ⟨a, a1, a2⟩ := h.a
  obtain ⟨t, t1, t2⟩ := h.t
  exact ⟨h.fr, ⟨a, by omega, a2⟩, ⟨t, by omega, t2⟩, h.s⟩
theorem RT.up {G M : Sto} {K c k j : Nat} {v : Int32} (h : RT G K c M) (hk : k = 28 ∨ k = 29 ∨ k = 30) : RT G K c (up2 M k j v) := by
  have h0 : (0 : Nat) ≠ k := by omega
  refine ⟨h.fr.up (by omega) (by rcases hk with z | z | z <;> rw [z] <;> decide), ?_, ?_, ?_⟩
  · rw [up2_ne _ _ _ h0]; exact h.a
  · rw [up2_ne _ _ _ h0]; exact h.t
  · rw [up2_ne _ _ _ h0]; exact h.s
theorem RT.up38 {G M : Sto} {K c : Nat} {v : Int32} (h : RT G K c M) : RT G K c (up2 M 0 38 v) := by
  refine ⟨h.fr.up0 (by decide), ?_, ?_, ?_⟩
  · rw [up2_at, if_neg (fun z => absurd z.2 (by decide))]; exact h.a
  · rw [up2_at, if_neg (fun z => absurd z.2 (by decide))]; exact h.t
  · rw [up2_at, if_neg (fun z => absurd z.2 (by decide))]; exact h.s
theorem r_tell {G M : Sto} {K c : Nat} {x : Int32} (h : RT G K c M) (hK : K < 100000) : Ok (fun a => RT G (K + 1) c a.2) (m_R_tell x M) := by
  obtain ⟨t, t1, t2⟩ := h.t
  have fin : ∀ M1, RT G K c M1 → M1 0 35 = nJ t → Ok (fun a : Int32 × Sto => RT G (K + 1) c a.2) (j_R_tell_19 M1) := by
    intro M1 h1 e1
    unfold j_R_tell_19
    rw [e1, nJ_succ (by omega)]
    refine Ok.wr (fun M2 q2 => ⟨(0, M2), rfl, ?_⟩)
    obtain ⟨a, a1, a2⟩ := h1.a
    show RT G (K + 1) c M2
    rw [q2]
    refine ⟨h1.fr.up0 (by decide), ⟨a, by omega, ?_⟩, ⟨t + 1, by omega, ?_⟩, ?_⟩
    · rw [up2_at, if_neg (fun z => absurd z.2 (by decide))]; exact a2
    · rw [up2_at, if_pos ⟨rfl, rfl⟩]
    · rw [up2_at, if_neg (fun z => absurd z.2 (by decide))]; exact h1.s
  unfold m_R_tell
  rw [t2]
  refine Ok.leN (a := 40) (by omega) (by omega) (fun q => fin M h t2) (fun q => ?_)
  refine Ok.okN q (by decide) ?_
  refine Ok.wr (fun M2 q2 => ?_)
  rw [q2]
  exact fin _ (h.up (Or.inl rfl)) (by rw [up2_ne _ _ _ (by decide)]; exact t2)
theorem r_ask {G M : Sto} {B K c : Nat} (hP : PF G B) (h : RT G K c M) (hK : K < 100000) : Ok (fun a => RT G (K + 1) c a.2) (m_R_ask M) := by
  obtain ⟨a, a1, a2⟩ := h.a
  obtain ⟨t, t1, t2⟩ := h.t
  obtain ⟨g, g1, g2⟩ := hP.inp
  unfold m_R_ask
  rw [a2, nJ_succ (by omega)]
  refine Ok.wr (fun M1 q1 => ?_)
  have h1 : RT G (K + 1) c M1 := by
    rw [q1]
    refine ⟨h.fr.up0 (by decide), ⟨a + 1, by omega, ?_⟩, ⟨t, by omega, ?_⟩, ?_⟩
    · rw [up2_at, if_pos ⟨rfl, rfl⟩]
    · rw [up2_at, if_neg (fun z => absurd z.2 (by decide))]; exact t2
    · rw [up2_at, if_neg (fun z => absurd z.2 (by decide))]; exact h.s
  have e34 : M1 0 34 = nJ (a + 1) := by rw [q1, up2_at, if_pos ⟨rfl, rfl⟩]
  have e32 : M1 0 32 = nJ g := by rw [h1.fr.2 32 (by decide)]; exact g2
  rw [e34, e32]
  unfold j_R_ask_36
  refine Ok.ltN (by omega) (by omega) (fun q => ⟨(0, M1), rfl, h1⟩) (fun q => ?_)
  have e4 : nJ (a + 1) - 1 = nJ a := by
    apply Int32.toInt_inj.mp
    have n1 : (1 : Int32).toInt = 1 := rfl
    have h1 := nJ_int (i := a + 1) (by omega)
    rw [subI (by omega) (by omega), nJ_int (i := a) (by omega)]; omega
  rw [e4]
  refine Ok.okN (by omega) (by decide) ?_
  exact ⟨(_, M1), rfl, h1⟩
theorem r_plainBlock {G M : Sto} {B K c b : Nat} (hP : PF G B) (hb : b < B) (h : RT G K c M) (hK : K + 6 < 100000) : Ok (fun a => RT G (K + 6) c a.2) (m_R_plainBlock (nJ b) M) := by
  have hB := hP.hB
  obtain ⟨l, l1, l2⟩ := hP.len b (by omega)
  have loop : ∀ n i M, RT G (K + i) c M → i ≤ l → l - i < n → Ok (fun a => RT G (K + 6) c a.2) (l_R_plainBlock_5 j_R_plainBlock_81 n (nJ b) (nJ (6 * b + i)) M) := by
    intro n
    induction n with
    | zero => intro i M _ h1 h2; omega
    | succ n ih =>
      intro i M hM hi hn
      unfold l_R_plainBlock_5
      refine Ok.okN (by omega) (by decide) ?_
      rw [nJ_tn (i := b) (by omega), hM.fr.1 1 (by decide) (by decide), l2, nJ_mul6 (by omega), nJ_add (by omega)]
      refine Ok.leN (by omega) (by omega) (fun q => ⟨(0, M), rfl, hM.mono (by omega)⟩) (fun q => ?_)
      refine Ok.wr (fun M1 q1 => ?_)
      have h1 : RT G (K + i) c M1 := by rw [q1]; exact hM.up38
      refine Ok.okN (by omega) (by decide) ?_
      rw [nJ_tn (i := 6 * b + i) (by omega)]
      have e2 : M1 2 = G 2 := h1.fr.1 2 (by decide) (by decide)
      have e3 : M1 3 = G 3 := h1.fr.1 3 (by decide) (by decide)
      have e4 : M1 4 = G 4 := h1.fr.1 4 (by decide) (by decide)
      have e5 : M1 5 = G 5 := h1.fr.1 5 (by decide) (by decide)
      have go : ∀ M2, RT G (K + i + 1) c M2 → Ok (fun a => RT G (K + 6) c a.2) (j_R_plainBlock_75 (l_R_plainBlock_5 j_R_plainBlock_81 n) j_R_plainBlock_81 (nJ b) (nJ (6 * b + i)) M2) := fun M2 h2 => by
        unfold j_R_plainBlock_75
        rw [nJ_succ (by omega)]
        exact ih (i + 1) M2 h2 (by omega) (by omega)
      refine Ok.ifE (fun z => ?_) (fun z => ?_)
      · rw [e2] at z
        obtain ⟨x, x1, x2⟩ := hP.fst (6 * b + i) (by rw [z]; decide) (by rw [z]; decide)
        refine Ok.okN (by omega) (by decide) ?_
        refine Ok.okE (i := x) (by rw [e4]; exact x2) (by omega) (by decide) ?_
        exact Ok.bind (r_tell h1 (by omega)) (fun r M2 h2 => go M2 h2)
      · refine Ok.okN (by omega) (by decide) ?_
        have hv : Ok (fun a => RT G (K + i + 1) c a.2) (m_R_plainValue (nJ (6 * b + i)) M1) := by
          unfold m_R_plainValue j_R_plainValue_67
          refine Ok.okN (by omega) (by decide) ?_
          rw [nJ_tn (i := 6 * b + i) (by omega)]
          refine Ok.ifE (fun z0 => ?_) (fun z0 => ?_)
          · refine Ok.okN (by omega) (by decide) ?_
            exact ⟨(_, M1), rfl, h1.mono (by omega)⟩
          refine Ok.ifE (fun z6 => ?_) (fun z6 => ?_)
          · exact Ok.bind (r_ask hP h1 (by omega)) (fun r M2 h2 => ⟨(r, M2), rfl, h2⟩)
          refine Ok.okN (by omega) (by decide) ?_
          rw [e2] at z z0 z6
          obtain ⟨x, x1, x2⟩ := hP.fst (6 * b + i) z0 z6
          refine Ok.okE (i := x) (by rw [e4]; exact x2) (by omega) (by decide) ?_
          refine Ok.ifE (fun z1 => ?_) (fun z1 => ?_)
          · exact ⟨(_, M1), rfl, h1.mono (by omega)⟩
          refine Ok.okN (by omega) (by decide) ?_
          rw [e2] at z1
          obtain ⟨y, y1, y2⟩ := hP.snd (6 * b + i) z0 z1 z6 z
          refine Ok.okE (i := y) (by rw [e5]; exact y2) (by omega) (by decide) ?_
          rw [reckon_eq]
          exact ⟨(_, M1), rfl, h1.mono (by omega)⟩
        refine Ok.bind hv (fun r M2 h2 => ?_)
        dsimp only at h2 ⊢
        obtain ⟨d, d1, d2⟩ := hP.dst (6 * b + i) (by rw [← e2]; exact z)
        refine Ok.okE (i := d) (by rw [e3]; exact d2) (by omega) (by decide) ?_
        refine Ok.wr (fun M3 q3 => ?_)
        rw [q3]
        exact go _ (h2.up (Or.inr (Or.inl rfl)))
  unfold m_R_plainBlock
  rw [nJ_mul6 (by omega)]
  exact loop FU 0 M h (by omega) (by unfold FU; omega)
theorem value_eq {M : Sto} {n : Nat} (hn : n < 130) : ∃ r, m_R_value (nJ n) M = some (r, M) ∧ (M 24 n = 1 → r = M 25 n) := by
  unfold m_R_value j_R_value_25
  rw [nJ_tn (by omega), okN_t hn (by decide)]
  simp only [if_true]
  by_cases h : M 24 n = 1
  · rw [if_pos h]; exact ⟨_, rfl, fun _ => rfl⟩
  · rw [if_neg h]; exact ⟨_, rfl, fun z => absurd z h⟩
theorem r_formedBlock {G M : Sto} {B N K c b f : Nat} (hP : PF G B) (hX : RB G B N) (hb : b < 32) (hcb : bt (G 0 27) b = true) (hf : f < 32) (hcf : bt (G 0 27) f = true) (h : RT G K c M) (hK : K + 6 < 100000) : Ok (fun a => RT G (K + 6) c a.2) (m_R_formedBlock (nJ b) (nJ f) M) := by
  have hB := hP.hB
  have hhi := hX.hi
  obtain ⟨bB, hN⟩ := hX.nb b hb hcb
  obtain ⟨fB, hNf⟩ := hX.nb f hf hcf
  obtain ⟨l, l1, l2⟩ := hP.len b (by omega)
  have hln : lenN G b = l := by unfold lenN; rw [l2, nJ_tn (by omega)]
  have loop106 : ∀ n i M, RT G (K + i) c M → i ≤ l → l - i < n → Ok (fun a => RT G (K + 6) c a.2) (l_R_formedBlock_106 j_R_formedBlock_287 n (nJ b) (nJ (6 * b + i)) M) := by
    intro n
    induction n with
    | zero => intro i M _ h1 h2; omega
    | succ n ih =>
      intro i M hM hi hn
      unfold l_R_formedBlock_106
      refine Ok.okN (by omega) (by decide) ?_
      rw [nJ_tn (i := b) (by omega), hM.fr.1 1 (by decide) (by decide), l2, nJ_mul6 (by omega), nJ_add (by omega)]
      refine Ok.leN (by omega) (by omega) (fun q => ⟨(0, M), rfl, hM.mono (by omega)⟩) (fun q => ?_)
      have hin := hN.ins i (by omega)
      have e2 : M 2 = G 2 := hM.fr.1 2 (by decide) (by decide)
      have e17 : M 17 = G 17 := hM.fr.1 17 (by decide) (by decide)
      have e24 : M 24 = G 24 := hM.fr.1 24 (by decide) (by decide)
      refine Ok.okN (by omega) (by decide) ?_
      refine Ok.okN (by omega) (by decide) ?_
      rw [nJ_tn (i := 6 * b + i) (by omega)]
      have go : ∀ M2, RT G (K + i + 1) c M2 → Ok (fun a => RT G (K + 6) c a.2) (j_R_formedBlock_281 (l_R_formedBlock_106 j_R_formedBlock_287 n) j_R_formedBlock_287 (nJ b) (nJ (6 * b + i)) M2) := fun M2 h2 => by
        unfold j_R_formedBlock_281
        rw [nJ_succ (by omega)]
        exact ih (i + 1) M2 h2 (by omega) (by omega)
      refine Ok.ifE (fun z => ?_) (fun z => ?_)
      · refine Ok.wr (fun M7 q7 => ?_)
        have h7 : RT G (K + i) c M7 := by rw [q7]; exact hM.up38
        refine Ok.okN (by omega) (by decide) ?_
        rw [e2] at z
        obtain ⟨x, x1, x2, _⟩ := hin.ux (by rw [z]; decide) (by rw [z]; decide)
        rw [h7.fr.1 18 (by decide) (by decide), x2]
        obtain ⟨r, hr, _⟩ := value_eq (M := M7) (n := x) (by omega)
        rw [hr]
        refine Ok.bindS ?_
        exact Ok.bind (r_tell h7 (by omega)) (fun r M2 h2 => go M2 h2)
      rw [e2] at z
      obtain ⟨m, m6, m1, m2, _⟩ := hin.md z
      rw [e17, m2, nJ_tn (by omega)]
      refine Ok.okN (by omega) (by decide) ?_
      refine Ok.ifE (fun y => go M (hM.mono (by omega))) (fun y => ?_)
      refine Ok.okN (by omega) (by decide) ?_
      refine Ok.ifE (fun y2 => go M (hM.mono (by omega))) (fun y2 => ?_)
      rw [e24] at y2
      have hk0 : G 2 (6 * b + i) ≠ 0 := fun q0 => y2 (hX.set b i m hb hcb (by omega) q0 (by omega) m2)
      refine Ok.wr (fun M1 q1 => ?_)
      have h1 : RT G (K + i) c M1 := by rw [q1]; exact hM.up38
      refine Ok.okN (by omega) (by decide) ?_
      refine Ok.okN (by omega) (by decide) ?_
      have e18 : M1 18 = G 18 := h1.fr.1 18 (by decide) (by decide)
      have e12 : M1 2 = G 2 := h1.fr.1 2 (by decide) (by decide)
      have fin : ∀ s M2, RT G (K + i) c M2 → Ok (fun a => RT G (K + 6) c a.2) (j_R_formedBlock_229 (l_R_formedBlock_106 j_R_formedBlock_287 n) j_R_formedBlock_287 s (nJ b) (nJ (6 * b + i)) (nJ m) (G 2 (6 * b + i)) M2) := by
        intro s M2 h2
        have set : ∀ s M3, RT G (K + i + 1) c M3 → Ok (fun a => RT G (K + 6) c a.2) (j_R_formedBlock_280 (l_R_formedBlock_106 j_R_formedBlock_287 n) j_R_formedBlock_287 s (nJ m) (nJ b) (nJ (6 * b + i)) M3) := by
          intro s M3 h3
          unfold j_R_formedBlock_280
          refine Ok.okN (by omega) (by decide) ?_
          refine Ok.wr (fun M4 q4 => ?_)
          rw [q4]
          exact go _ (h3.up (Or.inr (Or.inl rfl)))
        unfold j_R_formedBlock_229
        refine Ok.ifE (fun z6 => ?_) (fun z6 => ?_)
        · exact Ok.bind (r_ask hP h2 (by omega)) (fun r M3 h3 => set r M3 h3)
        refine Ok.ifE (fun z1 => ?_) (fun z1 => ?_)
        · exact set s M2 (h2.mono (by omega))
        refine Ok.okN (by omega) (by decide) ?_
        obtain ⟨y, y1, y2, _⟩ := hin.uy hk0 z1 z6 z
        rw [nJ_tn (by omega), h2.fr.1 19 (by decide) (by decide), y2]
        obtain ⟨r, hr, _⟩ := value_eq (M := M2) (n := y) (by omega)
        rw [hr]
        refine Ok.bindS ?_
        dsimp only
        rw [reckon_eq]
        refine Ok.bindS ?_
        exact set _ M2 (h2.mono (by omega))
      rw [e12]
      by_cases z6 : G 2 (6 * b + i) = 6
      · have hu := hin.un (Or.inr z6)
        rw [e18, hu]
        refine Ok.le (fun q => absurd q (by decide)) (fun _ => ?_)
        exact fin 0 M1 h1
      · obtain ⟨x, x1, x2, _⟩ := hin.ux hk0 z6
        have ex := nJ_int (i := x) (by omega)
        rw [e18, x2]
        have n0 : (0 : Int32).toInt = 0 := rfl
        refine Ok.le (fun _ => ?_) (fun q => by omega)
        refine Ok.okN (by omega) (by decide) ?_
        obtain ⟨r, hr, _⟩ := value_eq (M := M1) (n := x) (by omega)
        rw [hr]
        refine Ok.bindS ?_
        exact fin r M1 h1
  have loop54 : ∀ n i M, RT G K c M → i ≤ 6 → 6 - i < n → Ok (fun a => RT G (K + 6) c a.2) (l_R_formedBlock_54 j_R_formedBlock_101 n (nJ b) (nJ i) M) := by
    intro n
    induction n with
    | zero => intro i M _ h1 h2; omega
    | succ n ih =>
      intro i M hM hi hn
      unfold l_R_formedBlock_54
      refine Ok.leN (a := 6) (by omega) (by omega) (fun q => ?_) (fun q => ?_)
      · unfold j_R_formedBlock_101
        rw [nJ_mul6 (by omega)]
        exact loop106 FU 0 M hM (by omega) (by unfold FU; omega)
      refine Ok.okN (by omega) (by decide) ?_
      rw [nJ_tn (i := b) (by omega)]
      have go : ∀ M2, RT G K c M2 → Ok (fun a => RT G (K + 6) c a.2) (j_R_formedBlock_95 (l_R_formedBlock_54 j_R_formedBlock_101 n) j_R_formedBlock_101 (nJ b) (nJ i) M2) := fun M2 h2 => by
        unfold j_R_formedBlock_95
        rw [nJ_succ (by omega)]
        exact ih (i + 1) M2 h2 (by omega) (by omega)
      refine Ok.has (by omega) (fun g => ?_) (fun g => go M hM)
      dsimp only
      have e6 : 6 * nJ b + nJ i = nJ (6 * b + i) := by rw [nJ_mul6 (by omega), nJ_add (by omega)]
      refine Ok.okE e6 (by omega) (by decide) ?_
      refine Ok.okN (by omega) (by decide) ?_
      rw [hM.fr.1 13 (by decide) (by decide)] at g
      obtain ⟨m, _, m1, m2, _⟩ := hN.ph i (by omega) g
      have e16 : M 16 (6 * b + i) = nJ m := by rw [hM.fr.1 16 (by decide) (by decide)]; exact m2
      refine Ok.okE (i := m) (by rw [e6, nJ_tn (by omega)]; exact e16) (by omega) (by decide) ?_
      refine Ok.wr (fun M4 q4 => ?_)
      rw [q4]
      exact go _ (hM.up (Or.inr (Or.inl rfl)))
  have loop2 : ∀ n i M, RT G K c M → i ≤ 6 → 6 - i < n → Ok (fun a => RT G (K + 6) c a.2) (l_R_formedBlock_2 j_R_formedBlock_52 n (nJ b) (nJ f) (nJ i) M) := by
    intro n
    induction n with
    | zero => intro i M _ h1 h2; omega
    | succ n ih =>
      intro i M hM hi hn
      unfold l_R_formedBlock_2
      refine Ok.leN (a := 6) (by omega) (by omega) (fun q => ?_) (fun q => ?_)
      · unfold j_R_formedBlock_52
        exact loop54 FU 0 M hM (by omega) (by unfold FU; omega)
      refine Ok.okN (by omega) (by decide) ?_
      rw [nJ_tn (i := b) (by omega)]
      have go : ∀ s M2, RT G K c M2 → Ok (fun a => RT G (K + 6) c a.2) (j_R_formedBlock_45 (l_R_formedBlock_2 j_R_formedBlock_52 n) j_R_formedBlock_52 s (nJ i) (nJ b) (nJ f) (nJ i) M2) := fun s M2 h2 => by
        unfold j_R_formedBlock_45
        refine Ok.okN (by omega) (by decide) ?_
        rw [nJ_succ (by omega)]
        refine Ok.wr (fun M4 q4 => ?_)
        rw [q4]
        exact ih (i + 1) _ (h2.up (Or.inr (Or.inr rfl))) (by omega) (by omega)
      refine Ok.has (by omega) (fun g => ?_) (fun g => go 0 M hM)
      dsimp only
      have e6 : 6 * nJ f + nJ i = nJ (6 * f + i) := by rw [nJ_mul6 (by omega), nJ_add (by omega)]
      refine Ok.okE e6 (by omega) (by decide) ?_
      obtain ⟨m, m1, m2, _⟩ := hNf.cur i (by omega)
      rw [e6, nJ_tn (by omega), hM.fr.1 21 (by decide) (by decide), m2]
      obtain ⟨r, hr, _⟩ := value_eq (M := M) (n := m) (by omega)
      rw [hr]
      refine Ok.bindS ?_
      exact go r M hM
  unfold m_R_formedBlock
  exact loop2 FU 0 M h (by omega) (by unfold FU; omega)
theorem r_behind {G M : Sto} {B N K c b : Nat} {v : Int32} (hP : PF G B) (hX : RB G B N) (hb : b < B) (hv : v = 0 → bt (G 0 27) b = true) (h : RT G K c M) :
    Ok (fun a => a.2 = M ∧ (a.1 = -1 ∨ ∃ d, d < B ∧ a.1 = nJ d ∧ (v = 0 → bt (G 0 27) d = true))) (m_R_behind (nJ b) v M) := by
  have hB := hP.hB
  have hhi := hX.hi
  have e6 : M 6 = G 6 := h.fr.1 6 (by decide) (by decide)
  have e7 : M 7 = G 7 := h.fr.1 7 (by decide) (by decide)
  have e8 : M 8 = G 8 := h.fr.1 8 (by decide) (by decide)
  have e9 : M 9 = G 9 := h.fr.1 9 (by decide) (by decide)
  have e20 : M 20 = G 20 := h.fr.1 20 (by decide) (by decide)
  have e24 : M 24 = G 24 := h.fr.1 24 (by decide) (by decide)
  have e25 : M 25 = G 25 := h.fr.1 25 (by decide) (by decide)
  have bitl : ∀ d, d < B → ∀ b', b' < B → bt (1 <<< (nJ d &&& 31)) d = true := fun d hd _ _ => by rw [bt_shl (by omega) d (by omega)]; exact decide_eq_true rfl
  unfold m_R_behind
  refine Ok.okN (by omega) (by decide) ?_
  rw [nJ_tn (i := b) (by omega)]
  refine Ok.ifE (fun z0 => ⟨(-1, M), rfl, rfl, Or.inl rfl⟩) (fun z0 => ?_)
  refine Ok.okN (by omega) (by decide) ?_
  rw [e6] at z0
  refine Ok.ifE (fun z1 => ?_) (fun z1 => ?_)
  · refine Ok.okN (by omega) (by decide) ?_
    rw [e6] at z1
    rcases hP.fin b hb with y | ⟨y, d, d0, d1, d2⟩ | ⟨y, _⟩
    · exact absurd y z0
    · refine ⟨(_, M), rfl, rfl, Or.inr ⟨d, d1, by rw [e8]; exact d2, fun hv0 => ?_⟩⟩
      refine hX.nxt b d (by omega) (hv hv0) (by omega) ?_
      unfold wy lead
      rw [if_neg (by rw [y]; decide), if_neg z0, if_pos y, d2]
      exact bitl d d1 b hb
    · rw [y] at z1; exact absurd z1 (by decide)
  rw [e6] at z1
  have hfin : G 6 b = 2 ∧ (∃ t, 0 < t ∧ t < B ∧ G 8 b = nJ t) ∧ (∃ t, 0 < t ∧ t < B ∧ G 9 b = nJ t) ∧ ∃ w, w < 6 ∧ G 7 b = nJ w := by
    rcases hP.fin b hb with y | ⟨y, _⟩ | y
    · exact absurd y z0
    · exact absurd y z1
    · exact y
  obtain ⟨y2, ⟨d, d0, d1, d2⟩, ⟨u, u0, u1, u2⟩, w, w1, w2⟩ := hfin
  have fin : ∀ s, (v = 0 → s = 0 → bt (G 0 27) u = true) → (v = 0 → s ≠ 0 → bt (G 0 27) d = true) → Ok (fun a : Int32 × Sto => a.2 = M ∧ (a.1 = -1 ∨ ∃ d, d < B ∧ a.1 = nJ d ∧ (v = 0 → bt (G 0 27) d = true))) (j_R_behind_56 s (nJ b) M) := by
    intro s h1 h2
    unfold j_R_behind_56 j_R_behind_76
    rw [nJ_tn (i := b) (by omega)]
    refine Ok.ifE (fun q => ?_) (fun q => ?_)
    · refine Ok.okN (by omega) (by decide) ?_
      exact ⟨(_, M), rfl, rfl, Or.inr ⟨u, u1, by rw [e9]; exact u2, fun hv0 => h1 hv0 q⟩⟩
    · refine Ok.okN (by omega) (by decide) ?_
      exact ⟨(_, M), rfl, rfl, Or.inr ⟨d, d1, by rw [e8]; exact d2, fun hv0 => h2 hv0 q⟩⟩
  refine Ok.ifE (fun v0 => ?_) (fun v0 => ?_)
  · refine Ok.okN (by omega) (by decide) ?_
    have hc := hv v0
    obtain ⟨t, t1, t2, _⟩ := (hX.nb b (by omega) hc).2.ts y2
    rw [e20, t2]
    obtain ⟨r, hr, hr1⟩ := value_eq (M := M) (n := t) (by omega)
    rw [hr]
    refine Ok.bindS ?_
    dsimp only
    have hnz := hX.tnz b t (by omega) hc y2 (by omega) t2
    have hw : wy G b = (if G 24 t = 2 then lead G b else if G 25 t = 0 then 1 <<< ((G 9 b) &&& 31) else 1 <<< ((G 8 b) &&& 31)) := by
      unfold wy
      rw [if_pos y2, t2, tn_nJ (by omega), if_neg hnz]
    have hl : lead G b = (1 <<< ((G 8 b) &&& 31)) ||| (1 <<< ((G 9 b) &&& 31)) := by
      unfold lead
      rw [if_neg (by rw [y2]; decide), if_neg (by rw [y2]; decide)]
    refine fin r (fun _ hr0 => ?_) (fun _ hr0 => ?_)
    · refine hX.nxt b u (by omega) hc (by omega) ?_
      rw [hw]
      by_cases q2 : G 24 t = 2
      · rw [if_pos q2, hl, bt_or, u2, bitl u u1 b hb]; exact Bool.or_true _
      · rw [if_neg q2]
        have q1 : G 24 t = 1 := by
          rcases hX.st t with q | q | q
          · exact absurd q hnz
          · exact q
          · exact absurd q q2
        have : G 25 t = 0 := by rw [← hr0, hr1 (by rw [e24]; exact q1), e25]
        rw [if_pos this, u2]; exact bitl u u1 b hb
    · refine hX.nxt b d (by omega) hc (by omega) ?_
      rw [hw]
      by_cases q2 : G 24 t = 2
      · rw [if_pos q2, hl, bt_or, d2, bitl d d1 b hb]; rfl
      · rw [if_neg q2]
        have q1 : G 24 t = 1 := by
          rcases hX.st t with q | q | q
          · exact absurd q hnz
          · exact q
          · exact absurd q q2
        have : G 25 t ≠ 0 := by rw [← e25, ← hr1 (by rw [e24]; exact q1)]; exact hr0
        rw [if_neg this, d2]; exact bitl d d1 b hb
  · refine Ok.okN (by omega) (by decide) ?_
    refine Ok.okE (i := w) (by rw [e7]; exact w2) (by omega) (by decide) ?_
    exact fin _ (fun q => absurd q v0) (fun q => absurd q v0)
theorem r_run93 {P : Int32 × Sto → Prop} {k : Int32 → Sto → Option (Int32 × Sto)} {G : Sto} {B N st : Nat} {v : Int32} (hP : PF G B) (hX : RB G B N) (hst : st ≤ 200)
    (hk : ∀ x M, Fr [28, 29, 30] [34, 35, 37, 38] G M → Ok P (k x M)) :
    ∀ n c x f M, RT G (6 * c) c M → (x = -1 ∨ ∃ b, b < B ∧ x = nJ b ∧ (v = 0 → bt (G 0 27) b = true)) → f < B → (v = 0 → bt (G 0 27) f = true) → c ≤ st → st - c < n → Ok P (l_R_run_93 k n v (nJ st) x (nJ f) M) := by
  intro n
  have hB := hP.hB
  have n0 : (0 : Int32).toInt = 0 := rfl
  induction n with
  | zero => intro c x f M _ _ _ _ h1 h2; omega
  | succ n ih =>
    intro c x f M hM hx hf hcf hc hn
    unfold l_R_run_93
    rcases hx with hx | ⟨b, b1, b2, b3⟩
    · rw [hx]
      exact Ok.lt (fun _ => hk _ M hM.fr) (fun q => absurd q (by decide))
    rw [b2]
    have eb := nJ_int (i := b) (by omega)
    refine Ok.lt (fun q => by omega) (fun _ => ?_)
    rw [hM.s]
    refine Ok.leN (by omega) (by omega) (fun q => hk _ M hM.fr) (fun q => ?_)
    rw [nJ_succ (by omega)]
    refine Ok.wr (fun M7 q7 => ?_)
    have h7 : RT G (6 * c) (c + 1) M7 := by
      rw [q7]
      refine ⟨hM.fr.up0 (by decide), ?_, ?_, by rw [up2_at, if_pos ⟨rfl, rfl⟩]⟩
      · rw [up2_at, if_neg (fun z => absurd z.2 (by decide))]; exact hM.a
      · rw [up2_at, if_neg (fun z => absurd z.2 (by decide))]; exact hM.t
    have go : ∀ M8, RT G (6 * c + 6) (c + 1) M8 → Ok P (j_R_run_134 (l_R_run_93 k n) k v (nJ st) (nJ b) M8) := by
      intro M8 h8
      unfold j_R_run_134
      refine Ok.bind (r_behind hP hX b1 b3 h8) (fun r M9 h9 => ?_)
      dsimp only at h9 ⊢
      obtain ⟨e9, hr⟩ := h9
      subst e9
      exact ih (c + 1) r b M9 (h8.mono (by omega)) hr b1 b3 (by omega) (by omega)
    refine Ok.ifE (fun z => ?_) (fun z => ?_)
    · exact Ok.bind (r_formedBlock hP hX (by omega) (b3 z) (by omega) (hcf z) h7 (by omega)) (fun r M8 h8 => go M8 h8)
    · exact Ok.bind (r_plainBlock hP b1 h7 (by omega)) (fun r M8 h8 => go M8 h8)
theorem r_run68 {P : Int32 × Sto → Prop} {k : Int32 → Int32 → Sto → Option (Int32 × Sto)} {G : Sto} {v1 v2 : Int32}
    (hk : ∀ M, Fr [29] [] G M → Ok P (k v1 v2 M)) : ∀ n i M, Fr [29] [] G M → i ≤ 130 → 130 - i < n → Ok P (l_R_run_68 k n v1 v2 (nJ i) M) := by
  intro n
  induction n with
  | zero => intro i M _ h1 h2; omega
  | succ n ih =>
    intro i M hf hi hn
    unfold l_R_run_68
    refine Ok.leN (a := 130) (by omega) (by omega) (fun q => hk M hf) (fun q => ?_)
    refine Ok.okN (by omega) (by decide) ?_
    rw [nJ_succ (by omega)]
    refine Ok.wr (fun M1 q1 => ?_)
    exact ih (i + 1) M1 (by rw [q1]; exact hf.up (by decide) (by decide)) (by omega) (by omega)
theorem fails_eq (v x : Int32) (M : Sto) (hv : v = 0 ∨ v = 1) : m_R_fails v x M = some (v, up2 M 0 0 (if v = 0 then 0 else x)) := by
  have hbz : bz v = true := decide_eq_true hv
  unfold m_R_fails j_R_fails_10 wr
  by_cases h : v = 0
  · simp [h, show bz 0 = true from rfl]
  · simp [h, hbz]
theorem r_run {M : Sto} {B N : Nat} {x1 x2 : Int32} (hP : PF M B) (hX : M 0 11 ≠ 0 → 0 < B ∧ RB M B N) : Ok (fun a => Fr [28, 29, 30] [0, 34, 35, 37, 38] M a.2) (m_R_run x1 x2 M) := by
  have n0 : (0 : Int32).toInt = 0 := rfl
  have n200 : (200 : Int32).toInt = 200 := rfl
  have f0 : ∀ v, Fr [28, 29, 30] [0, 34, 35, 37, 38] M (up2 M 0 0 v) := fun v => Fr.rfl.up0 (by decide)
  have bad : Ok (fun a => Fr [28, 29, 30] [0, 34, 35, 37, 38] M a.2) (j_R_run_12 x1 x2 M) := by
    unfold j_R_run_12 j_R_run_17 j_R_run_44
    rw [fails_eq _ _ _ (Or.inr rfl)]
    refine Ok.bindS ?_
    dsimp only
    rw [if_neg (by decide)]
    exact ⟨(0, _), rfl, f0 _⟩
  unfold m_R_run
  refine Ok.lt (fun _ => bad) (fun q1 => ?_)
  refine Ok.le (fun q2 => ?_) (fun _ => bad)
  unfold j_R_run_17
  rw [fails_eq _ _ _ (Or.inl rfl)]
  refine Ok.bindS ?_
  dsimp only
  rw [if_pos rfl]
  have e11 : up2 M 0 0 (if (0 : Int32) = 0 then 0 else 1) 0 11 = M 0 11 := by rw [up2_at, if_neg (fun z => absurd z.2 (by decide))]
  refine Ok.ifE (fun z => ?_) (fun z => ?_)
  · unfold j_R_run_37 j_R_run_44
    rw [fails_eq _ _ _ (Or.inr rfl)]
    refine Ok.bindS ?_
    dsimp only
    rw [if_neg (by decide)]
    exact ⟨(0, _), rfl, (f0 _).up0 (by decide)⟩
  · rw [e11] at z
    obtain ⟨h0, hRB⟩ := hX z
    unfold j_R_run_37
    rw [fails_eq _ _ _ (Or.inl rfl)]
    refine Ok.bindS ?_
    dsimp only
    rw [if_pos rfl]
    refine Ok.wr (fun M3 q3 => ?_)
    refine Ok.wr (fun M4 q4 => ?_)
    refine Ok.wr (fun M5 q5 => ?_)
    refine Ok.wr (fun M6 q6 => ?_)
    have f6 : Fr [28, 29, 30] [0, 34, 35, 37, 38] M M6 := by
      rw [q6, q5, q4, q3]
      exact (((((f0 _).up0 (by decide)).up0 (by decide)).up0 (by decide)).up0 (by decide)).up0 (by decide)
    have hP6 : PF M6 B := hP.fr (f6.mono (by decide) (by decide))
    have hX6 : RB M6 B N := hRB.fr hP (f6.mono (by decide) (by decide))
    have e34 : M6 0 34 = nJ 0 := by rw [q6, up2_at, if_pos ⟨rfl, rfl⟩]; rfl
    have e37 : M6 0 37 = nJ 0 := by
      rw [q6, up2_at, if_neg (fun z => absurd z.2 (by decide)), q5, up2_at, if_neg (fun z => absurd z.2 (by decide)), q4, up2_at, if_pos ⟨rfl, rfl⟩]; rfl
    have e35 : M6 0 35 = nJ 0 := by
      rw [q6, up2_at, if_neg (fun z => absurd z.2 (by decide)), q5, up2_at, if_neg (fun z => absurd z.2 (by decide)), q4, up2_at, if_neg (fun z => absurd z.2 (by decide)), q3, up2_at, if_pos ⟨rfl, rfl⟩]; rfl
    have hst : x2 = nJ x2.toNatClampNeg := nJ_of (by omega)
    have hts := tn_eq (i := x2) (by omega)
    rw [hst]
    refine r_run68 (fun M7 f7 => ?_) FU 0 M6 Fr.rfl (by omega) (by unfold FU; omega)
    unfold j_R_run_88
    have hB := hP.hB
    refine r_run93 (G := M6) (B := B) (N := N) hP6 hX6 (by omega) (fun x M8 f8 => ?_) FU 0 0 0 M7 ⟨f7.mono (by decide) (by decide), ⟨0, by omega, by rw [f7.2 34 (by decide)]; exact e34⟩, ⟨0, by omega, by rw [f7.2 35 (by decide)]; exact e35⟩, by rw [f7.2 37 (by decide)]; exact e37⟩ (Or.inr ⟨0, h0, rfl, fun _ => hX6.z⟩) h0 (fun _ => hX6.z) (by omega) (by unfold FU; omega)
    have f9 := f6.trans (f8.mono (L' := [28, 29, 30]) (L0' := [0, 34, 35, 37, 38]) (by decide) (by decide))
    unfold j_R_run_147 j_R_run_156
    exact Ok.le (fun _ => ⟨(1, M8), rfl, f9⟩) (fun _ => ⟨(0, M8), rfl, f9⟩)
end
section
def IR (M : Sto) (B N : Nat) : Prop := (PF M B) ∧ (N ≤ 126) ∧ (M 0 17 = nJ N) ∧ (∀ n, 130 ≤ n → M 24 n = 0 ∧ M 25 n = 0) ∧ (M 0 11 ≠ 0 → 0 < B ∧ RB M B N)
theorem IR.pf {M : Sto} {B N : Nat} (h : IR M B N) : PF M B := h.1
theorem IR.hi {M : Sto} {B N : Nat} (h : IR M B N) : N ≤ 126 := h.2.1
theorem IR.num {M : Sto} {B N : Nat} (h : IR M B N) : M 0 17 = nJ N := h.2.2.1
theorem IR.out {M : Sto} {B N : Nat} (h : IR M B N) : ∀ n, 130 ≤ n → M 24 n = 0 ∧ M 25 n = 0 := h.2.2.2.1
theorem IR.blt {M : Sto} {B N : Nat} (h : IR M B N) : M 0 11 ≠ 0 → 0 < B ∧ RB M B N := h.2.2.2.2
def QL : List Nat := [27, 28, 29, 30]
def QL0 : List Nat := [0, 34, 35, 37, 38]
theorem IR.fr {M M' : Sto} {B N : Nat} (h : IR M B N) (f : Fr [28, 29, 30] QL0 M M') : IR M' B N := by
  refine ⟨h.pf.fr (f.mono (by decide) (by decide)), h.hi, by rw [f.2 17 (by decide)]; exact h.num, by rw [f.1 24 (by decide) (by decide), f.1 25 (by decide) (by decide)]; exact h.out, fun q => ?_⟩
  rw [f.2 11 (by decide)] at q
  exact ⟨(h.blt q).1, (h.blt q).2.fr h.pf (f.mono (by decide) (by decide))⟩
theorem IR.new {M M' : Sto} {B B' N : Nat} (h : IR M B N) (hP : PF M' B') (e17 : M' 0 17 = M 0 17) (e24 : M' 24 = M 24) (e25 : M' 25 = M 25) (e11 : M' 0 11 = 0) : IR M' B' N :=
  ⟨hP, h.hi, e17.trans h.num, by rw [e24, e25]; exact h.out, fun q => absurd e11 q⟩
def hasB (B : Nat) (x : Int32) : Prop := 0 ≤ x.toInt ∧ x.toInt < (B : Int)
theorem hasB.nat {B : Nat} {x : Int32} (h : hasB B x) : ∃ b, b < B ∧ x = nJ b := by
  have := tn_eq h.1
  exact ⟨x.toNatClampNeg, by have := h.2; omega, nJ_of h.1⟩
theorem noBlock_eq {M : Sto} {B : Nat} {x : Int32} (h : M 0 1 = nJ B) (hB : B ≤ 10) : m_R_noBlock x M = some (@ite Int32 (hasB B x) (Classical.propDecidable _) 0 1, M) := by
  unfold m_R_noBlock j_R_noBlock_12 j_R_noBlock_17
  have e := nJ_int (i := B) (by omega)
  rw [h]
  by_cases h1 : x < 0
  · have h2 : ¬ hasB B x := fun q => by
      have := Int32.lt_iff_toInt_lt.mp h1
      have n0 : (0 : Int32).toInt = 0 := rfl
      have := q.1; omega
    rw [if_pos h1, if_neg h2]; rfl
  · have h1' : ¬ x.toInt < (0 : Int32).toInt := fun q => h1 (Int32.lt_iff_toInt_lt.mpr q)
    have n0 : (0 : Int32).toInt = 0 := rfl
    rw [if_neg h1]
    by_cases h3 : x < nJ B
    · have := Int32.lt_iff_toInt_lt.mp h3
      have h2 : hasB B x := ⟨by omega, by omega⟩
      rw [if_pos h3, if_pos h2]; rfl
    · have h3' : ¬ x.toInt < (nJ B).toInt := fun q => h3 (Int32.lt_iff_toInt_lt.mpr q)
      have h2 : ¬ hasB B x := fun q => by have := q.2; omega
      rw [if_neg h3, if_neg h2]; rfl
theorem noTarget_eq {M : Sto} {B : Nat} {x : Int32} (h : M 0 1 = nJ B) (hB : B ≤ 10) : m_R_noTarget x M = some (@ite Int32 (hasB B x ∧ x ≠ 0) (Classical.propDecidable _) 0 1, M) := by
  unfold m_R_noTarget j_R_noTarget_13 j_R_noTarget_18
  have e := nJ_int (i := B) (by omega)
  have n0 : (0 : Int32).toInt = 0 := rfl
  have n1 : (1 : Int32).toInt = 1 := rfl
  rw [h]
  by_cases h1 : x < 1
  · have := Int32.lt_iff_toInt_lt.mp h1
    have h2 : ¬ (hasB B x ∧ x ≠ 0) := fun q => by
      have := q.1.1
      exact q.2 (Int32.toInt_inj.mp (by omega))
    rw [if_pos h1, if_neg h2]; rfl
  · have h1' : ¬ x.toInt < (1 : Int32).toInt := fun q => h1 (Int32.lt_iff_toInt_lt.mpr q)
    rw [if_neg h1]
    by_cases h3 : x < nJ B
    · have := Int32.lt_iff_toInt_lt.mp h3
      have h2 : hasB B x ∧ x ≠ 0 := ⟨⟨by omega, by omega⟩, fun q => by rw [q] at h1'; omega⟩
      rw [if_pos h3, if_pos h2]; rfl
    · have h3' : ¬ x.toInt < (nJ B).toInt := fun q => h3 (Int32.lt_iff_toInt_lt.mpr q)
      have h2 : ¬ (hasB B x ∧ x ≠ 0) := fun q => by have := q.1.2; omega
      rw [if_neg h3, if_neg h2]; rfl
theorem noVar_eq {M : Sto} {x : Int32} : m_R_noVariable x M = some (@ite Int32 (hasB 6 x) (Classical.propDecidable _) 0 1, M) := by
  unfold m_R_noVariable j_R_noVariable_9 j_R_noVariable_14
  have n0 : (0 : Int32).toInt = 0 := rfl
  have n5 : (5 : Int32).toInt = 5 := rfl
  by_cases h1 : x < 0
  · have := Int32.lt_iff_toInt_lt.mp h1
    have h2 : ¬ hasB 6 x := fun q => by have := q.1; omega
    rw [if_pos h1, if_neg h2]; rfl
  · have h1' : ¬ x.toInt < (0 : Int32).toInt := fun q => h1 (Int32.lt_iff_toInt_lt.mpr q)
    rw [if_neg h1]
    by_cases h3 : x ≤ 5
    · have := Int32.le_iff_toInt_le.mp h3
      have h2 : hasB 6 x := ⟨by omega, by omega⟩
      rw [if_pos h3, if_pos h2]; rfl
    · have h3' : ¬ x.toInt ≤ (5 : Int32).toInt := fun q => h3 (Int32.le_iff_toInt_le.mpr q)
      have h2 : ¬ hasB 6 x := fun q => by have := q.2; omega
      rw [if_neg h3, if_neg h2]; rfl
def Ref (M : Sto) (e : Int32) (x : Option (Int32 × Sto)) : Prop := ∃ M', x = some (0, M') ∧ M' 0 0 = e ∧ Fr [] [0] M M'
theorem up0_at (M : Sto) (v : Int32) : up2 M 0 0 v 0 0 = v := by rw [up2_at, if_pos ⟨rfl, rfl⟩]
theorem up0_fr (M : Sto) (v : Int32) : Fr [] [0] M (up2 M 0 0 v) := Fr.rfl.up0 (by decide)
theorem R_block {M : Sto} {B N : Nat} (h : IR M B N) : (B = 10 ∧ Ref M 1 (m_R_block M)) ∨ (B < 10 ∧ ∃ M', m_R_block M = some (nJ B, M') ∧ M' 0 0 = 0 ∧ IR M' (B + 1) N ∧ M' 0 1 = nJ (B + 1) ∧ M' 1 = upd (M 1) B 0 ∧ M' 0 32 = M 0 32) := by
  have hB := h.pf.hB
  have hb := h.pf.blk
  by_cases z : B = 10
  · refine Or.inl ⟨z, up2 M 0 0 1, ?_, up0_at M 1, up0_fr M 1⟩
    unfold m_R_block j_R_block_15
    rw [hb, z, if_pos (by decide), fails_eq _ _ _ (Or.inr rfl)]
    rfl
  · refine Or.inr ⟨by omega, ?_⟩
    have hne : nJ B ≠ 10 := fun q => z (nJ_inj (i := B) (j := 10) (by omega) (by omega) q)
    have g : Ok (fun a : Int32 × Sto => a.1 = nJ B ∧ a.2 0 0 = 0 ∧ IR a.2 (B + 1) N ∧ a.2 0 1 = nJ (B + 1) ∧ a.2 1 = upd (M 1) B 0 ∧ a.2 0 32 = M 0 32) (m_R_block M) := by
      unfold m_R_block j_R_block_15
      rw [hb, if_neg hne, fails_eq _ _ _ (Or.inl rfl)]
      refine Ok.bindS ?_
      dsimp only
      rw [if_pos rfl]
      have e1 : up2 M 0 0 (if (0 : Int32) = 0 then 0 else 1) 0 1 = nJ B := by rw [up2_at, if_neg (fun q => absurd q.2 (by decide))]; exact hb
      refine Ok.okE e1 (by omega) (by decide) ?_
      rw [e1, nJ_tn (by omega)]
      refine Ok.wr (fun M2 q2 => ?_)
      have e2 : M2 0 1 = nJ B := by rw [q2, up2_ne _ _ _ (by decide)]; exact e1
      rw [e2, nJ_tn (by omega)]
      refine Ok.okN (by omega) (by decide) ?_
      refine Ok.wr (fun M3 q3 => ?_)
      have e3 : M3 0 1 = nJ B := by rw [q3, up2_ne _ _ _ (by decide)]; exact e2
      rw [e3, nJ_succ (by omega)]
      refine Ok.wr (fun M4 q4 => ?_)
      refine Ok.bzt (Or.inl rfl) ?_
      refine Ok.wr (fun M5 q5 => ?_)
      have c0 : ∀ j, j ≠ 0 → j ≠ 1 → j ≠ 11 → M5 0 j = M 0 j := fun j h0 h1 h2 => by
        rw [q5, up2_at, if_neg (fun q => h2 q.2), q4, up2_at, if_neg (fun q => h1 q.2), q3, up2_ne _ _ _ (by decide), q2, up2_ne _ _ _ (by decide), up2_at, if_neg (fun q => h0 q.2)]
      have c1 : M5 0 1 = nJ (B + 1) := by rw [q5, up2_at, if_neg (fun q => absurd q.2 (by decide)), q4, up2_at, if_pos ⟨rfl, rfl⟩]
      have c11 : M5 0 11 = 0 := by rw [q5, up2_at, if_pos ⟨rfl, rfl⟩]
      have c00 : M5 0 0 = 0 := by
        rw [q5, up2_at, if_neg (fun q => absurd q.2 (by decide)), q4, up2_at, if_neg (fun q => absurd q.2 (by decide)), q3, up2_ne _ _ _ (by decide), q2, up2_ne _ _ _ (by decide), up0_at]; rfl
      have cl : M5 1 = upd (M 1) B 0 := by
        rw [q5, up2_ne _ _ _ (by decide), q4, up2_ne _ _ _ (by decide), q3, up2_ne _ _ _ (by decide), q2, up2_self, up2_ne _ _ _ (by decide)]
      have c6 : M5 6 = upd (M 6) B 0 := by
        rw [q5, up2_ne _ _ _ (by decide), q4, up2_ne _ _ _ (by decide), q3, up2_self, q2, up2_ne _ _ _ (by decide), up2_ne _ _ _ (by decide)]
      have ck : ∀ k, k ≠ 0 → k ≠ 1 → k ≠ 6 → M5 k = M k := fun k h0 h1 h6 => by
        rw [q5, up2_ne _ _ _ h0, q4, up2_ne _ _ _ h0, q3, up2_ne _ _ _ h6, q2, up2_ne _ _ _ h1, up2_ne _ _ _ h0]
      have e5 : nJ (B + 1) - 1 = nJ B := by
        apply Int32.toInt_inj.mp
        have n1 : (1 : Int32).toInt = 1 := rfl
        have h1 := nJ_int (i := B + 1) (by omega)
        rw [subI (by omega) (by omega), nJ_int (i := B) (by omega)]; omega
      rw [c1, e5]
      refine ⟨(nJ B, M5), rfl, rfl, c00, h.new ?_ (c0 17 (by decide) (by decide) (by decide)) (ck 24 (by decide) (by decide) (by decide)) (ck 25 (by decide) (by decide) (by decide)) c11, c1, cl, c0 32 (by decide) (by decide) (by decide)⟩
      show PF M5 (B + 1)
      obtain ⟨a1, a2, a3, a4, a5, a6, a7, a8, a9⟩ := h.pf
      refine ⟨by omega, c1, fun b hb' => ?_, fun b hb' => ?_, by rw [ck 2 (by decide) (by decide) (by decide)]; exact a5, by rw [ck 2 (by decide) (by decide) (by decide), ck 3 (by decide) (by decide) (by decide)]; exact a6, by rw [ck 2 (by decide) (by decide) (by decide), ck 4 (by decide) (by decide) (by decide)]; exact a7, by rw [ck 2 (by decide) (by decide) (by decide), ck 5 (by decide) (by decide) (by decide)]; exact a8, by rw [c0 32 (by decide) (by decide) (by decide)]; exact a9⟩
      · rw [cl, upd_at]
        by_cases y : b = B
        · rw [if_pos y]; exact ⟨0, by omega, rfl⟩
        · rw [if_neg y]; exact a3 b hb'
      · rw [c6, upd_at, ck 7 (by decide) (by decide) (by decide), ck 8 (by decide) (by decide) (by decide), ck 9 (by decide) (by decide) (by decide)]
        by_cases y : b = B
        · rw [if_pos y]; exact Or.inl rfl
        · rw [if_neg y]
          rcases a4 b (by omega) with x | ⟨x, t, t0, t1, t2⟩ | ⟨x, ⟨t, t0, t1, t2⟩, ⟨u, u0, u1, u2⟩, w⟩
          · exact Or.inl x
          · exact Or.inr (Or.inl ⟨x, t, t0, by omega, t2⟩)
          · exact Or.inr (Or.inr ⟨x, ⟨t, t0, by omega, t2⟩, ⟨u, u0, by omega, u2⟩, w⟩)
    obtain ⟨⟨r, M'⟩, g0, g1, g2⟩ := g
    have g1 : r = nJ B := g1
    subst g1
    exact ⟨M', g0, g2⟩
theorem PF.fin1 {M M' : Sto} {B b0 : Nat} (h : PF M B) (f : Fr [6, 7, 8, 9] [0, 11] M M') (ho : ∀ b, b ≠ b0 → M' 6 b = M 6 b ∧ M' 7 b = M 7 b ∧ M' 8 b = M 8 b ∧ M' 9 b = M 9 b)
    (hb : M' 6 b0 = 0 ∨ (M' 6 b0 = 1 ∧ ∃ t, 0 < t ∧ t < B ∧ M' 8 b0 = nJ t) ∨ (M' 6 b0 = 2 ∧ (∃ t, 0 < t ∧ t < B ∧ M' 8 b0 = nJ t) ∧ (∃ t, 0 < t ∧ t < B ∧ M' 9 b0 = nJ t) ∧ (∃ v, v < 6 ∧ M' 7 b0 = nJ v))) : PF M' B := by
  obtain ⟨a1, a2, a3, a4, a5, a6, a7, a8, a9⟩ := h
  have ck : ∀ k, k ≠ 0 → k ∉ [6, 7, 8, 9] → M' k = M k := f.1
  refine ⟨a1, by rw [f.2 1 (by decide)]; exact a2, by rw [ck 1 (by decide) (by decide)]; exact a3, fun b hb' => ?_, by rw [ck 2 (by decide) (by decide)]; exact a5, by rw [ck 2 (by decide) (by decide), ck 3 (by decide) (by decide)]; exact a6, by rw [ck 2 (by decide) (by decide), ck 4 (by decide) (by decide)]; exact a7, by rw [ck 2 (by decide) (by decide), ck 5 (by decide) (by decide)]; exact a8, by rw [f.2 32 (by decide)]; exact a9⟩
  by_cases z : b = b0
  · rw [z]; exact hb
  · obtain ⟨o1, o2, o3, o4⟩ := ho b z
    rw [o1, o2, o3, o4]; exact a4 b hb'
def Dn (M : Sto) (B N : Nat) (x : Option (Int32 × Sto)) : Prop := ∃ M', x = some (0, M') ∧ M' 0 0 = 0 ∧ IR M' B N ∧ M' 0 1 = M 0 1 ∧ M' 1 = M 1 ∧ M' 0 32 = M 0 32
theorem hasB_ne {B : Nat} {x : Int32} (h : hasB B x ∧ x ≠ 0) : ∃ t, 0 < t ∧ t < B ∧ x = nJ t := by
  obtain ⟨t, t1, t2⟩ := h.1.nat
  refine ⟨t, ?_, t1, t2⟩
  apply Nat.pos_of_ne_zero
  intro z
  rw [z] at t2
  exact h.2 t2
theorem up00 (M : Sto) (v : Int32) (j : Nat) (h : j ≠ 0) : up2 M 0 0 v 0 j = M 0 j := by rw [up2_at, if_neg (fun q => h q.2)]
theorem R_go {M : Sto} {B N : Nat} {x1 x2 : Int32} (h : IR M B N) : ((hasB B x1 ∧ hasB B x2 ∧ x2 ≠ 0) ∧ Dn M B N (m_R_go x1 x2 M)) ∨ (¬ (hasB B x1 ∧ hasB B x2 ∧ x2 ≠ 0) ∧ Ref M 1 (m_R_go x1 x2 M)) := by
  have hB := h.pf.hB
  have hb := h.pf.blk
  have bad : Ref M 1 (j_R_go_22 1 x1 x2 M) := by
    refine ⟨up2 M 0 0 1, ?_, up0_at M 1, up0_fr M 1⟩
    unfold j_R_go_22
    rw [fails_eq _ _ _ (Or.inr rfl)]; rfl
  unfold m_R_go j_R_go_17
  rw [noBlock_eq hb hB]
  by_cases c1 : hasB B x1
  · rw [if_pos c1]
    show (_ ∧ Dn M B N ((m_R_noTarget x2 M).bind _)) ∨ (_ ∧ Ref M 1 ((m_R_noTarget x2 M).bind _))
    rw [noTarget_eq hb hB]
    by_cases c2 : hasB B x2 ∧ x2 ≠ 0
    · rw [if_pos c2]
      refine Or.inl ⟨⟨c1, c2⟩, ?_⟩
      show Dn M B N (j_R_go_22 0 x1 x2 M)
      obtain ⟨b, b1, b2⟩ := c1.nat
      obtain ⟨t, t0, t1, t2⟩ := hasB_ne c2
      subst b2
      subst t2
      have g : Ok (fun a : Int32 × Sto => a.1 = 0 ∧ a.2 0 0 = 0 ∧ IR a.2 B N ∧ a.2 0 1 = M 0 1 ∧ a.2 1 = M 1 ∧ a.2 0 32 = M 0 32) (j_R_go_22 0 (nJ b) (nJ t) M) := by
        unfold j_R_go_22
        rw [fails_eq _ _ _ (Or.inl rfl)]
        refine Ok.bindS ?_
        dsimp only
        rw [if_pos rfl]
        refine Ok.okN (by omega) (by decide) ?_
        rw [nJ_tn (by omega)]
        refine Ok.wr (fun M3 q3 => ?_)
        refine Ok.okN (by omega) (by decide) ?_
        refine Ok.wr (fun M4 q4 => ?_)
        refine Ok.bzt (Or.inl rfl) ?_
        refine Ok.wr (fun M5 q5 => ?_)
        have f5 : Fr [6, 7, 8, 9] [0, 11] M M5 := by
          rw [q5, q4, q3]
          exact ((((Fr.rfl.up0 (by decide)).up (by decide) (by decide)).up (by decide) (by decide)).up0 (by decide))
        have c6 : ∀ a, M5 6 a = if a = b then 1 else M 6 a := fun a => by
          rw [q5, up2_ne _ _ _ (by decide), q4, up2_ne _ _ _ (by decide), q3, up2_at]
          by_cases y : a = b
          · rw [if_pos ⟨rfl, y⟩, if_pos y]
          · rw [if_neg (fun q => y q.2), if_neg y, up2_ne _ _ _ (by decide)]
        have c8 : ∀ a, M5 8 a = if a = b then nJ t else M 8 a := fun a => by
          rw [q5, up2_ne _ _ _ (by decide), q4, up2_at]
          by_cases y : a = b
          · rw [if_pos ⟨rfl, y⟩, if_pos y]
          · rw [if_neg (fun q => y q.2), if_neg y, q3, up2_ne _ _ _ (by decide), up2_ne _ _ _ (by decide)]
        have c7 : M5 7 = M 7 := by rw [q5, up2_ne _ _ _ (by decide), q4, up2_ne _ _ _ (by decide), q3, up2_ne _ _ _ (by decide), up2_ne _ _ _ (by decide)]
        have c9 : M5 9 = M 9 := by rw [q5, up2_ne _ _ _ (by decide), q4, up2_ne _ _ _ (by decide), q3, up2_ne _ _ _ (by decide), up2_ne _ _ _ (by decide)]
        refine ⟨(0, M5), rfl, rfl, ?_, h.new (h.pf.fin1 (b0 := b) f5 (fun a ha => ?_) (Or.inr (Or.inl ⟨?_, t, t0, t1, ?_⟩))) (f5.2 17 (by decide)) (f5.1 24 (by decide) (by decide)) (f5.1 25 (by decide) (by decide)) ?_, f5.2 1 (by decide), f5.1 1 (by decide) (by decide), f5.2 32 (by decide)⟩
        · show M5 0 0 = 0
          rw [q5, up2_at, if_neg (fun q => absurd q.2 (by decide)), q4, up2_ne _ _ _ (by decide), q3, up2_ne _ _ _ (by decide), up0_at]; rfl
        · show M5 6 a = M 6 a ∧ M5 7 a = M 7 a ∧ M5 8 a = M 8 a ∧ M5 9 a = M 9 a
          rw [c6, if_neg ha, c8, if_neg ha, c7, c9]; exact ⟨rfl, rfl, rfl, rfl⟩
        · show M5 6 b = 1
          rw [c6, if_pos rfl]
        · show M5 8 b = nJ t
          rw [c8, if_pos rfl]
        · show M5 0 11 = 0
          rw [q5, up2_at, if_pos ⟨rfl, rfl⟩]
      obtain ⟨⟨r, M'⟩, g0, g1, g2⟩ := g
      have g1 : r = 0 := g1
      subst g1
      exact ⟨M', g0, g2⟩
    · rw [if_neg c2]
      exact Or.inr ⟨fun q => c2 q.2, bad⟩
  · rw [if_neg c1]
    exact Or.inr ⟨fun q => c1 q.1, bad⟩
theorem R_fork {M : Sto} {B N : Nat} {x1 x2 x3 x4 : Int32} (h : IR M B N) : ((hasB B x1 ∧ hasB 6 x2 ∧ (hasB B x3 ∧ x3 ≠ 0) ∧ (hasB B x4 ∧ x4 ≠ 0)) ∧ Dn M B N (m_R_fork x1 x2 x3 x4 M)) ∨ (¬ (hasB B x1 ∧ hasB 6 x2 ∧ (hasB B x3 ∧ x3 ≠ 0) ∧ (hasB B x4 ∧ x4 ≠ 0)) ∧ Ref M 1 (m_R_fork x1 x2 x3 x4 M)) := by
  have hB := h.pf.hB
  have hb := h.pf.blk
  have bad : Ref M 1 (j_R_fork_38 1 x1 x2 x3 x4 M) := by
    refine ⟨up2 M 0 0 1, ?_, up0_at M 1, up0_fr M 1⟩
    unfold j_R_fork_38
    rw [fails_eq _ _ _ (Or.inr rfl)]; rfl
  unfold m_R_fork j_R_fork_33
  rw [noBlock_eq hb hB]
  by_cases c1 : hasB B x1
  · rw [if_pos c1]
    show (_ ∧ Dn M B N ((m_R_noVariable x2 M).bind _)) ∨ (_ ∧ Ref M 1 ((m_R_noVariable x2 M).bind _))
    rw [noVar_eq]
    by_cases c2 : hasB 6 x2
    · rw [if_pos c2]
      show (_ ∧ Dn M B N ((m_R_noTarget x3 M).bind _)) ∨ (_ ∧ Ref M 1 ((m_R_noTarget x3 M).bind _))
      rw [noTarget_eq hb hB]
      by_cases c3 : hasB B x3 ∧ x3 ≠ 0
      · rw [if_pos c3]
        show (_ ∧ Dn M B N ((m_R_noTarget x4 M).bind _)) ∨ (_ ∧ Ref M 1 ((m_R_noTarget x4 M).bind _))
        rw [noTarget_eq hb hB]
        by_cases c4 : hasB B x4 ∧ x4 ≠ 0
        · rw [if_pos c4]
          refine Or.inl ⟨⟨c1, c2, c3, c4⟩, ?_⟩
          show Dn M B N (j_R_fork_38 0 x1 x2 x3 x4 M)
          obtain ⟨b, b1, b2⟩ := c1.nat
          obtain ⟨w, w1, w2⟩ := c2.nat
          obtain ⟨t, t0, t1, t2⟩ := hasB_ne c3
          obtain ⟨u, u0, u1, u2⟩ := hasB_ne c4
          subst b2
          subst t2
          subst u2
          subst w2
          have g : Ok (fun a : Int32 × Sto => a.1 = 0 ∧ a.2 0 0 = 0 ∧ IR a.2 B N ∧ a.2 0 1 = M 0 1 ∧ a.2 1 = M 1 ∧ a.2 0 32 = M 0 32) (j_R_fork_38 0 (nJ b) (nJ w) (nJ t) (nJ u) M) := by
            unfold j_R_fork_38
            rw [fails_eq _ _ _ (Or.inl rfl)]
            refine Ok.bindS ?_
            dsimp only
            rw [if_pos rfl]
            refine Ok.okN (by omega) (by decide) ?_
            rw [nJ_tn (i := b) (by omega)]
            refine Ok.wr (fun M3 q3 => ?_)
            refine Ok.okN (by omega) (by decide) ?_
            refine Ok.wr (fun M4 q4 => ?_)
            refine Ok.okN (by omega) (by decide) ?_
            refine Ok.wr (fun M5 q5 => ?_)
            refine Ok.okN (by omega) (by decide) ?_
            refine Ok.wr (fun M6 q6 => ?_)
            refine Ok.bzt (Or.inl rfl) ?_
            refine Ok.wr (fun M7 q7 => ?_)
            have f7 : Fr [6, 7, 8, 9] [0, 11] M M7 := by
              rw [q7, q6, q5, q4, q3]
              exact ((((((Fr.rfl.up0 (by decide)).up (by decide) (by decide)).up (by decide) (by decide)).up (by decide) (by decide)).up (by decide) (by decide)).up0 (by decide))
            have c6 : ∀ a, M7 6 a = if a = b then 2 else M 6 a := fun a => by
              rw [q7, up2_ne _ _ _ (by decide), q6, up2_ne _ _ _ (by decide), q5, up2_ne _ _ _ (by decide), q4, up2_ne _ _ _ (by decide), q3, up2_at]
              by_cases y : a = b
              · rw [if_pos ⟨rfl, y⟩, if_pos y]
              · rw [if_neg (fun q => y q.2), if_neg y, up2_ne _ _ _ (by decide)]
            have c7 : ∀ a, M7 7 a = if a = b then nJ w else M 7 a := fun a => by
              rw [q7, up2_ne _ _ _ (by decide), q6, up2_ne _ _ _ (by decide), q5, up2_ne _ _ _ (by decide), q4, up2_at]
              by_cases y : a = b
              · rw [if_pos ⟨rfl, y⟩, if_pos y]
              · rw [if_neg (fun q => y q.2), if_neg y, q3, up2_ne _ _ _ (by decide), up2_ne _ _ _ (by decide)]
            have c8 : ∀ a, M7 8 a = if a = b then nJ t else M 8 a := fun a => by
              rw [q7, up2_ne _ _ _ (by decide), q6, up2_ne _ _ _ (by decide), q5, up2_at]
              by_cases y : a = b
              · rw [if_pos ⟨rfl, y⟩, if_pos y]
              · rw [if_neg (fun q => y q.2), if_neg y, q4, up2_ne _ _ _ (by decide), q3, up2_ne _ _ _ (by decide), up2_ne _ _ _ (by decide)]
            have c9 : ∀ a, M7 9 a = if a = b then nJ u else M 9 a := fun a => by
              rw [q7, up2_ne _ _ _ (by decide), q6, up2_at]
              by_cases y : a = b
              · rw [if_pos ⟨rfl, y⟩, if_pos y]
              · rw [if_neg (fun q => y q.2), if_neg y, q5, up2_ne _ _ _ (by decide), q4, up2_ne _ _ _ (by decide), q3, up2_ne _ _ _ (by decide), up2_ne _ _ _ (by decide)]
            refine ⟨(0, M7), rfl, rfl, ?_, h.new (h.pf.fin1 (b0 := b) f7 (fun a ha => ?_) (Or.inr (Or.inr ⟨?_, ⟨t, t0, t1, ?_⟩, ⟨u, u0, u1, ?_⟩, w, w1, ?_⟩))) (f7.2 17 (by decide)) (f7.1 24 (by decide) (by decide)) (f7.1 25 (by decide) (by decide)) ?_, f7.2 1 (by decide), f7.1 1 (by decide) (by decide), f7.2 32 (by decide)⟩
            · show M7 0 0 = 0
              rw [q7, up2_at, if_neg (fun q => absurd q.2 (by decide)), q6, up2_ne _ _ _ (by decide), q5, up2_ne _ _ _ (by decide), q4, up2_ne _ _ _ (by decide), q3, up2_ne _ _ _ (by decide), up0_at]; rfl
            · show M7 6 a = M 6 a ∧ M7 7 a = M 7 a ∧ M7 8 a = M 8 a ∧ M7 9 a = M 9 a
              rw [c6, if_neg ha, c7, if_neg ha, c8, if_neg ha, c9, if_neg ha]; exact ⟨rfl, rfl, rfl, rfl⟩
            · show M7 6 b = 2
              rw [c6, if_pos rfl]
            · show M7 8 b = nJ t
              rw [c8, if_pos rfl]
            · show M7 9 b = nJ u
              rw [c9, if_pos rfl]
            · show M7 7 b = nJ w
              rw [c7, if_pos rfl]
            · show M7 0 11 = 0
              rw [q7, up2_at, if_pos ⟨rfl, rfl⟩]
          obtain ⟨⟨r, M'⟩, g0, g1, g2⟩ := g
          have g1 : r = 0 := g1
          subst g1
          exact ⟨M', g0, g2⟩
        · rw [if_neg c4]
          exact Or.inr ⟨fun q => c4 q.2.2.2, bad⟩
      · rw [if_neg c3]
        exact Or.inr ⟨fun q => c3 q.2.2.1, bad⟩
    · rw [if_neg c2]
      exact Or.inr ⟨fun q => c2 q.2.1, bad⟩
  · rw [if_neg c1]
    exact Or.inr ⟨fun q => c1 q.1, bad⟩
theorem R_stop {M : Sto} {B N : Nat} {x1 : Int32} (h : IR M B N) : (hasB B x1 ∧ Dn M B N (m_R_stop x1 M)) ∨ (¬ hasB B x1 ∧ Ref M 1 (m_R_stop x1 M)) := by
  have hB := h.pf.hB
  have hb := h.pf.blk
  by_cases c1 : hasB B x1
  · refine Or.inl ⟨c1, ?_⟩
    obtain ⟨b, b1, b2⟩ := c1.nat
    have g : Ok (fun a : Int32 × Sto => a.1 = 0 ∧ a.2 0 0 = 0 ∧ IR a.2 B N ∧ a.2 0 1 = M 0 1 ∧ a.2 1 = M 1 ∧ a.2 0 32 = M 0 32) (m_R_stop x1 M) := by
      unfold m_R_stop
      rw [noBlock_eq hb hB, if_pos c1]
      refine Ok.bindS ?_
      dsimp only
      rw [fails_eq _ _ _ (Or.inl rfl)]
      refine Ok.bindS ?_
      dsimp only
      rw [if_pos rfl]
      rw [b2]
      refine Ok.okN (by omega) (by decide) ?_
      rw [nJ_tn (by omega)]
      refine Ok.wr (fun M3 q3 => ?_)
      refine Ok.bzt (Or.inl rfl) ?_
      refine Ok.wr (fun M4 q4 => ?_)
      have f4 : Fr [6, 7, 8, 9] [0, 11] M M4 := by
        rw [q4, q3]
        exact (((Fr.rfl.up0 (by decide)).up (by decide) (by decide)).up0 (by decide))
      have c6 : ∀ a, M4 6 a = if a = b then 0 else M 6 a := fun a => by
        rw [q4, up2_ne _ _ _ (by decide), q3, up2_at]
        by_cases y : a = b
        · rw [if_pos ⟨rfl, y⟩, if_pos y]
        · rw [if_neg (fun q => y q.2), if_neg y, up2_ne _ _ _ (by decide)]
      have co : ∀ k, k ≠ 0 → k ≠ 6 → M4 k = M k := fun k h0 h6 => by rw [q4, up2_ne _ _ _ h0, q3, up2_ne _ _ _ h6, up2_ne _ _ _ h0]
      refine ⟨(0, M4), rfl, rfl, ?_, h.new (h.pf.fin1 (b0 := b) f4 (fun a ha => ?_) (Or.inl ?_)) (f4.2 17 (by decide)) (f4.1 24 (by decide) (by decide)) (f4.1 25 (by decide) (by decide)) ?_, f4.2 1 (by decide), f4.1 1 (by decide) (by decide), f4.2 32 (by decide)⟩
      · show M4 0 0 = 0
        rw [q4, up2_at, if_neg (fun q => absurd q.2 (by decide)), q3, up2_ne _ _ _ (by decide), up0_at]; rfl
      · show M4 6 a = M 6 a ∧ M4 7 a = M 7 a ∧ M4 8 a = M 8 a ∧ M4 9 a = M 9 a
        rw [c6, if_neg ha, co 7 (by decide) (by decide), co 8 (by decide) (by decide), co 9 (by decide) (by decide)]; exact ⟨rfl, rfl, rfl, rfl⟩
      · show M4 6 b = 0
        rw [c6, if_pos rfl]
      · show M4 0 11 = 0
        rw [q4, up2_at, if_pos ⟨rfl, rfl⟩]
    obtain ⟨⟨r, M'⟩, g0, g1, g2⟩ := g
    have g1 : r = 0 := g1
    subst g1
    exact ⟨M', g0, g2⟩
  · refine Or.inr ⟨c1, up2 M 0 0 1, ?_, up0_at M 1, up0_fr M 1⟩
    unfold m_R_stop
    rw [noBlock_eq hb hB, if_neg c1]
    have e : ∀ f : Int32 × Sto → Option (Int32 × Sto), (some ((1 : Int32), M)).bind f = f (1, M) := fun _ => rfl
    rw [e]
    dsimp only
    rw [fails_eq _ _ _ (Or.inr rfl)]; rfl
theorem R_clear {M : Sto} {B N : Nat} (h : IR M B N) : ∃ M', m_R_clear M = some (0, M') ∧ IR M' 0 N ∧ M' 0 1 = 0 ∧ M' 1 = M 1 ∧ M' 0 32 = M 0 32 := by
  have c0 : ∀ j, j ≠ 0 → j ≠ 1 → j ≠ 11 → up2 (up2 (up2 M 0 0 0) 0 1 0) 0 11 0 0 j = M 0 j := fun j h0 h1 h2 => by
    rw [up2_at, if_neg (fun q => h2 q.2), up2_at, if_neg (fun q => h1 q.2), up2_at, if_neg (fun q => h0 q.2)]
  have ck : ∀ k, k ≠ 0 → up2 (up2 (up2 M 0 0 0) 0 1 0) 0 11 0 k = M k := fun k h0 => by
    rw [up2_ne _ _ _ h0, up2_ne _ _ _ h0, up2_ne _ _ _ h0]
  have c1 : up2 (up2 (up2 M 0 0 0) 0 1 0) 0 11 0 0 1 = 0 := by rw [up2_at, if_neg (fun q => absurd q.2 (by decide)), up2_at, if_pos ⟨rfl, rfl⟩]
  obtain ⟨a1, a2, a3, a4, a5, a6, a7, a8, a9⟩ := h.pf
  refine ⟨_, rfl, h.new ⟨by omega, c1, by rw [ck 1 (by decide)]; exact a3, fun b hb => by omega, by rw [ck 2 (by decide)]; exact a5, by rw [ck 2 (by decide), ck 3 (by decide)]; exact a6, by rw [ck 2 (by decide), ck 4 (by decide)]; exact a7, by rw [ck 2 (by decide), ck 5 (by decide)]; exact a8, by rw [c0 32 (by decide) (by decide) (by decide)]; exact a9⟩ (c0 17 (by decide) (by decide) (by decide)) (ck 24 (by decide)) (ck 25 (by decide)) (by rw [up2_at, if_pos ⟨rfl, rfl⟩]), c1, ck 1 (by decide), c0 32 (by decide) (by decide) (by decide)⟩
theorem PF.inp1 {M M' : Sto} {B : Nat} (h : PF M B) (f : Fr [27] [0, 32] M M') (hi : ∃ n, n ≤ 16 ∧ M' 0 32 = nJ n) : PF M' B := by
  obtain ⟨a1, a2, a3, a4, a5, a6, a7, a8, a9⟩ := h
  have ck : ∀ k, k ≠ 0 → k ∉ [27] → M' k = M k := f.1
  exact ⟨a1, by rw [f.2 1 (by decide)]; exact a2, by rw [ck 1 (by decide) (by decide)]; exact a3, by rw [ck 6 (by decide) (by decide), ck 7 (by decide) (by decide), ck 8 (by decide) (by decide), ck 9 (by decide) (by decide)]; exact a4, by rw [ck 2 (by decide) (by decide)]; exact a5, by rw [ck 2 (by decide) (by decide), ck 3 (by decide) (by decide)]; exact a6, by rw [ck 2 (by decide) (by decide), ck 4 (by decide) (by decide)]; exact a7, by rw [ck 2 (by decide) (by decide), ck 5 (by decide) (by decide)]; exact a8, hi⟩
theorem IR.inp1 {M M' : Sto} {B N : Nat} (h : IR M B N) (f : Fr [27] [0, 32] M M') (hi : ∃ n, n ≤ 16 ∧ M' 0 32 = nJ n) : IR M' B N := by
  refine ⟨h.pf.inp1 f hi, h.hi, by rw [f.2 17 (by decide)]; exact h.num, by rw [f.1 24 (by decide) (by decide), f.1 25 (by decide) (by decide)]; exact h.out, fun q => ?_⟩
  rw [f.2 11 (by decide)] at q
  exact ⟨(h.blt q).1, (h.blt q).2.fr h.pf (f.mono (by decide) (by decide))⟩
theorem R_give {M : Sto} {B N g : Nat} {x : Int32} (h : IR M B N) (hg : g ≤ 16) (hgi : M 0 32 = nJ g) : ∃ r M', m_R_give x M = some (r, M') ∧ IR M' B N ∧ M' 0 1 = M 0 1 ∧ M' 1 = M 1 ∧ ((g = 16 ∧ r = 0 ∧ M' 0 32 = M 0 32) ∨ (g < 16 ∧ r = 1 ∧ M' 0 32 = nJ (g + 1))) := by
  have gg : Ok (fun a : Int32 × Sto => IR a.2 B N ∧ a.2 0 1 = M 0 1 ∧ a.2 1 = M 1 ∧ ((g = 16 ∧ a.1 = 0 ∧ a.2 0 32 = M 0 32) ∨ (g < 16 ∧ a.1 = 1 ∧ a.2 0 32 = nJ (g + 1)))) (m_R_give x M) := by
    unfold m_R_give
    refine Ok.wr (fun M1 q1 => ?_)
    have f1 : Fr [27] [0, 32] M M1 := by rw [q1]; exact Fr.rfl.up0 (by decide)
    have e1 : M1 0 32 = nJ g := by rw [q1, up00 _ _ _ (by decide)]; exact hgi
    rw [e1]
    refine Ok.ifE (fun z => ?_) (fun z => ?_)
    · have : g = 16 := nJ_inj (j := 16) (by omega) (by omega) z
      exact Ok.bzt (Or.inl rfl) ⟨(0, M1), rfl, h.inp1 f1 ⟨g, hg, e1⟩, f1.2 1 (by decide), f1.1 1 (by decide) (by decide), Or.inl ⟨this, rfl, e1.trans hgi.symm⟩⟩
    · have hlt : g < 16 := by
        have : g ≠ 16 := fun y => z (by rw [y]; rfl)
        omega
      refine Ok.okN hlt (by decide) ?_
      refine Ok.wr (fun M2 q2 => ?_)
      have e2 : M2 0 32 = nJ g := by rw [q2, up2_ne _ _ _ (by decide)]; exact e1
      rw [e2, nJ_succ (by omega)]
      refine Ok.wr (fun M3 q3 => ?_)
      have f3 : Fr [27] [0, 32] M M3 := by rw [q3, q2]; exact (f1.up (by decide) (by decide)).up0 (by decide)
      have e3 : M3 0 32 = nJ (g + 1) := by rw [q3, up2_at, if_pos ⟨rfl, rfl⟩]
      exact Ok.bzt (Or.inr rfl) ⟨(1, M3), rfl, h.inp1 f3 ⟨g + 1, by omega, e3⟩, f3.2 1 (by decide), f3.1 1 (by decide) (by decide), Or.inr ⟨hlt, rfl, e3⟩⟩
  obtain ⟨⟨r, M'⟩, g0, g1⟩ := gg
  exact ⟨r, M', g0, g1⟩
theorem R_take {M : Sto} {B N : Nat} (h : IR M B N) : ∃ M', m_R_take M = some (0, M') ∧ IR M' B N ∧ M' 0 1 = M 0 1 ∧ M' 1 = M 1 ∧ M' 0 32 = 0 := by
  have f : Fr [27] [0, 32] M (up2 (up2 M 0 0 0) 0 32 0) := (Fr.rfl.up0 (by decide)).up0 (by decide)
  have e : up2 (up2 M 0 0 0) 0 32 0 0 32 = 0 := by rw [up2_at, if_pos ⟨rfl, rfl⟩]
  exact ⟨_, rfl, h.inp1 f ⟨0, by omega, e⟩, f.2 1 (by decide), f.1 1 (by decide) (by decide), e⟩
end
section
def insOk (k d x y : Int32) : Prop := (0 ≤ k.toInt ∧ k.toInt ≤ 7) ∧ (k.toInt ≠ 7 → hasB 6 d) ∧ (k.toInt ≠ 0 → k.toInt ≠ 6 → hasB 6 x) ∧ (2 ≤ k.toInt → k.toInt ≤ 5 → hasB 6 y)
theorem eqI (x : Int32) (n : Int32) : x = n ↔ x.toInt = n.toInt := ⟨fun h => by rw [h], fun h => Int32.toInt_inj.mp h⟩
theorem put_cond {M : Sto} {B : Nat} {x1 x2 x3 x4 x5 : Int32} (hb : M 0 1 = nJ B) (hB : B ≤ 10) : m_R_put x1 x2 x3 x4 x5 M = j_R_put_67 (@ite Int32 (hasB B x1 ∧ insOk x2 x3 x4 x5) (Classical.propDecidable _) 0 1) x1 x2 x3 x4 x5 M := by
  have n0 : (0 : Int32).toInt = 0 := rfl
  have n1 : (1 : Int32).toInt = 1 := rfl
  have n6 : (6 : Int32).toInt = 6 := rfl
  have n7 : (7 : Int32).toInt = 7 := rfl
  have e7 := eqI x2 7
  have e6 := eqI x2 6
  have e0 := eqI x2 0
  have bs : ∀ (r : Int32) (f : Int32 × Sto → Option (Int32 × Sto)), (some (r, M)).bind f = f (r, M) := fun _ _ => rfl
  have no : ¬ (hasB B x1 ∧ insOk x2 x3 x4 x5) → (@ite Int32 (hasB B x1 ∧ insOk x2 x3 x4 x5) (Classical.propDecidable _) 0 1) = 1 := fun h => if_neg h
  have ye : (hasB B x1 ∧ insOk x2 x3 x4 x5) → (@ite Int32 (hasB B x1 ∧ insOk x2 x3 x4 x5) (Classical.propDecidable _) 0 1) = 0 := fun h => if_pos h
  have h47 : hasB B x1 → (0 ≤ x2.toInt ∧ x2.toInt ≤ 7) → (x2.toInt ≠ 7 → hasB 6 x3) → (x2.toInt ≠ 0 → x2.toInt ≠ 6 → hasB 6 x4) → j_R_put_47 x1 x2 x3 x4 x5 M = j_R_put_67 (@ite Int32 (hasB B x1 ∧ insOk x2 x3 x4 x5) (Classical.propDecidable _) 0 1) x1 x2 x3 x4 x5 M := by
    intro a1 a2 a3 a4
    unfold j_R_put_47 j_R_put_62 j_R_put_66 m_R_usesSecond j_R_usesSecond_15 j_R_usesSecond_16
    by_cases c1 : x2 ≤ 1
    · have c1' := Int32.le_iff_toInt_le.mp c1
      rw [if_pos c1, ye ⟨a1, a2, a3, a4, fun q _ => by omega⟩]; rfl
    · have c1' : ¬ x2.toInt ≤ (1 : Int32).toInt := fun q => c1 (Int32.le_iff_toInt_le.mpr q)
      rw [if_neg c1]
      by_cases c2 : 6 ≤ x2
      · have c2' := Int32.le_iff_toInt_le.mp c2
        rw [if_pos c2, ye ⟨a1, a2, a3, a4, fun _ q => by omega⟩]; rfl
      · have c2' : ¬ (6 : Int32).toInt ≤ x2.toInt := fun q => c2 (Int32.le_iff_toInt_le.mpr q)
        rw [if_neg c2]
        show (m_R_noVariable x5 M).bind _ = _
        rw [noVar_eq]
        by_cases c3 : hasB 6 x5
        · rw [if_pos c3, ye ⟨a1, a2, a3, a4, fun _ _ => c3⟩]; rfl
        · rw [if_neg c3, no (fun q => c3 (q.2.2.2.2 (by omega) (by omega)))]; rfl
  have h32 : hasB B x1 → (0 ≤ x2.toInt ∧ x2.toInt ≤ 7) → (x2.toInt ≠ 7 → hasB 6 x3) → j_R_put_32 x1 x2 x3 x4 x5 M = j_R_put_67 (@ite Int32 (hasB B x1 ∧ insOk x2 x3 x4 x5) (Classical.propDecidable _) 0 1) x1 x2 x3 x4 x5 M := by
    intro a1 a2 a3
    unfold j_R_put_32 m_R_usesFirst j_R_usesFirst_14 j_R_usesFirst_15
    by_cases c1 : x2 = 0
    · rw [if_pos c1, ← h47 a1 a2 a3 (fun q => absurd (e0.mp c1) (by omega))]; rfl
    · have c1' : x2.toInt ≠ 0 := fun q => c1 (e0.mpr (by omega))
      rw [if_neg c1]
      by_cases c2 : x2 = 6
      · rw [if_pos c2, ← h47 a1 a2 a3 (fun _ q => absurd (e6.mp c2) (by omega))]; rfl
      · have c2' : x2.toInt ≠ 6 := fun q => c2 (e6.mpr (by omega))
        rw [if_neg c2]
        show (m_R_noVariable x4 M).bind _ = _
        rw [noVar_eq]
        by_cases c3 : hasB 6 x4
        · rw [if_pos c3, ← h47 a1 a2 a3 (fun _ _ => c3)]; rfl
        · rw [if_neg c3, no (fun q => c3 (q.2.2.2.1 c1' c2'))]; rfl
  unfold m_R_put
  rw [noBlock_eq hb hB]
  by_cases a1 : hasB B x1
  · rw [if_pos a1]
    show (if x2 < 0 then _ else _) = _
    by_cases c1 : x2 < 0
    · have c1' := Int32.lt_iff_toInt_lt.mp c1
      rw [if_pos c1, no (fun q => by have := q.2.1.1; omega)]; rfl
    · have c1' : ¬ x2.toInt < (0 : Int32).toInt := fun q => c1 (Int32.lt_iff_toInt_lt.mpr q)
      rw [if_neg c1]
      by_cases c2 : 7 < x2
      · have c2' := Int32.lt_iff_toInt_lt.mp c2
        rw [if_pos c2, no (fun q => by have := q.2.1.2; omega)]; rfl
      · have c2' : ¬ (7 : Int32).toInt < x2.toInt := fun q => c2 (Int32.lt_iff_toInt_lt.mpr q)
        have a2 : 0 ≤ x2.toInt ∧ x2.toInt ≤ 7 := ⟨by omega, by omega⟩
        rw [if_neg c2]
        unfold m_R_setsOne j_R_setsOne_11
        by_cases c3 : x2 = 7
        · rw [if_pos c3, ← h32 a1 a2 (fun q => absurd (e7.mp c3) (by omega))]; rfl
        · have c3' : x2.toInt ≠ 7 := fun q => c3 (e7.mpr (by omega))
          rw [if_neg c3]
          show (m_R_noVariable x3 M).bind _ = _
          rw [noVar_eq]
          by_cases c4 : hasB 6 x3
          · rw [if_pos c4, ← h32 a1 a2 (fun _ => c4)]; rfl
          · rw [if_neg c4, no (fun q => c4 (q.2.2.1 c3'))]; rfl
  · rw [if_neg a1, no (fun q => a1 q.1)]; rfl
theorem RQ_put {M : Sto} {B N : Nat} {x1 x2 x3 x4 x5 : Int32} (h : IR M B N) :
    (¬ (hasB B x1 ∧ insOk x2 x3 x4 x5) ∧ Ref M 1 (m_R_put x1 x2 x3 x4 x5 M)) ∨
    ((hasB B x1 ∧ insOk x2 x3 x4 x5) ∧ ∃ b l, b < B ∧ x1 = nJ b ∧ M 1 b = nJ l ∧ ((l = 6 ∧ Ref M 2 (m_R_put x1 x2 x3 x4 x5 M)) ∨
      (l < 6 ∧ ∃ M', m_R_put x1 x2 x3 x4 x5 M = some (nJ (l + 1), M') ∧ M' 0 0 = 0 ∧ IR M' B N ∧ M' 0 1 = M 0 1 ∧ M' 1 = upd (M 1) b (nJ (l + 1)) ∧ M' 0 32 = M 0 32))) := by
  have hB := h.pf.hB
  have hb := h.pf.blk
  rw [put_cond hb hB]
  by_cases c : hasB B x1 ∧ insOk x2 x3 x4 x5
  · rw [if_pos c]
    refine Or.inr ⟨c, ?_⟩
    obtain ⟨b, b1, b2⟩ := c.1.nat
    obtain ⟨l, l1, l2⟩ := h.pf.len b (by omega)
    refine ⟨b, l, b1, b2, l2, ?_⟩
    subst b2
    have e1 : up2 M 0 0 (if (0 : Int32) = 0 then 0 else 1) 1 b = nJ l := by rw [up2_ne _ _ _ (by decide)]; exact l2
    have step : ∀ s, (s = 0 ∨ s = 1) → (l = 6 ↔ s = 1) → j_R_put_67 0 (nJ b) x2 x3 x4 x5 M = j_R_put_96 s (nJ b) x2 x3 x4 x5 (up2 M 0 0 (if (0 : Int32) = 0 then 0 else 1)) := by
      intro s hs hl
      unfold j_R_put_67
      rw [fails_eq _ _ _ (Or.inl rfl)]
      show (if ok (nJ b) 10 = true then (if up2 M 0 0 (if (0 : Int32) = 0 then 0 else 1) 1 (nJ b).toNatClampNeg = 6 then _ else _) else _) = _
      rw [if_pos (okN_t (by omega) (by decide)), nJ_tn (by omega), e1]
      by_cases z : l = 6
      · rw [if_pos (by rw [z]; rfl), hl.mp z]
      · rw [if_neg (show ¬ nJ l = 6 from fun q => z (nJ_inj (j := 6) (by omega) (by omega) q))]
        rcases hs with y | y
        · rw [y]
        · exact absurd (hl.mpr y) z
    by_cases z : l = 6
    · refine Or.inl ⟨z, up2 (up2 M 0 0 (if (0 : Int32) = 0 then 0 else 1)) 0 0 2, ?_, up0_at _ _, (up0_fr M _).up0 (by decide)⟩
      rw [step 1 (Or.inr rfl) ⟨fun _ => rfl, fun _ => z⟩]
      unfold j_R_put_96
      rw [fails_eq _ _ _ (Or.inr rfl)]; rfl
    · refine Or.inr ⟨by omega, ?_⟩
      rw [step 0 (Or.inl rfl) ⟨fun y => absurd y z, fun y => absurd y (by decide)⟩]
      have g : Ok (fun a : Int32 × Sto => a.1 = nJ (l + 1) ∧ a.2 0 0 = 0 ∧ IR a.2 B N ∧ a.2 0 1 = M 0 1 ∧ a.2 1 = upd (M 1) b (nJ (l + 1)) ∧ a.2 0 32 = M 0 32) (j_R_put_96 0 (nJ b) x2 x3 x4 x5 (up2 M 0 0 (if (0 : Int32) = 0 then 0 else 1))) := by
        generalize hM1 : up2 M 0 0 (if (0 : Int32) = 0 then 0 else 1) = M1 at e1 ⊢
        unfold j_R_put_96
        rw [fails_eq _ _ _ (Or.inl rfl)]
        refine Ok.bindS ?_
        dsimp only
        rw [if_pos rfl]
        generalize hM2 : up2 M1 0 0 (if (0 : Int32) = 0 then 0 else 2) = M2
        have f2 : Fr [1, 2, 3, 4, 5] [0, 11] M M2 := by rw [← hM2, ← hM1]; exact (Fr.rfl.up0 (by decide)).up0 (by decide)
        have e2 : M2 1 b = nJ l := by rw [← hM2, up2_ne _ _ _ (by decide)]; exact e1
        have z2 : M2 0 0 = 0 := by rw [← hM2, up0_at]; rfl
        refine Ok.okN (by omega) (by decide) ?_
        have tb : (nJ b).toNatClampNeg = b := nJ_tn (by omega)
        simp only [tb, e2]
        rw [nJ_mul6 (by omega), nJ_add (by omega), nJ_tn (i := 6 * b + l) (by omega)]
        refine Ok.okN (by omega) (by decide) ?_
        refine Ok.wr (fun M4 q4 => ?_)
        refine Ok.okN (by omega) (by decide) ?_
        refine Ok.wr (fun M5 q5 => ?_)
        refine Ok.okN (by omega) (by decide) ?_
        refine Ok.wr (fun M6 q6 => ?_)
        refine Ok.okN (by omega) (by decide) ?_
        refine Ok.wr (fun M7 q7 => ?_)
        refine Ok.okN (by omega) (by decide) ?_
        refine Ok.okN (by omega) (by decide) ?_
        have e7 : M7 1 = M2 1 := by rw [q7, up2_ne _ _ _ (by decide), q6, up2_ne _ _ _ (by decide), q5, up2_ne _ _ _ (by decide), q4, up2_ne _ _ _ (by decide)]
        rw [e7, e2, nJ_succ (by omega)]
        refine Ok.wr (fun M8 q8 => ?_)
        refine Ok.bzt (Or.inl rfl) ?_
        refine Ok.wr (fun M9 q9 => ?_)
        refine Ok.okN (by omega) (by decide) ?_
        have f9 : Fr [1, 2, 3, 4, 5] [0, 11] M M9 := by
          rw [q9, q8, q7, q6, q5, q4]
          exact ((((((f2.up (by decide) (by decide)).up (by decide) (by decide)).up (by decide) (by decide)).up (by decide) (by decide)).up (by decide) (by decide)).up0 (by decide))
        have c1 : M9 1 = upd (M 1) b (nJ (l + 1)) := by
          rw [q9, up2_ne _ _ _ (by decide), q8, up2_self, e7, ← hM2, up2_ne _ _ _ (by decide), ← hM1, up2_ne _ _ _ (by decide)]
        have cc : ∀ k, k = 2 ∨ k = 3 ∨ k = 4 ∨ k = 5 → M2 k = M k := fun k hk => by rw [← hM2, up2_ne _ _ _ (by omega), ← hM1, up2_ne _ _ _ (by omega)]
        have at2 : ∀ a, M9 2 a = if a = 6 * b + l then x2 else M 2 a := fun a => by
          rw [q9, up2_ne _ _ _ (by decide), q8, up2_ne _ _ _ (by decide), q7, up2_ne _ _ _ (by decide), q6, up2_ne _ _ _ (by decide), q5, up2_ne _ _ _ (by decide), q4, up2_at]
          by_cases y : a = 6 * b + l
          · rw [if_pos ⟨rfl, y⟩, if_pos y]
          · rw [if_neg (fun q => y q.2), if_neg y, cc 2 (by decide)]
        have at3 : ∀ a, M9 3 a = if a = 6 * b + l then x3 else M 3 a := fun a => by
          rw [q9, up2_ne _ _ _ (by decide), q8, up2_ne _ _ _ (by decide), q7, up2_ne _ _ _ (by decide), q6, up2_ne _ _ _ (by decide), q5, up2_at]
          by_cases y : a = 6 * b + l
          · rw [if_pos ⟨rfl, y⟩, if_pos y]
          · rw [if_neg (fun q => y q.2), if_neg y, q4, up2_ne _ _ _ (by decide), cc 3 (by decide)]
        have at4 : ∀ a, M9 4 a = if a = 6 * b + l then x4 else M 4 a := fun a => by
          rw [q9, up2_ne _ _ _ (by decide), q8, up2_ne _ _ _ (by decide), q7, up2_ne _ _ _ (by decide), q6, up2_at]
          by_cases y : a = 6 * b + l
          · rw [if_pos ⟨rfl, y⟩, if_pos y]
          · rw [if_neg (fun q => y q.2), if_neg y, q5, up2_ne _ _ _ (by decide), q4, up2_ne _ _ _ (by decide), cc 4 (by decide)]
        have at5 : ∀ a, M9 5 a = if a = 6 * b + l then x5 else M 5 a := fun a => by
          rw [q9, up2_ne _ _ _ (by decide), q8, up2_ne _ _ _ (by decide), q7, up2_at]
          by_cases y : a = 6 * b + l
          · rw [if_pos ⟨rfl, y⟩, if_pos y]
          · rw [if_neg (fun q => y q.2), if_neg y, q6, up2_ne _ _ _ (by decide), q5, up2_ne _ _ _ (by decide), q4, up2_ne _ _ _ (by decide), cc 5 (by decide)]
        have c1b : M9 1 b = nJ (l + 1) := by rw [c1, upd_at, if_pos rfl]
        rw [c1b]
        refine ⟨(nJ (l + 1), M9), rfl, rfl, ?_, h.new ?_ (f9.2 17 (by decide)) (f9.1 24 (by decide) (by decide)) (f9.1 25 (by decide) (by decide)) ?_, f9.2 1 (by decide), c1, f9.2 32 (by decide)⟩
        · show M9 0 0 = 0
          rw [q9, up2_at, if_neg (fun q => absurd q.2 (by decide)), q8, up2_ne _ _ _ (by decide), q7, up2_ne _ _ _ (by decide), q6, up2_ne _ _ _ (by decide), q5, up2_ne _ _ _ (by decide), q4, up2_ne _ _ _ (by decide)]
          exact z2
        · show PF M9 B
          obtain ⟨a1, a2, a3, a4, a5, a6, a7, a8, a9⟩ := h.pf
          have n0 : (0 : Int32).toInt = 0 := rfl
          have n1 : (1 : Int32).toInt = 1 := rfl
          have n6 : (6 : Int32).toInt = 6 := rfl
          have n7 : (7 : Int32).toInt = 7 := rfl
          have e70 := eqI x2 7
          have e60 := eqI x2 6
          have e10 := eqI x2 1
          have e00 := eqI x2 0
          obtain ⟨i1, i2, i3, i4⟩ := c.2
          refine ⟨a1, by rw [f9.2 1 (by decide)]; exact a2, fun a ha => ?_, by rw [f9.1 6 (by decide) (by decide), f9.1 7 (by decide) (by decide), f9.1 8 (by decide) (by decide), f9.1 9 (by decide) (by decide)]; exact a4, fun j => ?_, fun j => ?_, fun j => ?_, fun j => ?_, by rw [f9.2 32 (by decide)]; exact a9⟩
          · rw [c1, upd_at]
            by_cases y : a = b
            · rw [if_pos y]; exact ⟨l + 1, by omega, rfl⟩
            · rw [if_neg y]; exact a3 a ha
          · rw [at2]
            by_cases y : j = 6 * b + l
            · rw [if_pos y]
              have := tn_eq i1.1
              exact ⟨x2.toNatClampNeg, by omega, nJ_of i1.1⟩
            · rw [if_neg y]; exact a5 j
          · rw [at2, at3]
            by_cases y : j = 6 * b + l
            · rw [if_pos y, if_pos y]
              intro q
              exact (i2 (fun w => q (e70.mpr (by omega)))).nat
            · rw [if_neg y, if_neg y]; exact a6 j
          · rw [at2, at4]
            by_cases y : j = 6 * b + l
            · rw [if_pos y, if_pos y]
              intro q0 q6
              exact (i3 (fun w => q0 (e00.mpr (by omega))) (fun w => q6 (e60.mpr (by omega)))).nat
            · rw [if_neg y, if_neg y]; exact a7 j
          · rw [at2, at5]
            by_cases y : j = 6 * b + l
            · rw [if_pos y, if_pos y]
              intro q0 q1 q6 q7
              have w0 : x2.toInt ≠ 0 := fun w => q0 (e00.mpr (by omega))
              have w1 : x2.toInt ≠ 1 := fun w => q1 (e10.mpr (by omega))
              have w6 : x2.toInt ≠ 6 := fun w => q6 (e60.mpr (by omega))
              have w7 : x2.toInt ≠ 7 := fun w => q7 (e70.mpr (by omega))
              exact (i4 (by omega) (by omega)).nat
            · rw [if_neg y, if_neg y]; exact a8 j
        · show M9 0 11 = 0
          rw [q9, up2_at, if_pos ⟨rfl, rfl⟩]
      obtain ⟨⟨r, M'⟩, g0, g1, g2⟩ := g
      have g1 : r = nJ (l + 1) := g1
      subst g1
      exact ⟨M', g0, g2⟩
  · rw [if_neg c]
    refine Or.inl ⟨c, up2 M 0 0 1, ?_, up0_at M 1, up0_fr M 1⟩
    unfold j_R_put_67
    rw [fails_eq _ _ _ (Or.inr rfl)]; rfl
end
section
theorem Ok.fails {α : Type} {P : α → Prop} {v x : Int32} {M : Sto} {X Y : Int32 × Sto → Option α} (hv : v = 0 ∨ v = 1) (h0 : v = 0 → Ok P (Y (0, up2 M 0 0 0))) (h1 : v = 1 → Ok P (X (1, up2 M 0 0 x))) :
    Ok P ((m_R_fails v x M).bind fun o => if o.1 = 0 then Y o else X o) := by
  rw [fails_eq v x M hv]
  refine Ok.bindS ?_
  rcases hv with z | z
  · rw [if_pos z]
    subst z
    rw [if_pos rfl]; exact h0 rfl
  · subst z
    rw [if_neg (show ¬ (1 : Int32) = 0 by decide)]
    exact h1 rfl
theorem Fr.c0 {M M1 : Sto} {v : Int32} (h : Fr [] [0] M M1) : Fr [] [0] M (up2 M1 0 0 v) := h.up0 (by decide)
theorem R_look {M : Sto} {B N : Nat} {x1 x2 : Int32} (h : IR M B N) : Ok (fun a => Fr [] [0] M a.2) (m_R_look x1 x2 M) := by
  have hB := h.pf.hB
  have hb := h.pf.blk
  have j43 : ∀ s M1, (s = 0 ∨ s = 1) → hasB B x1 → Fr [] [0] M M1 → Ok (fun a => Fr [] [0] M a.2) (j_R_look_43 s x1 x2 M1) := by
    intro s M1 hs hx f1
    obtain ⟨b, b1, b2⟩ := hx.nat
    unfold j_R_look_43
    refine Ok.fails hs (fun _ => ?_) (fun _ => ⟨(0, _), rfl, f1.c0⟩)
    dsimp only
    generalize hM2 : up2 M1 0 0 0 = M2
    have f2 : Fr [] [0] M M2 := by rw [← hM2]; exact f1.c0
    have done : ∀ r : Int32, Ok (fun a : Int32 × Sto => Fr [] [0] M a.2) (some (r, M2)) := fun r => ⟨(r, M2), rfl, f2⟩
    have hh : Ok (fun a : Int32 × Sto => a.2 = M2 ∧ (a.1 = 0 ∨ a.1 = 1)) (m_R_has (M2 0 12) x1 M2) := by
      unfold m_R_has j_R_has_14
      refine Ok.ifE (fun _ => ⟨(1, M2), rfl, rfl, Or.inr rfl⟩) (fun _ => ⟨(0, M2), rfl, rfl, Or.inl rfl⟩)
    have hh27 : Ok (fun a : Int32 × Sto => a.2 = M2 ∧ (a.1 = 0 ∨ a.1 = 1)) (m_R_has (M2 0 27) x1 M2) := by
      unfold m_R_has j_R_has_14
      refine Ok.ifE (fun _ => ⟨(1, M2), rfl, rfl, Or.inr rfl⟩) (fun _ => ⟨(0, M2), rfl, rfl, Or.inl rfl⟩)
    refine Ok.bind hh (fun r4 M4 h4 => ?_)
    dsimp only at h4 ⊢
    obtain ⟨e4, _⟩ := h4
    subst e4
    unfold j_R_look_105 j_R_look_130 j_R_look_150 j_R_look_151 j_R_look_173
    refine Ok.ifE (fun _ => Ok.ifE (fun _ => done _) (fun _ => done _)) (fun _ => ?_)
    refine Ok.ifE (fun _ => Ok.okE b2 (by omega) (by decide) (done _)) (fun _ => ?_)
    refine Ok.ifE (fun _ => ?_) (fun _ => ?_)
    · refine Ok.ifE (fun _ => done _) (fun _ => ?_)
      refine Ok.okE b2 (by omega) (by decide) ?_
      refine Ok.bind r_ones (fun r5 M5 h5 => ?_)
      dsimp only at h5 ⊢
      subst h5
      exact done _
    refine Ok.ifE (fun _ => ?_) (fun _ => ?_)
    · refine Ok.ifE (fun _ => done _) (fun _ => ?_)
      refine Ok.bind hh27 (fun r5 M5 h5 => ?_)
      dsimp only at h5 ⊢
      obtain ⟨e5, _⟩ := h5
      subst e5
      exact Ok.ifE (fun _ => done _) (fun _ => done _)
    refine Ok.ifE (fun _ => Ok.okE b2 (by omega) (by decide) (done _)) (fun _ => ?_)
    refine Ok.ifE (fun _ => done _) (fun _ => Ok.okE b2 (by omega) (by decide) (done _))
  have j23 : ∀ s, (s = 0 ∧ hasB B x1 ∨ s = 1) → Ok (fun a => Fr [] [0] M a.2) (j_R_look_23 s x1 x2 M) := by
    intro s hs
    unfold j_R_look_23
    refine Ok.fails (hs.elim (fun z => Or.inl z.1) Or.inr) (fun z => ?_) (fun _ => ⟨(0, _), rfl, Fr.rfl.c0⟩)
    dsimp only
    have hx : hasB B x1 := hs.elim (fun y => y.2) (fun y => by rw [y] at z; exact absurd z (by decide))
    exact Ok.ifE (fun _ => j43 1 _ (Or.inr rfl) hx Fr.rfl.c0) (fun _ => j43 0 _ (Or.inl rfl) hx Fr.rfl.c0)
  unfold m_R_look j_R_look_18
  rw [noBlock_eq hb hB]
  refine Ok.bindS ?_
  dsimp only
  by_cases c : hasB B x1
  · rw [if_pos c, if_pos rfl]
    refine Ok.lt (fun _ => j23 1 (Or.inr rfl)) (fun _ => ?_)
    exact Ok.le (fun _ => j23 0 (Or.inl ⟨rfl, c⟩)) (fun _ => j23 1 (Or.inr rfl))
  · rw [if_neg c, if_neg (by decide)]
    exact j23 1 (Or.inr rfl)
theorem R_phiOf {M : Sto} {B : Nat} {x1 x2 : Int32} (hb : M 0 1 = nJ B) (hB : B ≤ 10) : Ok (fun a => a.2 = M ∧ (a.1 = -1 ∨ (hasB B x1 ∧ ∃ w, w < 6 ∧ a.1 = nJ w))) (m_R_phiOf x1 x2 M) := by
  have none : Ok (fun a => a.2 = M ∧ (a.1 = -1 ∨ (hasB B x1 ∧ ∃ w, w < 6 ∧ a.1 = nJ w))) (j_R_phiOf_23 M) := ⟨(-1, M), rfl, rfl, Or.inl rfl⟩
  unfold m_R_phiOf
  rw [noBlock_eq hb hB]
  refine Ok.bindS ?_
  dsimp only
  by_cases c : hasB B x1
  · rw [if_pos c, if_pos rfl]
    obtain ⟨b, b1, b2⟩ := c.nat
    have loop : ∀ n i v, i ≤ 6 → 6 - i < n → Ok (fun a : Int32 × Sto => a.2 = M ∧ (a.1 = -1 ∨ (hasB B x1 ∧ ∃ w, w < 6 ∧ a.1 = nJ w))) (l_R_phiOf_30 j_R_phiOf_67 n x1 v (nJ i) M) := by
      intro n
      induction n with
      | zero => intro i v h1 h2; omega
      | succ n ih =>
        intro i v hi hn
        unfold l_R_phiOf_30 j_R_phiOf_61
        refine Ok.leN (a := 6) (by omega) (by omega) (fun q => ⟨(-1, M), rfl, rfl, Or.inl rfl⟩) (fun q => ?_)
        refine Ok.okE b2 (by omega) (by decide) ?_
        rw [nJ_succ (by omega)]
        refine Ok.has (by omega) (fun _ => ?_) (fun _ => ih (i + 1) v (by omega) (by omega))
        dsimp only
        exact Ok.ifE (fun _ => ⟨(nJ i, M), rfl, rfl, Or.inr ⟨c, i, by omega, rfl⟩⟩) (fun _ => ih (i + 1) _ (by omega) (by omega))
    have e : ∀ z, m_R_has z x1 M = m_R_has z (nJ b) M := fun z => by rw [b2]
    rw [e]
    refine Ok.has (by omega) (fun _ => ?_) (fun _ => none)
    dsimp only
    exact Ok.le (fun _ => loop FU 0 x2 (by omega) (by unfold FU; omega)) (fun _ => none)
  · rw [if_neg c, if_neg (by decide)]
    exact none
theorem R_phi {M : Sto} {B N : Nat} {x1 x2 x3 : Int32} (h : IR M B N) : Ok (fun a => Fr [] [0] M a.2) (m_R_phi x1 x2 x3 M) := by
  have hB := h.pf.hB
  have n0 : (0 : Int32).toInt = 0 := rfl
  have n1 : (-1 : Int32).toInt = -1 := rfl
  have n2 : (-2 : Int32).toInt = -2 := rfl
  have j71 : ∀ s x4 M1, Fr [] [0] M M1 → (s = 1 ∨ (s = 0 ∧ hasB B x1 ∧ (∃ w, w < 6 ∧ x4 = nJ w) ∧ (x3 = -2 ∨ x3 = -1 ∨ hasB B x3))) → Ok (fun a => Fr [] [0] M a.2) (j_R_phi_71 s x1 x3 x4 M1) := by
    intro s x4 M1 f1 hs
    unfold j_R_phi_71 j_R_phi_128
    refine Ok.fails (hs.elim Or.inr fun z => Or.inl z.1) (fun z => ?_) (fun _ => ⟨(0, _), rfl, f1.c0⟩)
    dsimp only
    obtain ⟨hx1, ⟨w, w1, w2⟩, hx3⟩ : hasB B x1 ∧ (∃ w, w < 6 ∧ x4 = nJ w) ∧ (x3 = -2 ∨ x3 = -1 ∨ hasB B x3) := hs.elim (fun y => by rw [y] at z; exact absurd z (by decide)) (fun y => y.2)
    obtain ⟨b, b1, b2⟩ := hx1.nat
    refine Ok.ifE (fun _ => ⟨(_, _), rfl, f1.c0⟩) (fun q2 => ?_)
    refine Ok.ifE (fun _ => ?_) (fun q1 => ?_)
    · refine Ok.okE (i := 6 * b + w) (by rw [b2, w2, nJ_mul6 (by omega), nJ_add (by omega)]) (by omega) (by decide) ?_
      exact ⟨(_, _), rfl, f1.c0⟩
    · obtain ⟨c, c1, c2⟩ := (hx3.elim (fun y => absurd y q2) fun y => y.elim (fun y => absurd y q1) fun y => y).nat
      refine Ok.okE (i := 6 * c + w) (by rw [c2, w2, nJ_mul6 (by omega), nJ_add (by omega)]) (by omega) (by decide) ?_
      exact ⟨(_, _), rfl, f1.c0⟩
  have j13 : ∀ s, (s = 0 ∨ s = 1) → Ok (fun a => Fr [] [0] M a.2) (j_R_phi_13 s x1 x2 x3 M) := by
    intro s hs
    unfold j_R_phi_13
    refine Ok.fails hs (fun _ => ?_) (fun _ => ⟨(0, _), rfl, Fr.rfl.c0⟩)
    dsimp only
    generalize hM2 : up2 M 0 0 0 = M2
    have f2 : Fr [] [0] M M2 := by rw [← hM2]; exact Fr.rfl.c0
    have hb2 : M2 0 1 = nJ B := (f2.2 1 (by decide)).trans h.pf.blk
    refine Ok.bind (R_phiOf hb2 hB) (fun r M3 h3 => ?_)
    dsimp only at h3 ⊢
    obtain ⟨e3, hr⟩ := h3
    subst e3
    unfold j_R_phi_66 j_R_phi_70
    refine Ok.lt (fun _ => j71 1 r _ f2 (Or.inl rfl)) (fun q => ?_)
    have hr' : hasB B x1 ∧ ∃ w, w < 6 ∧ r = nJ w := hr.elim (fun y => by rw [y] at q; omega) fun y => y
    refine Ok.lt (fun _ => j71 1 r _ f2 (Or.inl rfl)) (fun q3 => ?_)
    have eB := nJ_int (i := B) (by omega)
    refine Ok.le (fun _ => j71 1 r _ f2 (Or.inl rfl)) (fun q4 => ?_)
    rw [hb2] at q4
    refine Ok.lt (fun q5 => ?_) (fun q5 => ?_)
    · refine j71 0 r _ f2 (Or.inr ⟨rfl, hr'.1, hr'.2, ?_⟩)
      by_cases y : x3 = -1
      · exact Or.inr (Or.inl y)
      · refine Or.inl (Int32.toInt_inj.mp ?_)
        have : x3.toInt ≠ (-1 : Int32).toInt := fun e => y (Int32.toInt_inj.mp e)
        omega
    · have hx3 : hasB B x3 := ⟨by omega, by omega⟩
      obtain ⟨c, c1, c2⟩ := hx3.nat
      obtain ⟨b, b1, b2⟩ := hr'.1.nat
      refine Ok.okE b2 (by omega) (by decide) ?_
      have hgo : Ok (fun a => Fr [] [0] M a.2) ((m_R_has (M3 11 x1.toNatClampNeg) x3 M3).bind fun o4 => if o4.1 = 0 then (j_R_phi_71 1 x1 x3 r o4.2) else (j_R_phi_71 0 x1 x3 r o4.2)) := by
        have e : ∀ z, m_R_has z x3 M3 = m_R_has z (nJ c) M3 := fun z => by rw [c2]
        rw [e]
        exact Ok.has (by omega) (fun _ => j71 0 r _ f2 (Or.inr ⟨rfl, hr'.1, hr'.2, Or.inr (Or.inr hx3)⟩)) (fun _ => j71 1 r _ f2 (Or.inl rfl))
      exact hgo
  unfold m_R_phi
  exact Ok.ifE (fun _ => j13 1 (Or.inr rfl)) (fun _ => j13 0 (Or.inl rfl))
theorem R_uses {M : Sto} {B N : Nat} {x1 x2 x3 : Int32} (h : IR M B N) : Ok (fun a => Fr [] [0] M a.2) (m_R_uses x1 x2 x3 M) := by
  have hB := h.pf.hB
  have n0 : (0 : Int32).toInt = 0 := rfl
  have j69 : ∀ s M1, Fr [] [0] M M1 → (s = 1 ∨ (s = 0 ∧ hasB B x1 ∧ hasB 6 x2)) → Ok (fun a => Fr [] [0] M a.2) (j_R_uses_69 s x1 x2 x3 M1) := by
    intro s M1 f1 hs
    unfold j_R_uses_69 j_R_uses_127
    refine Ok.fails (hs.elim Or.inr fun z => Or.inl z.1) (fun z => ?_) (fun _ => ⟨(0, _), rfl, f1.c0⟩)
    dsimp only
    obtain ⟨hx1, hx2⟩ : hasB B x1 ∧ hasB 6 x2 := hs.elim (fun y => by rw [y] at z; exact absurd z (by decide)) (fun y => y.2)
    obtain ⟨b, b1, b2⟩ := hx1.nat
    obtain ⟨w, w1, w2⟩ := hx2.nat
    have e : 6 * x1 + x2 = nJ (6 * b + w) := by rw [b2, w2, nJ_mul6 (by omega), nJ_add (by omega)]
    refine Ok.ifE (fun _ => Ok.okE e (by omega) (by decide) ⟨(_, _), rfl, f1.c0⟩) (fun _ => ?_)
    exact Ok.ifE (fun _ => Ok.okE e (by omega) (by decide) ⟨(_, _), rfl, f1.c0⟩) (fun _ => Ok.okE e (by omega) (by decide) ⟨(_, _), rfl, f1.c0⟩)
  have j13 : ∀ s, (s = 0 ∨ s = 1) → Ok (fun a => Fr [] [0] M a.2) (j_R_uses_13 s x1 x2 x3 M) := by
    intro s hs
    unfold j_R_uses_13
    refine Ok.fails hs (fun _ => ?_) (fun _ => ⟨(0, _), rfl, Fr.rfl.c0⟩)
    dsimp only
    generalize hM2 : up2 M 0 0 0 = M2
    have f2 : Fr [] [0] M M2 := by rw [← hM2]; exact Fr.rfl.c0
    have hb2 : M2 0 1 = nJ B := (f2.2 1 (by decide)).trans h.pf.blk
    rw [noBlock_eq hb2 hB]
    refine Ok.bindS ?_
    dsimp only
    unfold j_R_uses_64
    by_cases c : hasB B x1
    · rw [if_pos c, if_pos rfl]
      obtain ⟨b, b1, b2⟩ := c.nat
      obtain ⟨l, l1, l2⟩ := h.pf.len b (by omega)
      have hgo : Ok (fun a => Fr [] [0] M a.2) ((m_R_has (M2 0 12) (nJ b) M2).bind fun o4 => if o4.1 = 0 then (j_R_uses_69 1 x1 x2 x3 o4.2) else (if x2 < 0 then (j_R_uses_69 1 x1 x2 x3 o4.2) else (if ok x1 10 then (if (o4.2 1 x1.toNatClampNeg) ≤ x2 then (j_R_uses_69 1 x1 x2 x3 o4.2) else (if x3 < 0 then (j_R_uses_69 1 x1 x2 x3 o4.2) else (if x3 ≤ 2 then (j_R_uses_69 0 x1 x2 x3 o4.2) else (j_R_uses_69 1 x1 x2 x3 o4.2)))) else none))) := by
        refine Ok.has (by omega) (fun _ => ?_) (fun _ => j69 1 _ f2 (Or.inl rfl))
        dsimp only
        refine Ok.lt (fun _ => j69 1 _ f2 (Or.inl rfl)) (fun q => ?_)
        refine Ok.okE b2 (by omega) (by decide) ?_
        have el : M2 1 x1.toNatClampNeg = nJ l := by rw [b2, nJ_tn (by omega), f2.1 1 (by decide) (by decide)]; exact l2
        have ei := nJ_int (i := l) (by omega)
        refine Ok.le (fun _ => j69 1 _ f2 (Or.inl rfl)) (fun q2 => ?_)
        rw [el] at q2
        refine Ok.lt (fun _ => j69 1 _ f2 (Or.inl rfl)) (fun _ => ?_)
        exact Ok.le (fun _ => j69 0 _ f2 (Or.inr ⟨rfl, c, ⟨by omega, by omega⟩⟩)) (fun _ => j69 1 _ f2 (Or.inl rfl))
      have e : ∀ z, m_R_has z x1 M2 = m_R_has z (nJ b) M2 := fun z => by rw [b2]
      rw [e]
      exact hgo
    · rw [if_neg c, if_neg (by decide)]
      exact j69 1 _ f2 (Or.inl rfl)
  unfold m_R_uses
  exact Ok.ifE (fun _ => j13 1 (Or.inr rfl)) (fun _ => j13 0 (Or.inl rfl))
theorem R_name {M : Sto} {B N : Nat} {x1 x2 : Int32} (h : IR M B N) : Ok (fun a => Fr [] [0] M a.2) (m_R_name x1 x2 M) := by
  have hhi := h.hi
  have n0 : (0 : Int32).toInt = 0 := rfl
  have j49 : ∀ s M1, Fr [] [0] M M1 → (s = 1 ∨ (s = 0 ∧ hasB 126 x1)) → Ok (fun a => Fr [] [0] M a.2) (j_R_name_49 s x1 x2 M1) := by
    intro s M1 f1 hs
    unfold j_R_name_49 j_R_name_113
    refine Ok.fails (hs.elim Or.inr fun z => Or.inl z.1) (fun z => ?_) (fun _ => ⟨(0, _), rfl, f1.c0⟩)
    dsimp only
    obtain ⟨b, b1, b2⟩ := (hs.elim (fun y => by rw [y] at z; exact absurd z (by decide)) (fun y => y.2) : hasB 126 x1).nat
    refine Ok.ifE (fun _ => Ok.okE b2 (by omega) (by decide) ⟨(_, _), rfl, f1.c0⟩) (fun _ => ?_)
    refine Ok.ifE (fun _ => Ok.okE b2 (by omega) (by decide) ⟨(_, _), rfl, f1.c0⟩) (fun _ => ?_)
    refine Ok.ifE (fun _ => Ok.okE b2 (by omega) (by decide) (Ok.ifE (fun _ => ⟨(_, _), rfl, f1.c0⟩) (fun _ => ⟨(_, _), rfl, f1.c0⟩))) (fun _ => ?_)
    exact Ok.okE b2 (by omega) (by decide) ⟨(_, _), rfl, f1.c0⟩
  have j13 : ∀ s, (s = 0 ∨ s = 1) → Ok (fun a => Fr [] [0] M a.2) (j_R_name_13 s x1 x2 M) := by
    intro s hs
    unfold j_R_name_13 j_R_name_44
    refine Ok.fails hs (fun _ => ?_) (fun _ => ⟨(0, _), rfl, Fr.rfl.c0⟩)
    dsimp only
    generalize hM2 : up2 M 0 0 0 = M2
    have f2 : Fr [] [0] M M2 := by rw [← hM2]; exact Fr.rfl.c0
    refine Ok.lt (fun _ => j49 1 _ f2 (Or.inl rfl)) (fun q1 => ?_)
    have e17 : M2 0 17 = nJ N := (f2.2 17 (by decide)).trans h.num
    have eN := nJ_int (i := N) (by omega)
    refine Ok.le (fun _ => j49 1 _ f2 (Or.inl rfl)) (fun q2 => ?_)
    rw [e17] at q2
    refine Ok.lt (fun _ => j49 1 _ f2 (Or.inl rfl)) (fun _ => ?_)
    exact Ok.le (fun _ => j49 0 _ f2 (Or.inr ⟨rfl, ⟨by omega, by omega⟩⟩)) (fun _ => j49 1 _ f2 (Or.inl rfl))
  unfold m_R_name
  exact Ok.ifE (fun _ => j13 1 (Or.inr rfl)) (fun _ => j13 0 (Or.inl rfl))
theorem R_told {M : Sto} : Ok (fun a => Fr [] [0] M a.2) (m_R_told M) := ⟨(_, _), rfl, Fr.rfl.c0⟩
theorem R_heard {M : Sto} {x1 : Int32} : Ok (fun a => Fr [] [0] M a.2) (m_R_heard x1 M) := by
  have n0 : (0 : Int32).toInt = 0 := rfl
  have n40 : (40 : Int32).toInt = 40 := rfl
  have j24 : ∀ s, (s = 1 ∨ (s = 0 ∧ hasB 40 x1)) → Ok (fun a => Fr [] [0] M a.2) (j_R_heard_24 s x1 M) := by
    intro s hs
    unfold j_R_heard_24 j_R_heard_41
    refine Ok.fails (hs.elim Or.inr fun z => Or.inl z.1) (fun z => ?_) (fun _ => ⟨(0, _), rfl, Fr.rfl.c0⟩)
    dsimp only
    obtain ⟨b, b1, b2⟩ := (hs.elim (fun y => by rw [y] at z; exact absurd z (by decide)) (fun y => y.2) : hasB 40 x1).nat
    exact Ok.okE b2 b1 (by decide) ⟨(_, _), rfl, Fr.rfl.c0⟩
  unfold m_R_heard j_R_heard_19
  refine Ok.lt (fun _ => j24 1 (Or.inl rfl)) (fun q1 => ?_)
  refine Ok.le (fun _ => j24 1 (Or.inl rfl)) (fun _ => ?_)
  exact Ok.lt (fun q2 => j24 0 (Or.inr ⟨rfl, ⟨by omega, by omega⟩⟩)) (fun _ => j24 1 (Or.inl rfl))
theorem R_spent {M : Sto} {x1 : Int32} : Ok (fun a => Fr [] [0] M a.2) (m_R_spent x1 M) := by
  unfold m_R_spent j_R_spent_41
  refine Ok.wr (fun M1 q1 => ?_)
  have f1 : Fr [] [0] M M1 := by rw [q1]; exact Fr.rfl.c0
  refine Ok.ifE (fun _ => ⟨(_, M1), rfl, f1⟩) (fun _ => ?_)
  refine Ok.ifE (fun _ => ⟨(_, M1), rfl, f1⟩) (fun _ => ?_)
  exact Ok.ifE (fun _ => ⟨(_, M1), rfl, f1⟩) (fun _ => ⟨(_, M1), rfl, f1⟩)
end
section
theorem R_build {M : Sto} {B N : Nat} (h : IR M B N) : ∃ r M', m_R_build M = some (r, M') ∧ (∃ N', IR M' B N') ∧ M' 0 1 = M 0 1 ∧ M' 1 = M 1 ∧ M' 0 32 = M 0 32 := by
  have hB := h.pf.hB
  have hb := h.pf.blk
  have g : Ok (fun a : Int32 × Sto => (∃ N', IR a.2 B N') ∧ a.2 0 1 = M 0 1 ∧ a.2 1 = M 1 ∧ a.2 0 32 = M 0 32) (m_R_build M) := by
    unfold m_R_build j_R_build_13
    rw [hb]
    refine Ok.ifE (fun z => ?_) (fun z => ?_)
    · refine Ok.fails (Or.inr rfl) (fun y => absurd y (by decide)) (fun _ => ?_)
      have f : Fr [] [0] M (up2 M 0 0 1) := Fr.rfl.c0
      exact ⟨(0, _), rfl, ⟨N, h.fr (f.mono (by decide) (by decide))⟩, (f.2 1 (by decide)).trans hb, f.1 1 (by decide) (by decide), f.2 32 (by decide)⟩
    have h0 : 0 < B := Nat.pos_of_ne_zero fun y => z (by rw [y]; rfl)
    refine Ok.fails (Or.inl rfl) (fun _ => ?_) (fun y => absurd y (by decide))
    dsimp only
    generalize hM1 : up2 M 0 0 0 = M1
    have f1 : Fr PL PL0 M M1 := by rw [← hM1]; exact Fr.rfl.up0 (by decide)
    have p1 := h.pf.fr f1
    refine Ok.bind (r_reaches p1 h0) (fun r2 M2 h2 => ?_)
    dsimp only at h2 ⊢
    obtain ⟨f2, R2⟩ := h2
    have p2 := p1.fr (f2.mono (by decide) (by decide))
    refine Ok.bind (r_dominates p2 h0 R2) (fun r3 M3 h3 => ?_)
    dsimp only at h3 ⊢
    obtain ⟨f3, D3⟩ := h3
    have p3 := p2.fr (f3.mono (by decide) (by decide))
    have R3 := R2.fr (f3.mono (by decide) (by decide))
    refine Ok.bind (r_placePhis p3 R3) (fun r4 M4 h4 => ?_)
    dsimp only at h4 ⊢
    have f4 := h4.fr
    have p4 := p3.fr (f4.mono (by decide) (by decide))
    have R4 := R3.fr (f4.mono (by decide) (by decide))
    have D4 : DM M4 B := by
      refine ⟨?_, ?_⟩
      · rw [f4.2 12 (by decide), f4.1 12 (by decide) (by decide)]; exact D3.non
      · rw [f4.2 12 (by decide), f4.1 12 (by decide) (by decide), Ed_fr (f4.1 6 (by decide) (by decide)) (f4.1 8 (by decide) (by decide)) (f4.1 9 (by decide) (by decide))]; exact D3.par
    refine Ok.bind (r_nameAll p4 h0 R4 D4) (fun r5 M5 h5 => ?_)
    dsimp only at h5 ⊢
    obtain ⟨f5, N5, A5⟩ := h5
    have p5 := p4.fr (f5.mono (by decide) (by decide))
    have R5 := R4.fr (f5.mono (by decide) (by decide))
    have D5 : DM M5 B := by
      refine ⟨?_, ?_⟩
      · rw [f5.2 12 (by decide), f5.1 12 (by decide) (by decide)]; exact D4.non
      · rw [f5.2 12 (by decide), f5.1 12 (by decide) (by decide), Ed_fr (f5.1 6 (by decide) (by decide)) (f5.1 8 (by decide) (by decide)) (f5.1 9 (by decide) (by decide))]; exact D4.par
    have o5 : ∀ n, 130 ≤ n → M5 24 n = 0 ∧ M5 25 n = 0 := by
      have e : ∀ k, k = 24 ∨ k = 25 → M5 k = M k := fun k hk => by
        have h0 : k ≠ 0 := by omega
        rw [f5.1 k h0 (by rcases hk with y | y <;> rw [y] <;> decide), f4.1 k h0 (by rcases hk with y | y <;> rw [y] <;> decide), f3.1 k h0 (by rcases hk with y | y <;> rw [y] <;> decide), f2.1 k h0 (by rcases hk with y | y <;> rw [y] <;> decide), ← hM1, up2_ne _ _ _ h0]
      rw [e 24 (Or.inl rfl), e 25 (Or.inr rfl)]; exact h.out
    refine Ok.bind (r_findKnown p5 R5 A5 h0 o5) (fun r6 M6 h6 => ?_)
    dsimp only at h6 ⊢
    obtain ⟨f6, K6, F6, _⟩ := h6
    have p6 := p5.fr (f6.mono (by decide) (by decide))
    have R6 := R5.fr (f6.mono (by decide) (by decide))
    have D6 : DM M6 B := by
      refine ⟨?_, ?_⟩
      · rw [f6.2 12 (by decide), f6.1 12 (by decide) (by decide)]; exact D5.non
      · rw [f6.2 12 (by decide), f6.1 12 (by decide) (by decide), Ed_fr (f6.1 6 (by decide) (by decide)) (f6.1 8 (by decide) (by decide)) (f6.1 9 (by decide) (by decide))]; exact D5.par
    have A6 : NA M6 B N5 := by
      have cell : ∀ k, k ≠ 0 → k ∉ [23, 24, 25, 26] → M6 k = M5 k := f6.1
      refine ⟨by rw [f6.2 17 (by decide)]; exact A5.num, A5.lo, A5.hi, fun c hc hb => ?_, by unfold lenN; rw [cell 15 (by decide) (by decide), cell 1 (by decide) (by decide), f6.2 12 (by decide)]; exact A5.sit⟩
      rw [f6.2 12 (by decide)] at hb
      obtain ⟨c1, c2⟩ := A5.nb c hc hb
      refine ⟨c1, c2.fr (Nat.le_refl _) (cell _ (by decide) (by decide)) (cell _ (by decide) (by decide)) (cell _ (by decide) (by decide)) (cell _ (by decide) (by decide)) (cell _ (by decide) (by decide)) (fun n _ => by rw [cell 15 (by decide) (by decide)]) (fun q hq w _ => ?_) (by rw [cell 20 (by decide) (by decide)]) (p5.lenN_le hc) (fun p w _ _ _ _ _ => by rw [cell 21 (by decide) (by decide)])⟩
      rw [cell q (by omega) (by rcases hq with z | z | z | z | z <;> rw [z] <;> decide)]
    have z13 : M6 13 0 = 0 := by rw [f6.1 13 (by decide) (by decide), f5.1 13 (by decide) (by decide)]; exact h4.z
    have B6 : RB M6 B N5 := RB.of p6 R6 D6 A6 K6 F6 z13
    refine Ok.bind (r_findNeeded ⟨p6, A6, K6⟩) (fun r7 M7 f7 => ?_)
    dsimp only at f7 ⊢
    refine Ok.bzt (Or.inr rfl) ?_
    refine Ok.wr (fun M8 q8 => ?_)
    have f8 : Fr [26] [11] M6 M8 := by rw [q8]; exact (f7.mono (by decide) (by decide)).up0 (by decide)
    have fall : Fr PL PL0 M M8 := (((((f1.trans (f2.mono (by decide) (by decide))).trans (f3.mono (by decide) (by decide))).trans (f4.mono (by decide) (by decide))).trans (f5.mono (by decide) (by decide))).trans (f6.mono (by decide) (by decide))).trans (f8.mono (by decide) (by decide))
    refine ⟨(_, M8), rfl, ⟨N5, ⟨h.pf.fr fall, A5.hi, ?_, ?_, fun _ => ⟨h0, B6.fr p6 (f8.mono (by decide) (by decide))⟩⟩⟩, (fall.2 1 (by decide)).trans hb, fall.1 1 (by decide) (by decide), fall.2 32 (by decide)⟩
    · show M8 0 17 = nJ N5
      rw [f8.2 17 (by decide)]; exact A6.num
    · show ∀ n, 130 ≤ n → M8 24 n = 0 ∧ M8 25 n = 0
      rw [f8.1 24 (by decide) (by decide), f8.1 25 (by decide) (by decide)]; exact K6.out
  obtain ⟨⟨r, M'⟩, g0, g1⟩ := g
  exact ⟨r, M', g0, g1⟩
end
section
def TX (M : Sto) : Prop := RgX 126 1200 M ∧ KP M ∧ CN M
theorem TX.ix {M : Sto} (h : TX M) : IX 126 1200 M M := ⟨h.1, fun _ _ _ => rfl, h.2.1, h.2.2⟩
theorem IX.self {G M : Sto} (h : IX 126 1200 G M) : TX M := by
  refine ⟨h.1, fun i j hi => ?_, h.2.2.2⟩
  have e1 := h.2.1 (43 + i) j (pc_row (by omega) hi)
  have e2 := h.2.1 (53 + i) j (pc_row (by omega) hi)
  have e3 := h.2.1 (63 + i) j (pc_row (by omega) hi)
  have e4 := h.2.1 (73 + i) j (pc_row (by omega) hi)
  rw [e1, e2, e3, e4]
  exact h.2.2.1 i j hi
theorem TX.up {M : Sto} {k j : Nat} {v : Int32} (h : TX M) (hk : k < 43 ∨ 82 < k) (h5 : k ≠ 5) (h27 : k ≠ 27) (h1 : loX k j ≤ v.toInt) (h2 : v.toInt ≤ hiX 126 1200 k j) : TX (up2 M k j v) := by
  refine ⟨h.1.up h1 h2, fun i a hi => ?_, ?_⟩
  · rw [up2_ne _ _ _ (by omega), up2_ne _ _ _ (by omega), up2_ne _ _ _ (by omega), up2_ne _ _ _ (by omega)]
    exact h.2.1 i a hi
  · show (up2 M k j v 5 5).toInt = cnt (up2 M k j v 27) 126
    rw [up2_ne M j v (Ne.symm h5), up2_ne M j v (Ne.symm h27)]; exact h.2.2
theorem has_eq {M : Sto} {B : Nat} {x : Int32} (h : M 1 0 = nJ B) (hB : B ≤ 10) : m_P_has x M = some (@ite Int32 (hasB B x) (Classical.propDecidable _) 1 0, M) := by
  unfold m_P_has j_P_has_16 j_P_has_17
  have e := nJ_int (i := B) (by omega)
  have n0 : (0 : Int32).toInt = 0 := rfl
  rw [h]
  by_cases h1 : x < 0
  · have := Int32.lt_iff_toInt_lt.mp h1
    have h2 : ¬ hasB B x := fun q => by have := q.1; omega
    rw [if_pos h1, if_neg h2]; rfl
  · have h1' : ¬ x.toInt < (0 : Int32).toInt := fun q => h1 (Int32.lt_iff_toInt_lt.mpr q)
    rw [if_neg h1]
    by_cases h3 : nJ B ≤ x
    · have := Int32.le_iff_toInt_le.mp h3
      have h2 : ¬ hasB B x := fun q => by have := q.2; omega
      rw [if_pos h3, if_neg h2]; rfl
    · have h3' : ¬ (nJ B).toInt ≤ x.toInt := fun q => h3 (Int32.le_iff_toInt_le.mpr q)
      have h2 : hasB B x := ⟨by omega, by omega⟩
      rw [if_neg h3, if_pos h2]; rfl
theorem isTarget_eq {M : Sto} {B : Nat} {x : Int32} (h : M 1 0 = nJ B) (hB : B ≤ 10) : m_P_isTarget x M = some (@ite Int32 (hasB B x ∧ x ≠ 0) (Classical.propDecidable _) 1 0, M) := by
  unfold m_P_isTarget j_P_isTarget_16 j_P_isTarget_17
  by_cases h1 : x = 0
  · rw [if_pos h1, if_neg (show ¬ (hasB B x ∧ x ≠ 0) from fun q => q.2 h1)]; rfl
  · rw [if_neg h1, has_eq h hB]
    by_cases h2 : hasB B x
    · rw [if_pos h2, if_pos ⟨h2, h1⟩]; rfl
    · rw [if_neg h2, if_neg (fun q => h2 q.1)]; rfl
theorem isVar_eq {M : Sto} {x : Int32} : m_N_isVariable x M = some (@ite Int32 (hasB 6 x) (Classical.propDecidable _) 1 0, M) := by
  unfold m_N_isVariable j_N_isVariable_14 j_N_isVariable_15
  have n0 : (0 : Int32).toInt = 0 := rfl
  have n6 : (6 : Int32).toInt = 6 := rfl
  by_cases h1 : x < 0
  · have := Int32.lt_iff_toInt_lt.mp h1
    have h2 : ¬ hasB 6 x := fun q => by have := q.1; omega
    rw [if_pos h1, if_neg h2]; rfl
  · have h1' : ¬ x.toInt < (0 : Int32).toInt := fun q => h1 (Int32.lt_iff_toInt_lt.mpr q)
    rw [if_neg h1]
    by_cases h3 : 6 ≤ x
    · have := Int32.le_iff_toInt_le.mp h3
      have h2 : ¬ hasB 6 x := fun q => by have := q.2; omega
      rw [if_pos h3, if_neg h2]; rfl
    · have h3' : ¬ (6 : Int32).toInt ≤ x.toInt := fun q => h3 (Int32.le_iff_toInt_le.mpr q)
      have h2 : hasB 6 x := ⟨by omega, by omega⟩
      rw [if_neg h3, if_pos h2]; rfl
theorem isIns_eq {M : Sto} {k d x y : Int32} : m_N_isInstruction k d x y M = some (@ite Int32 (insOk k d x y) (Classical.propDecidable _) 1 0, M) := by
  have n0 : (0 : Int32).toInt = 0 := rfl
  have n2 : (2 : Int32).toInt = 2 := rfl
  have n5 : (5 : Int32).toInt = 5 := rfl
  have n6 : (6 : Int32).toInt = 6 := rfl
  have n7 : (7 : Int32).toInt = 7 := rfl
  have e7 := eqI k 7
  have e6 := eqI k 6
  have e0 := eqI k 0
  have no : ¬ insOk k d x y → (@ite Int32 (insOk k d x y) (Classical.propDecidable _) 1 0) = 0 := fun h => if_neg h
  have ye : insOk k d x y → (@ite Int32 (insOk k d x y) (Classical.propDecidable _) 1 0) = 1 := fun h => if_pos h
  have h38 : (0 ≤ k.toInt ∧ k.toInt ≤ 7) → (k.toInt ≠ 7 → hasB 6 d) → (k.toInt ≠ 0 → k.toInt ≠ 6 → hasB 6 x) → j_N_isInstruction_38 k y M = some (@ite Int32 (insOk k d x y) (Classical.propDecidable _) 1 0, M) := by
    intro a1 a2 a3
    unfold j_N_isInstruction_38 j_N_isInstruction_52 j_N_isInstruction_56 j_N_isInstruction_57 m_N_readsY j_N_readsY_14 j_N_readsY_15
    by_cases c1 : k < 2
    · have c1' := Int32.lt_iff_toInt_lt.mp c1
      rw [if_pos c1, ye ⟨a1, a2, a3, fun q _ => by omega⟩]; rfl
    · have c1' : ¬ k.toInt < (2 : Int32).toInt := fun q => c1 (Int32.lt_iff_toInt_lt.mpr q)
      rw [if_neg c1]
      by_cases c2 : 5 < k
      · have c2' := Int32.lt_iff_toInt_lt.mp c2
        rw [if_pos c2, ye ⟨a1, a2, a3, fun _ q => by omega⟩]; rfl
      · have c2' : ¬ (5 : Int32).toInt < k.toInt := fun q => c2 (Int32.lt_iff_toInt_lt.mpr q)
        rw [if_neg c2]
        show (m_N_isVariable y M).bind _ = _
        rw [isVar_eq]
        by_cases c3 : hasB 6 y
        · rw [if_pos c3, ye ⟨a1, a2, a3, fun _ _ => c3⟩]; rfl
        · rw [if_neg c3, no (fun q => c3 (q.2.2.2 (by omega) (by omega)))]; rfl
  have h24 : (0 ≤ k.toInt ∧ k.toInt ≤ 7) → (k.toInt ≠ 7 → hasB 6 d) → j_N_isInstruction_24 k x y M = some (@ite Int32 (insOk k d x y) (Classical.propDecidable _) 1 0, M) := by
    intro a1 a2
    unfold j_N_isInstruction_24 j_N_isInstruction_56 j_N_isInstruction_57 m_N_readsX j_N_readsX_14 j_N_readsX_15
    by_cases c1 : k = 0
    · rw [if_pos c1, ← h38 a1 a2 (fun q => absurd (e0.mp c1) (by omega))]; rfl
    · have c1' : k.toInt ≠ 0 := fun q => c1 (e0.mpr (by omega))
      rw [if_neg c1]
      by_cases c2 : k = 6
      · rw [if_pos c2, ← h38 a1 a2 (fun _ q => absurd (e6.mp c2) (by omega))]; rfl
      · have c2' : k.toInt ≠ 6 := fun q => c2 (e6.mpr (by omega))
        rw [if_neg c2]
        show (m_N_isVariable x M).bind _ = _
        rw [isVar_eq]
        by_cases c3 : hasB 6 x
        · rw [if_pos c3, ← h38 a1 a2 (fun _ _ => c3)]; rfl
        · rw [if_neg c3, no (fun q => c3 (q.2.2.1 c1' c2'))]; rfl
  unfold m_N_isInstruction
  by_cases c1 : k < 0
  · have c1' := Int32.lt_iff_toInt_lt.mp c1
    rw [if_pos c1, no (fun q => by have := q.1.1; omega)]; rfl
  · have c1' : ¬ k.toInt < (0 : Int32).toInt := fun q => c1 (Int32.lt_iff_toInt_lt.mpr q)
    rw [if_neg c1]
    by_cases c2 : 7 < k
    · have c2' := Int32.lt_iff_toInt_lt.mp c2
      rw [if_pos c2, no (fun q => by have := q.1.2; omega)]; rfl
    · have c2' : ¬ (7 : Int32).toInt < k.toInt := fun q => c2 (Int32.lt_iff_toInt_lt.mpr q)
      have a1 : 0 ≤ k.toInt ∧ k.toInt ≤ 7 := ⟨by omega, by omega⟩
      rw [if_neg c2]
      unfold m_N_setsVariable j_N_setsVariable_11
      by_cases c3 : k = 7
      · rw [if_pos c3, ← h24 a1 (fun q => absurd (e7.mp c3) (by omega))]; rfl
      · have c3' : k.toInt ≠ 7 := fun q => c3 (e7.mpr (by omega))
        rw [if_neg c3]
        show (m_N_isVariable d M).bind _ = _
        rw [isVar_eq]
        by_cases c4 : hasB 6 d
        · rw [if_pos c4, ← h24 a1 (fun _ => c4)]; rfl
        · rw [if_neg c4, no (fun q => c4 (q.2.1 c3'))]; rfl
def sE (M : Sto) (b : Nat) (e v t u : Int32) : Sto := up2 (up2 (up2 (up2 M 8 b e) 9 b v) 10 b t) 11 b u
theorem setEnd_eq {M : Sto} {b : Nat} {e v t u : Int32} (hb : b < 10) : m_P_setEnd (nJ b) e v t u M = some (0, sE M b e v t u) := by
  unfold m_P_setEnd sE wr
  rw [nJ_tn (by omega), okN_t hb (by decide)]
  rfl
theorem sE_ok {M : Sto} {b : Nat} {e v t u : Int32} (h : TX M) (hv : hasB 6 v) (ht : hasB 10 t) (hu : hasB 10 u) : TX (sE M b e v t u) ∧ (∀ k, k < 8 ∨ 11 < k → sE M b e v t u k = M k) := by
  have v1 := hv.1
  have v2 := hv.2
  have t1 := ht.1
  have t2 := ht.2
  have u1 := hu.1
  have u2 := hu.2
  refine ⟨?_, fun k hk => ?_⟩
  · unfold sE
    refine TX.up (TX.up (TX.up (TX.up h (by omega) (by decide) (by decide) (i32_lo e) (i32_hi e)) (by omega) (by decide) (by decide) (show (0 : Int) ≤ _ by omega) (show _ ≤ (5 : Int) by omega)) (by omega) (by decide) (by decide) (show (0 : Int) ≤ _ by omega) (show _ ≤ (9 : Int) by omega)) (by omega) (by decide) (by decide) (show (0 : Int) ≤ _ by omega) (show _ ≤ (9 : Int) by omega)
  · unfold sE
    rw [up2_ne _ _ _ (by omega), up2_ne _ _ _ (by omega), up2_ne _ _ _ (by omega), up2_ne _ _ _ (by omega)]
theorem hasB.z6 : hasB 6 0 := ⟨by decide, by decide⟩
theorem hasB.z10 : hasB 10 0 := ⟨by decide, by decide⟩
theorem hasB.le {B C : Nat} {x : Int32} (h : hasB B x) (hc : B ≤ C) : hasB C x := ⟨h.1, by have := h.2; omega⟩
theorem nb_ok {M : Sto} (h : TX M) : TX (up2 M 0 6 0) ∧ (∀ k, k ≠ 0 → up2 M 0 6 0 k = M k) :=
  ⟨h.up (by omega) (by decide) (by decide) (show (0 : Int) ≤ 0 by decide) (show (0 : Int) ≤ 1 by decide), fun _ hk => up2_ne _ _ _ hk⟩
theorem X_block {M : Sto} {B : Nat} (h : TX M) (hb : M 1 0 = nJ B) (hB : B ≤ 10) : (B = 10 ∧ m_N_block M = some (2, 0, M)) ∨ (B < 10 ∧ ∃ M', m_N_block M = some (0, nJ B, M') ∧ TX M' ∧ M' 1 0 = nJ (B + 1) ∧ M' 7 = upd (M 7) B 0 ∧ M' 6 4 = M 6 4) := by
  unfold m_N_block
  rw [hb]
  by_cases z : B = 10
  · refine Or.inl ⟨z, ?_⟩
    rw [z, if_neg (by decide)]
  · refine Or.inr ⟨by omega, ?_⟩
    have eB := nJ_int (i := B) (by omega)
    have n10 : (10 : Int32).toInt = 10 := rfl
    rw [if_pos (show nJ B < 10 from Int32.lt_iff_toInt_lt.mpr (by omega))]
    have g : Ok (fun a : Nat × Int32 × Sto => a.1 = 0 ∧ a.2.1 = nJ B ∧ TX a.2.2 ∧ a.2.2 1 0 = nJ (B + 1) ∧ a.2.2 7 = upd (M 7) B 0 ∧ a.2.2 6 4 = M 6 4) (if bz 0 = true then wr (up2 M 0 6 0) fun M1 => (m_P_addBlock M1).bind fun o2 => some (0, o2.1, o2.2) else none) := by
      refine Ok.bzt (Or.inl rfl) ?_
      refine Ok.wr (fun M1 q1 => ?_)
      obtain ⟨t1, k1⟩ := nb_ok h
      rw [← q1] at t1 k1
      have b1 : M1 1 0 = nJ B := by rw [k1 1 (by decide)]; exact hb
      have ga : Ok (fun a : Int32 × Sto => a.1 = nJ B ∧ TX a.2 ∧ a.2 1 0 = nJ (B + 1) ∧ a.2 7 = upd (M 7) B 0 ∧ a.2 6 4 = M 6 4) (m_P_addBlock M1) := by
        unfold m_P_addBlock
        rw [b1]
        refine Ok.okN (by omega) (by decide) ?_
        rw [nJ_tn (by omega)]
        refine Ok.wr (fun M2 q2 => ?_)
        have t2 : TX M2 := by rw [q2]; exact t1.up (by omega) (by decide) (by decide) (show (0 : Int) ≤ 0 by decide) (show (0 : Int) ≤ 6 by decide)
        rw [setEnd_eq (by omega)]
        refine Ok.bindS ?_
        dsimp only
        obtain ⟨t3, k3⟩ := sE_ok (b := B) (e := 0) t2 hasB.z6 hasB.z10 hasB.z10
        generalize sE M2 B 0 0 0 0 = M3 at t3 k3 ⊢
        have b3 : M3 1 0 = nJ B := by rw [k3 1 (by omega), q2, up2_ne _ _ _ (by decide)]; exact b1
        have e1 := nJ_int (i := B + 1) (by omega)
        rw [b3, nJ_succ (by omega)]
        refine Ok.wr (fun M4 q4 => ?_)
        refine ⟨(nJ B, M4), rfl, rfl, ?_, ?_, ?_, ?_⟩
        · show TX M4
          rw [q4]; exact t3.up (by omega) (by decide) (by decide) (show (0 : Int) ≤ _ by omega) (show _ ≤ (10 : Int) by omega)
        · show M4 1 0 = _
          rw [q4, up2_at, if_pos ⟨rfl, rfl⟩]
        · show M4 7 = _
          rw [q4, up2_ne _ _ _ (by decide), k3 7 (by omega), q2, up2_self, k1 7 (by decide)]
        · show M4 6 4 = _
          rw [q4, up2_ne _ _ _ (by decide), k3 6 (by omega), q2, up2_ne _ _ _ (by decide), k1 6 (by decide)]
      refine Ok.bind ga (fun r M2 h2 => ⟨(0, r, M2), rfl, rfl, h2⟩)
    obtain ⟨⟨c, r, M'⟩, g0, g1, g2, g3⟩ := g
    have g1 : c = 0 := g1
    have g2 : r = nJ B := g2
    subst g1
    subst g2
    exact ⟨M', g0, g3⟩
def DX (M : Sto) (x : Option (Nat × Int32 × Sto)) : Prop := ∃ M', x = some (0, 0, M') ∧ TX M' ∧ M' 1 0 = M 1 0 ∧ M' 7 = M 7 ∧ M' 6 4 = M 6 4
theorem end_ok {M : Sto} {b : Nat} {e v t u : Int32} (h : TX M) (hb : b < 10) (hv : hasB 6 v) (ht : hasB 10 t) (hu : hasB 10 u) : DX M (if bz 0 = true then wr (up2 M 0 6 0) fun M3 => (m_P_setEnd (nJ b) e v t u M3).bind fun o4 => some (0, 0, o4.2) else none) := by
  obtain ⟨t1, k1⟩ := nb_ok h
  obtain ⟨t3, k3⟩ := sE_ok (b := b) (e := e) t1 hv ht hu
  refine ⟨sE (up2 M 0 6 0) b e v t u, ?_, t3, ?_, ?_, ?_⟩
  · rw [if_pos (show bz 0 = true from rfl)]
    unfold wr
    dsimp only
    rw [setEnd_eq hb]; rfl
  · rw [k3 1 (by omega), k1 1 (by decide)]
  · rw [k3 7 (by omega), k1 7 (by decide)]
  · rw [k3 6 (by omega), k1 6 (by decide)]
theorem X_go {M : Sto} {B : Nat} {x1 x2 : Int32} (h : TX M) (hb : M 1 0 = nJ B) (hB : B ≤ 10) : ((hasB B x1 ∧ hasB B x2 ∧ x2 ≠ 0) ∧ DX M (m_N_go x1 x2 M)) ∨ (¬ (hasB B x1 ∧ hasB B x2 ∧ x2 ≠ 0) ∧ m_N_go x1 x2 M = some (1, 0, M)) := by
  unfold m_N_go
  rw [has_eq hb hB]
  by_cases c1 : hasB B x1
  · rw [if_pos c1]
    show (_ ∧ DX M ((m_P_isTarget x2 M).bind _)) ∨ (_ ∧ (m_P_isTarget x2 M).bind _ = _)
    rw [isTarget_eq hb hB]
    by_cases c2 : hasB B x2 ∧ x2 ≠ 0
    · rw [if_pos c2]
      refine Or.inl ⟨⟨c1, c2⟩, ?_⟩
      obtain ⟨b, b1, b2⟩ := c1.nat
      subst b2
      exact end_ok h (by omega) hasB.z6 (c2.1.le hB) (c2.1.le hB)
    · rw [if_neg c2]
      exact Or.inr ⟨fun q => c2 q.2, rfl⟩
  · rw [if_neg c1]
    exact Or.inr ⟨fun q => c1 q.1, rfl⟩
theorem X_fork {M : Sto} {B : Nat} {x1 x2 x3 x4 : Int32} (h : TX M) (hb : M 1 0 = nJ B) (hB : B ≤ 10) : ((hasB B x1 ∧ hasB 6 x2 ∧ (hasB B x3 ∧ x3 ≠ 0) ∧ (hasB B x4 ∧ x4 ≠ 0)) ∧ DX M (m_N_fork x1 x2 x3 x4 M)) ∨ (¬ (hasB B x1 ∧ hasB 6 x2 ∧ (hasB B x3 ∧ x3 ≠ 0) ∧ (hasB B x4 ∧ x4 ≠ 0)) ∧ m_N_fork x1 x2 x3 x4 M = some (1, 0, M)) := by
  unfold m_N_fork
  rw [has_eq hb hB]
  by_cases c1 : hasB B x1
  · rw [if_pos c1]
    show (_ ∧ DX M ((m_N_isVariable x2 M).bind _)) ∨ (_ ∧ (m_N_isVariable x2 M).bind _ = _)
    rw [isVar_eq]
    by_cases c2 : hasB 6 x2
    · rw [if_pos c2]
      show (_ ∧ DX M ((m_P_isTarget x3 M).bind _)) ∨ (_ ∧ (m_P_isTarget x3 M).bind _ = _)
      rw [isTarget_eq hb hB]
      by_cases c3 : hasB B x3 ∧ x3 ≠ 0
      · rw [if_pos c3]
        show (_ ∧ DX M ((m_P_isTarget x4 M).bind _)) ∨ (_ ∧ (m_P_isTarget x4 M).bind _ = _)
        rw [isTarget_eq hb hB]
        by_cases c4 : hasB B x4 ∧ x4 ≠ 0
        · rw [if_pos c4]
          refine Or.inl ⟨⟨c1, c2, c3, c4⟩, ?_⟩
          obtain ⟨b, b1, b2⟩ := c1.nat
          subst b2
          exact end_ok h (by omega) c2 (c3.1.le hB) (c4.1.le hB)
        · rw [if_neg c4]
          exact Or.inr ⟨fun q => c4 q.2.2.2, rfl⟩
      · rw [if_neg c3]
        exact Or.inr ⟨fun q => c3 q.2.2.1, rfl⟩
    · rw [if_neg c2]
      exact Or.inr ⟨fun q => c2 q.2.1, rfl⟩
  · rw [if_neg c1]
    exact Or.inr ⟨fun q => c1 q.1, rfl⟩
theorem X_stop {M : Sto} {B : Nat} {x1 : Int32} (h : TX M) (hb : M 1 0 = nJ B) (hB : B ≤ 10) : (hasB B x1 ∧ DX M (m_N_stop x1 M)) ∨ (¬ hasB B x1 ∧ m_N_stop x1 M = some (1, 0, M)) := by
  unfold m_N_stop
  rw [has_eq hb hB]
  by_cases c1 : hasB B x1
  · rw [if_pos c1]
    refine Or.inl ⟨c1, ?_⟩
    obtain ⟨b, b1, b2⟩ := c1.nat
    subst b2
    exact end_ok h (by omega) hasB.z6 hasB.z10 hasB.z10
  · rw [if_neg c1]
    exact Or.inr ⟨c1, rfl⟩
theorem X_clear {M : Sto} (h : TX M) : ∃ M', m_N_clear M = some (0, M') ∧ TX M' ∧ M' 1 0 = 0 ∧ M' 7 = M 7 ∧ M' 6 4 = M 6 4 := by
  obtain ⟨t1, k1⟩ := nb_ok h
  refine ⟨up2 (up2 M 0 6 0) 1 0 0, rfl, t1.up (by omega) (by decide) (by decide) (show (0 : Int) ≤ 0 by decide) (show (0 : Int) ≤ 10 by decide), ?_, ?_, ?_⟩
  · rw [up2_at, if_pos ⟨rfl, rfl⟩]
  · rw [up2_ne _ _ _ (by decide), k1 7 (by decide)]
  · rw [up2_ne _ _ _ (by decide), k1 6 (by decide)]
theorem X_put {M : Sto} {B b l : Nat} {x2 x3 x4 x5 : Int32} (h : TX M) (hb : M 1 0 = nJ B) (hB : B ≤ 10) (hbB : b < B) (hl : l ≤ 6) (hle : M 7 b = nJ l) (hi : insOk x2 x3 x4 x5) :
    (l = 6 ∧ m_N_put (nJ b) x2 x3 x4 x5 M = some (2, 0, M)) ∨ (l < 6 ∧ ∃ M', m_N_put (nJ b) x2 x3 x4 x5 M = some (0, nJ (l + 1), M') ∧ TX M' ∧ M' 1 0 = M 1 0 ∧ M' 7 = upd (M 7) b (nJ (l + 1)) ∧ M' 6 4 = M 6 4) := by
  have eb := nJ_int (i := b) (by omega)
  have el := nJ_int (i := l) (by omega)
  have n6 : (6 : Int32).toInt = 6 := rfl
  have c1 : hasB B (nJ b) := ⟨by omega, by omega⟩
  have e : m_N_put (nJ b) x2 x3 x4 x5 M = if M 7 b < 6 then (if bz 0 then (wr (up2 M 0 6 0) fun M3 => (m_P_append (nJ b) x2 x3 x4 x5 M3).bind fun o4 => some (0, o4.1, o4.2)) else none) else (some (2, 0, M)) := by
    unfold m_N_put
    rw [has_eq hb hB, if_pos c1]
    show (m_N_isInstruction x2 x3 x4 x5 M).bind _ = _
    rw [isIns_eq, if_pos hi]
    show (if ok (nJ b) 10 = true then (if M 7 (nJ b).toNatClampNeg < 6 then _ else _) else _) = _
    rw [if_pos (okN_t (by omega) (by decide)), nJ_tn (by omega)]
  rw [e, hle]
  by_cases z : l = 6
  · refine Or.inl ⟨z, ?_⟩
    rw [z, if_neg (by decide)]
  · refine Or.inr ⟨by omega, ?_⟩
    rw [if_pos (show nJ l < 6 from Int32.lt_iff_toInt_lt.mpr (by omega))]
    have g : Ok (fun a : Nat × Int32 × Sto => a.1 = 0 ∧ a.2.1 = nJ (l + 1) ∧ TX a.2.2 ∧ a.2.2 1 0 = M 1 0 ∧ a.2.2 7 = upd (M 7) b (nJ (l + 1)) ∧ a.2.2 6 4 = M 6 4) (if bz 0 then (wr (up2 M 0 6 0) fun M3 => (m_P_append (nJ b) x2 x3 x4 x5 M3).bind fun o4 => some (0, o4.1, o4.2)) else none) := by
      refine Ok.bzt (Or.inl rfl) ?_
      refine Ok.wr (fun M1 q1 => ?_)
      obtain ⟨t1, k1⟩ := nb_ok h
      rw [← q1] at t1 k1
      have b1 : M1 7 b = nJ l := by rw [k1 7 (by decide)]; exact hle
      have ga : Ok (fun a : Int32 × Sto => a.1 = nJ (l + 1) ∧ TX a.2 ∧ a.2 1 0 = M 1 0 ∧ a.2 7 = upd (M 7) b (nJ (l + 1)) ∧ a.2 6 4 = M 6 4) (m_P_append (nJ b) x2 x3 x4 x5 M1) := by
        unfold m_P_append
        rw [nJ_tn (i := b) (by omega), b1, nJ_tn (i := l) (by omega)]
        refine Ok.okN (by omega) (by decide) ?_
        refine Ok.okN (by omega) (by decide) ?_
        refine Ok.okN (by omega) (by decide) ?_
        refine Ok.wr (fun M2 q2 => ?_)
        refine Ok.okN (by omega) (by decide) ?_
        refine Ok.okN (by omega) (by decide) ?_
        refine Ok.wr (fun M3 q3 => ?_)
        refine Ok.okN (by omega) (by decide) ?_
        refine Ok.okN (by omega) (by decide) ?_
        refine Ok.wr (fun M4 q4 => ?_)
        refine Ok.okN (by omega) (by decide) ?_
        refine Ok.okN (by omega) (by decide) ?_
        refine Ok.wr (fun M5 q5 => ?_)
        refine Ok.okN (by omega) (by decide) ?_
        rw [nJ_succ (by omega)]
        refine Ok.wr (fun M6 q6 => ?_)
        refine Ok.okN (by omega) (by decide) ?_
        have low : ∀ k, k < 43 → k ≠ 7 → M6 k = M1 k := fun k hk h7 => by
          rw [q6, up2_ne _ _ _ h7, q5, up2_ne _ _ _ (by omega), q4, up2_ne _ _ _ (by omega), q3, up2_ne _ _ _ (by omega), q2, up2_ne _ _ _ (by omega)]
        have c7 : M6 7 = upd (M1 7) b (nJ (l + 1)) := by
          rw [q6, up2_self, q5, up2_ne _ _ _ (by omega), q4, up2_ne _ _ _ (by omega), q3, up2_ne _ _ _ (by omega), q2, up2_ne _ _ _ (by omega)]
        have rg : ∀ k j, 43 ≤ k → k ≤ 82 → loX k j = -2147483648 ∧ hiX 126 1200 k j = 2147483647 := fun k j h1 h2 => by
          unfold loX hiX
          rw [if_neg (by omega), if_neg (by omega), if_pos (by omega), if_neg (by omega), if_pos (by omega)]
          have e1 : loA[k - 7]? = none := List.getElem?_eq_none (by show 27 ≤ k - 7; omega)
          have e2 : hiA[k - 7]? = none := List.getElem?_eq_none (by show 27 ≤ k - 7; omega)
          rw [List.getD_eq_getElem?_getD, List.getD_eq_getElem?_getD, e1, e2]
          exact ⟨rfl, rfl⟩
        have upR : ∀ {Mz : Sto} {k j : Nat} {v : Int32}, RgX 126 1200 Mz → 43 ≤ k → k ≤ 82 → RgX 126 1200 (up2 Mz k j v) := fun hz h1 h2 => hz.up (by rw [(rg _ _ h1 h2).1]; exact i32_lo _) (by rw [(rg _ _ h1 h2).2]; exact i32_hi _)
        have el1 := nJ_int (i := l + 1) (by omega)
        have r6 : RgX 126 1200 M6 := by
          rw [q6, q5, q4, q3, q2]
          exact (upR (upR (upR (upR t1.1 (by omega) (by omega)) (by omega) (by omega)) (by omega) (by omega)) (by omega) (by omega)).up (show (0 : Int) ≤ _ by omega) (show _ ≤ (6 : Int) by omega)
        have at_ : ∀ i j, i < 10 → (M6 (43 + i) j = if i = b ∧ j = l then x2 else M1 (43 + i) j) ∧ (M6 (53 + i) j = if i = b ∧ j = l then x3 else M1 (53 + i) j) ∧ (M6 (63 + i) j = if i = b ∧ j = l then x4 else M1 (63 + i) j) ∧ (M6 (73 + i) j = if i = b ∧ j = l then x5 else M1 (73 + i) j) := by
          intro i j hi'
          refine ⟨?_, ?_, ?_, ?_⟩
          · rw [q6, up2_ne _ _ _ (by omega), q5, up2_ne _ _ _ (by omega), q4, up2_ne _ _ _ (by omega), q3, up2_ne _ _ _ (by omega), q2, up2_at]
            by_cases z : i = b ∧ j = l
            · rw [if_pos z, if_pos ⟨by omega, z.2⟩]
            · rw [if_neg z, if_neg (fun q => z ⟨by omega, q.2⟩)]
          · rw [q6, up2_ne _ _ _ (by omega), q5, up2_ne _ _ _ (by omega), q4, up2_ne _ _ _ (by omega), q3, up2_at]
            by_cases z : i = b ∧ j = l
            · rw [if_pos z, if_pos ⟨by omega, z.2⟩]
            · rw [if_neg z, if_neg (fun q => z ⟨by omega, q.2⟩), q2, up2_ne _ _ _ (by omega)]
          · rw [q6, up2_ne _ _ _ (by omega), q5, up2_ne _ _ _ (by omega), q4, up2_at]
            by_cases z : i = b ∧ j = l
            · rw [if_pos z, if_pos ⟨by omega, z.2⟩]
            · rw [if_neg z, if_neg (fun q => z ⟨by omega, q.2⟩), q3, up2_ne _ _ _ (by omega), q2, up2_ne _ _ _ (by omega)]
          · rw [q6, up2_ne _ _ _ (by omega), q5, up2_at]
            by_cases z : i = b ∧ j = l
            · rw [if_pos z, if_pos ⟨by omega, z.2⟩]
            · rw [if_neg z, if_neg (fun q => z ⟨by omega, q.2⟩), q4, up2_ne _ _ _ (by omega), q3, up2_ne _ _ _ (by omega), q2, up2_ne _ _ _ (by omega)]
        have kp6 : KP M6 := by
          intro i j hi'
          obtain ⟨a1, a2, a3, a4⟩ := at_ i j hi'
          rw [a1, a2, a3, a4]
          by_cases z : i = b ∧ j = l
          · rw [if_pos z, if_pos z, if_pos z, if_pos z]
            refine ⟨fun q => ?_, fun q1 q2 => ?_, fun q1 q2 => ?_⟩
            · have := hi.2.1 q
              exact ⟨this.1, by have := this.2; omega⟩
            · have := hi.2.2.1 q1 q2
              exact ⟨this.1, by have := this.2; omega⟩
            · have := hi.2.2.2 q1 q2
              exact ⟨this.1, by have := this.2; omega⟩
          · rw [if_neg z, if_neg z, if_neg z, if_neg z]
            exact t1.2.1 i j hi'
        have cn6 : CN M6 := by
          show (M6 5 5).toInt = cnt (M6 27) 126
          rw [low 5 (by decide) (by decide), low 27 (by decide) (by decide)]; exact t1.2.2
        have e7 : M6 7 b = nJ (l + 1) := by rw [c7, upd_at, if_pos rfl]
        rw [e7]
        refine ⟨(nJ (l + 1), M6), rfl, rfl, ⟨r6, kp6, cn6⟩, ?_, ?_, ?_⟩
        · show M6 1 0 = _
          rw [low 1 (by decide) (by decide), k1 1 (by decide)]
        · show M6 7 = _
          rw [c7, k1 7 (by decide)]
        · show M6 6 4 = _
          rw [low 6 (by decide) (by decide), k1 6 (by decide)]
      refine Ok.bind ga (fun r M2 h2 => ⟨(0, r, M2), rfl, rfl, h2⟩)
    obtain ⟨⟨c, r, M'⟩, g0, g1, g2, g3⟩ := g
    have g1 : c = 0 := g1
    have g2 : r = nJ (l + 1) := g2
    subst g1
    subst g2
    exact ⟨M', g0, g3⟩
theorem X_putN {M : Sto} {B : Nat} {x1 x2 x3 x4 x5 : Int32} (hb : M 1 0 = nJ B) (hB : B ≤ 10) (hn : ¬ (hasB B x1 ∧ insOk x2 x3 x4 x5)) : m_N_put x1 x2 x3 x4 x5 M = some (1, 0, M) := by
  unfold m_N_put
  rw [has_eq hb hB]
  by_cases c1 : hasB B x1
  · rw [if_pos c1]
    show (m_N_isInstruction x2 x3 x4 x5 M).bind _ = _
    rw [isIns_eq, if_neg (fun q => hn ⟨c1, q⟩)]; rfl
  · rw [if_neg c1]; rfl
theorem X_give {M : Sto} {g : Nat} {x : Int32} (h : TX M) (hg : g ≤ 16) (hgi : M 6 4 = nJ g) : ∃ r M', m_N_give x M = some (r, M') ∧ TX M' ∧ M' 1 0 = M 1 0 ∧ M' 7 = M 7 ∧ ((g = 16 ∧ r = 0 ∧ M' 6 4 = M 6 4) ∨ (g < 16 ∧ r = 1 ∧ M' 6 4 = nJ (g + 1))) := by
  have eg := nJ_int (i := g) (by omega)
  have n16 : (16 : Int32).toInt = 16 := rfl
  have gg : Ok (fun a : Int32 × Sto => TX a.2 ∧ a.2 1 0 = M 1 0 ∧ a.2 7 = M 7 ∧ ((g = 16 ∧ a.1 = 0 ∧ a.2 6 4 = M 6 4) ∨ (g < 16 ∧ a.1 = 1 ∧ a.2 6 4 = nJ (g + 1)))) (m_A_addInput x M) := by
    unfold m_A_addInput
    rw [hgi]
    by_cases z : g = 16
    · rw [z, if_neg (by decide)]
      exact Ok.bzt (Or.inl rfl) ⟨(0, M), rfl, h, rfl, rfl, Or.inl ⟨rfl, rfl, by rw [← z]; exact hgi⟩⟩
    · rw [if_pos (show nJ g < 16 from Int32.lt_iff_toInt_lt.mpr (by omega))]
      refine Ok.okN (by omega) (by decide) ?_
      refine Ok.wr (fun M1 q1 => ?_)
      have t1 : TX M1 := by rw [q1]; exact h.up (by omega) (by decide) (by decide) (i32_lo _) (i32_hi _)
      have e1 : M1 6 4 = nJ g := by rw [q1, up2_ne _ _ _ (by decide)]; exact hgi
      have eg1 := nJ_int (i := g + 1) (by omega)
      rw [e1, nJ_succ (by omega)]
      refine Ok.wr (fun M2 q2 => ?_)
      have t2 : TX M2 := by rw [q2]; exact t1.up (by omega) (by decide) (by decide) (show (0 : Int) ≤ _ by omega) (show _ ≤ (16 : Int) by omega)
      refine Ok.bzt (Or.inr rfl) ⟨(1, M2), rfl, t2, ?_, ?_, Or.inr ⟨by omega, rfl, ?_⟩⟩
      · show M2 1 0 = _
        rw [q2, up2_ne _ _ _ (by decide), q1, up2_ne _ _ _ (by decide)]
      · show M2 7 = _
        rw [q2, up2_ne _ _ _ (by decide), q1, up2_ne _ _ _ (by decide)]
      · show M2 6 4 = _
        rw [q2, up2_at, if_pos ⟨rfl, rfl⟩]
  unfold m_N_give
  obtain ⟨⟨r, M'⟩, g0, g1⟩ := gg
  rw [g0]
  have hr : r = 0 ∨ r = 1 := g1.2.2.2.elim (fun z => Or.inl z.2.1) fun z => Or.inr z.2.1
  refine ⟨r, M', ?_, g1⟩
  show (if bz r = true then some (r, M') else none) = _
  rw [if_pos (show bz r = true from decide_eq_true hr)]
theorem X_take {M : Sto} (h : TX M) : ∃ M', m_N_take M = some (0, M') ∧ TX M' ∧ M' 1 0 = M 1 0 ∧ M' 7 = M 7 ∧ M' 6 4 = 0 := by
  refine ⟨up2 M 6 4 0, rfl, h.up (by omega) (by decide) (by decide) (show (0 : Int) ≤ 0 by decide) (show (0 : Int) ≤ 16 by decide), ?_, ?_, ?_⟩
  · rw [up2_ne _ _ _ (by decide)]
  · rw [up2_ne _ _ _ (by decide)]
  · rw [up2_at, if_pos ⟨rfl, rfl⟩]
end
section
def Rel (MX MR : Sto) : Prop := MX 1 0 = MR 0 1 ∧ MX 7 = MR 1 ∧ MX 6 4 = MR 0 32
def InvP (MX MR : Sto) : Prop := TX MX ∧ (∃ B N, IR MR B N) ∧ Rel MX MR
def cmpP (k : Nat) : Prop := k = 0 ∨ k = 1 ∨ k = 2 ∨ k = 3 ∨ k = 4 ∨ k = 11
theorem Rel.to {MX MR MX' MR' : Sto} (h : Rel MX MR) (x1 : MX' 1 0 = MX 1 0) (x7 : MX' 7 = MX 7) (x6 : MX' 6 4 = MX 6 4) (r1 : MR' 0 1 = MR 0 1) (r7 : MR' 1 = MR 1) (r6 : MR' 0 32 = MR 0 32) : Rel MX' MR' :=
  ⟨by rw [x1, r1]; exact h.1, by rw [x7, r7]; exact h.2.1, by rw [x6, r6]; exact h.2.2⟩
theorem IX.keep {G M : Sto} (h : IX 126 1200 G M) : M 1 0 = G 1 0 ∧ M 7 = G 7 ∧ M 6 4 = G 6 4 := ⟨h.2.1 1 0 rfl, funext fun j => h.2.1 7 j rfl, h.2.1 6 4 rfl⟩
theorem IR.keep {M M' : Sto} {B N : Nat} (h : IR M B N) (f : Fr [28, 29, 30] QL0 M M') : IR M' B N ∧ M' 0 1 = M 0 1 ∧ M' 1 = M 1 ∧ M' 0 32 = M 0 32 := ⟨h.fr f, f.2 1 (by decide), f.1 1 (by decide) (by decide), f.2 32 (by decide)⟩
theorem al_q {MX MR : Sto} {B N a : Nat} {cs : List Nat} {cm : Prop} {x : Option (Nat × Int32 × Sto)} {y : Option (Int32 × Sto)} (hR : IR MR B N) (hr : Rel MX MR) (hx : Ok (fun a => IX 126 1200 MX a.2.2 ∧ a.1 ∈ cs) x) (hy : Ok (fun a => Fr [28, 29, 30] QL0 MR a.2) y) (hc : ¬ cm) : Al InvP cm a cs x y := by
  obtain ⟨⟨c, r, M1⟩, rfl, h1, h2⟩ := hx
  obtain ⟨⟨r2, M2⟩, rfl, f⟩ := hy
  obtain ⟨k1, k2, k3⟩ := IX.keep h1
  obtain ⟨i1, i2, i3, i4⟩ := hR.keep f
  exact ⟨c, r, M1, r2, M2, rfl, h2, rfl, ⟨h1.self, ⟨B, N, i1⟩, hr.to k1 k2 k3 i2 i3 i4⟩, fun q => absurd q hc⟩
theorem al_0 {MX MR : Sto} {B N : Nat} {cm : Prop} {x : Option (Int32 × Sto)} {y : Option (Int32 × Sto)} (hX : TX MX) (hR : IR MR B N) (hr : Rel MX MR) (hx : Ok (fun a => MX = a.2) x) (hy : Ok (fun a => Fr [28, 29, 30] QL0 MR a.2) y) (hc : ¬ cm) : Al0 InvP cm x y := by
  obtain ⟨⟨r, M1⟩, rfl, h1⟩ := hx
  obtain ⟨⟨r2, M2⟩, rfl, f⟩ := hy
  have h1 : MX = M1 := h1
  subst h1
  obtain ⟨i1, i2, i3, i4⟩ := hR.keep f
  exact ⟨r, MX, r2, M2, rfl, rfl, ⟨hX, ⟨B, N, i1⟩, hr.to rfl rfl rfl i2 i3 i4⟩, fun q => absurd q hc⟩
theorem q0 {M : Sto} {y : Option (Int32 × Sto)} (h : Ok (fun a => Fr [] [0] M a.2) y) : Ok (fun a => Fr [28, 29, 30] QL0 M a.2) y := h.to fun _ f => Fr.mono f (by decide) (by decide)
theorem al_r {MX MR : Sto} {B N a c : Nat} {cs : List Nat} {cm : Prop} {e : Int32} {x : Option (Nat × Int32 × Sto)} {y : Option (Int32 × Sto)} (hX : TX MX) (hR : IR MR B N) (hr : Rel MX MR) (hx : x = some (c, 0, MX)) (hy : Ref MR e y) (hc : c ∈ cs) (hk : e = kc a c) : Al InvP cm a cs x y := by
  obtain ⟨M2, h2, h3, f⟩ := hy
  obtain ⟨i1, i2, i3, i4⟩ := hR.keep (f.mono (by decide) (by decide))
  exact ⟨c, 0, MX, 0, M2, hx, hc, h2, ⟨hX, ⟨B, N, i1⟩, hr.to rfl rfl rfl i2 i3 i4⟩, fun _ => ⟨h3.trans hk, fun _ => rfl⟩⟩
theorem al_d {MX MR : Sto} {B N a : Nat} {cs : List Nat} {cm : Prop} {x : Option (Nat × Int32 × Sto)} {y : Option (Int32 × Sto)} (hr : Rel MX MR) (hx : DX MX x) (hy : Dn MR B N y) (hc : 0 ∈ cs) : Al InvP cm a cs x y := by
  obtain ⟨M1, h1, t1, k1, k2, k3⟩ := hx
  obtain ⟨M2, h2, h3, i1, i2, i3, i4⟩ := hy
  exact ⟨0, 0, M1, 0, M2, h1, hc, h2, ⟨t1, ⟨B, N, i1⟩, hr.to k1 k2 k3 i2 i3 i4⟩, fun _ => ⟨h3, fun _ => rfl⟩⟩
theorem steps_p : Steps InvP cmpP := by
  intro MX MR hI
  obtain ⟨hX, ⟨B, N, hR⟩, hr⟩ := hI
  have hB := hR.pf.hB
  have hb : MX 1 0 = nJ B := hr.1.trans hR.pf.blk
  have iX := hX.ix
  refine ⟨?_, fun x1 x2 x3 x4 x5 => ?_, fun x1 x2 => ?_, fun x1 x2 x3 x4 => ?_, fun x1 => ?_, ?_, ?_, fun x1 x2 => ?_, fun x1 x2 x3 => ?_, fun x1 x2 x3 => ?_, fun x1 x2 => ?_, fun x1 => ?_, ?_, fun x1 x2 _ => ?_, ?_, fun x1 => ?_, fun x1 => ?_⟩
  · -- block
    rcases X_block hX hb hB with ⟨z, hx⟩ | ⟨z, M1, hx, t1, k1, k2, k3⟩
    · rcases R_block hR with ⟨_, hy⟩ | ⟨y, _⟩
      · exact al_r hX hR hr hx hy (by decide) (by decide)
      · omega
    · rcases R_block hR with ⟨y, _⟩ | ⟨_, M2, hy, e2, i1, i2, i3, i4⟩
      · omega
      · exact ⟨0, nJ B, M1, nJ B, M2, hx, by decide, hy, ⟨t1, ⟨B + 1, N, i1⟩, by rw [k1, i2], by rw [k2, i3, hr.2.1], by rw [k3, i4]; exact hr.2.2⟩, fun _ => ⟨e2, fun _ => rfl⟩⟩
  · -- put
    rcases RQ_put (x1 := x1) (x2 := x2) (x3 := x3) (x4 := x4) (x5 := x5) hR with ⟨hn, hy⟩ | ⟨hc, b, l, b1, b2, b3, hy⟩
    · exact al_r hX hR hr (X_putN hb hB hn) hy (by decide) (by decide)
    · have hl : l ≤ 6 := by rcases hy with ⟨y, _⟩ | ⟨y, _⟩ <;> omega
      subst b2
      rcases X_put hX hb hB b1 hl (by rw [hr.2.1]; exact b3) hc.2 with ⟨z, hx⟩ | ⟨z, M1, hx, t1, k1, k2, k3⟩
      · rcases hy with ⟨_, hy⟩ | ⟨y, _⟩
        · exact al_r hX hR hr hx hy (by decide) (by decide)
        · omega
      · rcases hy with ⟨y, _⟩ | ⟨_, M2, hy, e2, i1, i2, i3, i4⟩
        · omega
        · exact ⟨0, nJ (l + 1), M1, nJ (l + 1), M2, hx, by decide, hy, ⟨t1, ⟨B, N, i1⟩, by rw [k1, i2]; exact hr.1, by rw [k2, i3, hr.2.1], by rw [k3, i4]; exact hr.2.2⟩, fun _ => ⟨e2, fun _ => rfl⟩⟩
  · -- go
    rcases X_go (x1 := x1) (x2 := x2) hX hb hB with ⟨c, hx⟩ | ⟨c, hx⟩
    · rcases R_go (x1 := x1) (x2 := x2) hR with ⟨_, hy⟩ | ⟨d, _⟩
      · exact al_d hr hx hy (by decide)
      · exact absurd c d
    · rcases R_go (x1 := x1) (x2 := x2) hR with ⟨d, _⟩ | ⟨_, hy⟩
      · exact absurd d c
      · exact al_r hX hR hr hx hy (by decide) (by decide)
  · -- fork
    rcases X_fork (x1 := x1) (x2 := x2) (x3 := x3) (x4 := x4) hX hb hB with ⟨c, hx⟩ | ⟨c, hx⟩
    · rcases R_fork (x1 := x1) (x2 := x2) (x3 := x3) (x4 := x4) hR with ⟨_, hy⟩ | ⟨d, _⟩
      · exact al_d hr hx hy (by decide)
      · exact absurd c d
    · rcases R_fork (x1 := x1) (x2 := x2) (x3 := x3) (x4 := x4) hR with ⟨d, _⟩ | ⟨_, hy⟩
      · exact absurd d c
      · exact al_r hX hR hr hx hy (by decide) (by decide)
  · -- stop
    rcases X_stop (x1 := x1) hX hb hB with ⟨c, hx⟩ | ⟨c, hx⟩
    · rcases R_stop (x1 := x1) hR with ⟨_, hy⟩ | ⟨d, _⟩
      · exact al_d hr hx hy (by decide)
      · exact absurd c d
    · rcases R_stop (x1 := x1) hR with ⟨d, _⟩ | ⟨_, hy⟩
      · exact absurd d c
      · exact al_r hX hR hr hx hy (by decide) (by decide)
  · -- clear
    obtain ⟨M1, hx, t1, k1, k2, k3⟩ := X_clear hX
    obtain ⟨M2, hy, i1, i2, i3, i4⟩ := R_clear hR
    exact ⟨0, M1, 0, M2, hx, hy, ⟨t1, ⟨0, N, i1⟩, by rw [k1, i2], by rw [k2, i3]; exact hr.2.1, by rw [k3, i4]; exact hr.2.2⟩, fun _ => rfl⟩
  · -- build
    obtain ⟨⟨c, r, M1⟩, hx, h1, h2⟩ := s_m_N_build iX (by decide)
    obtain ⟨r2, M2, hy, ⟨N', i1⟩, i2, i3, i4⟩ := R_build hR
    obtain ⟨k1, k2, k3⟩ := IX.keep h1
    exact ⟨c, r, M1, r2, M2, hx, h2, hy, ⟨h1.self, ⟨B, N', i1⟩, hr.to k1 k2 k3 i2 i3 i4⟩, fun q => absurd q (by unfold cmpP; decide)⟩
  · exact al_q hR hr (s_m_N_look iX) (q0 (R_look hR)) (by unfold cmpP; decide)
  · exact al_q hR hr (s_m_N_phi iX) (q0 (R_phi hR)) (by unfold cmpP; decide)
  · exact al_q hR hr (s_m_N_uses iX) (q0 (R_uses hR)) (by unfold cmpP; decide)
  · exact al_q hR hr (s_m_N_name iX (by decide)) (q0 (R_name hR)) (by unfold cmpP; decide)
  · -- give
    obtain ⟨g, g1, g2⟩ := hR.pf.inp
    obtain ⟨r, M1, hx, t1, k1, k2, k3⟩ := X_give (x := x1) hX g1 (hr.2.2.trans g2)
    obtain ⟨r2, M2, hy, i1, i2, i3, i4⟩ := R_give (x := x1) hR g1 g2
    rcases k3 with ⟨a1, a2, a3⟩ | ⟨a1, a2, a3⟩
    · rcases i4 with ⟨_, b2, b3⟩ | ⟨b1, _⟩
      · exact ⟨r, M1, r2, M2, hx, hy, ⟨t1, ⟨B, N, i1⟩, hr.to k1 k2 a3 i2 i3 b3⟩, fun _ => by rw [a2, b2]⟩
      · omega
    · rcases i4 with ⟨b1, _⟩ | ⟨_, b2, b3⟩
      · omega
      · exact ⟨r, M1, r2, M2, hx, hy, ⟨t1, ⟨B, N, i1⟩, by rw [k1, i2]; exact hr.1, by rw [k2, i3]; exact hr.2.1, by rw [a3, b3]⟩, fun _ => by rw [a2, b2]⟩
  · -- take
    obtain ⟨M1, hx, t1, k1, k2, k3⟩ := X_take hX
    obtain ⟨M2, hy, i1, i2, i3, i4⟩ := R_take hR
    exact ⟨0, M1, 0, M2, hx, hy, ⟨t1, ⟨B, N, i1⟩, by rw [k1, i2]; exact hr.1, by rw [k2, i3]; exact hr.2.1, by rw [k3, i4]⟩, fun _ => rfl⟩
  · exact al_q hR hr (s_m_N_run iX (by decide)) (r_run hR.pf hR.blt) (by unfold cmpP; decide)
  · exact al_0 hX hR hr ((s_m_N_told iX (by decide)).to fun _ h => h.1) (q0 R_told) (by unfold cmpP; decide)
  · exact al_q hR hr (s_m_N_heard iX) (q0 R_heard) (by unfold cmpP; decide)
  · exact al_0 hX hR hr (s_m_N_spent iX) (q0 R_spent) (by unfold cmpP; decide)
theorem iteL {c : Prop} {d : Decidable c} {a b : Int} (ha : a ≤ 0) (hb : b ≤ 0) : (@ite _ c d a b) ≤ 0 := by
  by_cases h : c
  · rw [if_pos h]; exact ha
  · rw [if_neg h]; exact hb
theorem iteG {c : Prop} {d : Decidable c} {a b : Int} (ha : 0 ≤ a) (hb : 0 ≤ b) : 0 ≤ (@ite _ c d a b) := by
  by_cases h : c
  · rw [if_pos h]; exact ha
  · rw [if_neg h]; exact hb
theorem inv_0 : InvP M0 M0 := by
  have z : ∀ k j, M0 k j = 0 := fun _ _ => rfl
  refine ⟨⟨fun k j => ?_, fun i j _ => ?_, ?_⟩, ⟨0, 0, ⟨⟨by omega, rfl, fun b _ => ⟨0, by omega, rfl⟩, fun b hb => by omega, fun j => ⟨0, by omega, rfl⟩, fun j _ => ⟨0, by omega, rfl⟩, fun j h => absurd rfl h, fun j h => absurd rfl h, ⟨0, by omega, rfl⟩⟩, by omega, rfl, fun _ _ => ⟨rfl, rfl⟩, fun q => absurd rfl q⟩⟩, rfl, rfl, rfl⟩
  · have e : (M0 k j).toInt = 0 := rfl
    rw [e]
    have hlo : ∀ n, loA.getD n (-2147483648) ≤ 0 := by
      intro n
      by_cases h : n < 27
      · have : ∀ n, n < 27 → loA.getD n (-2147483648) ≤ 0 := by decide
        exact this n h
      · rw [List.getD_eq_getElem?_getD, List.getElem?_eq_none (by show 27 ≤ n; omega)]; decide
    have hhi : ∀ n, 0 ≤ hiA.getD n 2147483647 := by
      intro n
      by_cases h : n < 27
      · have : ∀ n, n < 27 → 0 ≤ hiA.getD n 2147483647 := by decide
        exact this n h
      · rw [List.getD_eq_getElem?_getD, List.getElem?_eq_none (by show 27 ≤ n; omega)]; decide
    refine ⟨?_, ?_⟩
    · unfold loX
      repeat' apply iteL
      all_goals first | exact hlo _ | decide
    · unfold hiX
      repeat' apply iteG
      all_goals first | exact hhi _ | decide
  · have a : (0 : Int) ≤ 0 ∧ (0 : Int) ≤ 5 := ⟨by decide, by decide⟩
    exact ⟨fun _ => a, fun _ _ => a, fun _ _ => a⟩
  · show (M0 5 5).toInt = cnt (M0 27) 126
    rw [cnt_zero (M0 27) 126 (fun _ _ => rfl)]; rfl
end
