def m_P_setEnd (x1 x2 x3 x4 x5 : Int32) (M : Sto) : Option (Int32 × Sto) :=
  if ok x1 10 then ((wr (up2 M 8 x1.toNatClampNeg x2) fun M1 => (if ok x1 10 then ((wr (up2 M1 9 x1.toNatClampNeg x3) fun M2 => (if ok x1 10 then ((wr (up2 M2 10 x1.toNatClampNeg x4) fun M3 => (if ok x1 10 then ((wr (up2 M3 11 x1.toNatClampNeg x5) fun M4 => (some (0, M4)))) else none))) else none))) else none))) else none
def m_P_addBlock (M : Sto) : Option (Int32 × Sto) :=
  if ok (M 1 0) 10 then ((wr (up2 M 7 (M 1 0).toNatClampNeg 0) fun M1 => ((m_P_setEnd (M 1 0) 0 0 0 0 M1).bind fun o2 => wr (up2 o2.2 1 0 ((o2.2 1 0) + 1)) fun M3 => some (M 1 0, M3)))) else none
def m_N_block (M : Sto) : Option (Nat × Int32 × Sto) :=
  if (M 1 0) < 10 then (if bz 0 then (wr (up2 M 0 6 0) fun M1 => (m_P_addBlock M1).bind fun o2 => some (0, o2.1, o2.2)) else none) else (some (2, 0, M))
def j_P_has_17 (s0 : Int32) (M : Sto) : Option (Int32 × Sto) :=
  if bz s0 then some (s0, M) else none
def j_P_has_16 (M : Sto) : Option (Int32 × Sto) :=
  j_P_has_17 0 M
def m_P_has (x1 : Int32) (M : Sto) : Option (Int32 × Sto) :=
  if x1 < 0 then (j_P_has_16 M) else (if (M 1 0) ≤ x1 then (j_P_has_16 M) else (j_P_has_17 1 M))
def j_N_setsVariable_11 (s0 : Int32) (M : Sto) : Option (Int32 × Sto) :=
  if bz s0 then some (s0, M) else none
def m_N_setsVariable (x0 : Int32) (M : Sto) : Option (Int32 × Sto) :=
  if x0 = 7 then (j_N_setsVariable_11 0 M) else (j_N_setsVariable_11 1 M)
def j_N_isVariable_15 (s0 : Int32) (M : Sto) : Option (Int32 × Sto) :=
  if bz s0 then some (s0, M) else none
def j_N_isVariable_14 (M : Sto) : Option (Int32 × Sto) :=
  j_N_isVariable_15 0 M
def m_N_isVariable (x0 : Int32) (M : Sto) : Option (Int32 × Sto) :=
  if x0 < 0 then (j_N_isVariable_14 M) else (if 6 ≤ x0 then (j_N_isVariable_14 M) else (j_N_isVariable_15 1 M))
def j_N_readsX_15 (s0 : Int32) (M : Sto) : Option (Int32 × Sto) :=
  if bz s0 then some (s0, M) else none
def j_N_readsX_14 (M : Sto) : Option (Int32 × Sto) :=
  j_N_readsX_15 0 M
def m_N_readsX (x0 : Int32) (M : Sto) : Option (Int32 × Sto) :=
  if x0 = 0 then (j_N_readsX_14 M) else (if x0 = 6 then (j_N_readsX_14 M) else (j_N_readsX_15 1 M))
def j_N_readsY_15 (s0 : Int32) (M : Sto) : Option (Int32 × Sto) :=
  if bz s0 then some (s0, M) else none
def j_N_readsY_14 (M : Sto) : Option (Int32 × Sto) :=
  j_N_readsY_15 0 M
def m_N_readsY (x0 : Int32) (M : Sto) : Option (Int32 × Sto) :=
  if x0 < 2 then (j_N_readsY_14 M) else (if 5 < x0 then (j_N_readsY_14 M) else (j_N_readsY_15 1 M))
def j_N_isInstruction_57 (s0 : Int32) (M : Sto) : Option (Int32 × Sto) :=
  if bz s0 then some (s0, M) else none
def j_N_isInstruction_56 (M : Sto) : Option (Int32 × Sto) :=
  j_N_isInstruction_57 0 M
def j_N_isInstruction_52 (M : Sto) : Option (Int32 × Sto) :=
  j_N_isInstruction_57 1 M
def j_N_isInstruction_38 (v0 v3 : Int32) (M : Sto) : Option (Int32 × Sto) :=
  (m_N_readsY v0 M).bind fun o3 => if o3.1 = 0 then (j_N_isInstruction_52 o3.2) else ((m_N_isVariable v3 o3.2).bind fun o4 => if o4.1 = 0 then (j_N_isInstruction_56 o4.2) else (j_N_isInstruction_52 o4.2))
def j_N_isInstruction_24 (v0 v2 v3 : Int32) (M : Sto) : Option (Int32 × Sto) :=
  (m_N_readsX v0 M).bind fun o2 => if o2.1 = 0 then (j_N_isInstruction_38 v0 v3 o2.2) else ((m_N_isVariable v2 o2.2).bind fun o5 => if o5.1 = 0 then (j_N_isInstruction_56 o5.2) else (j_N_isInstruction_38 v0 v3 o5.2))
def m_N_isInstruction (x0 x1 x2 x3 : Int32) (M : Sto) : Option (Int32 × Sto) :=
  if x0 < 0 then (j_N_isInstruction_56 M) else (if 7 < x0 then (j_N_isInstruction_56 M) else ((m_N_setsVariable x0 M).bind fun o1 => if o1.1 = 0 then (j_N_isInstruction_24 x0 x2 x3 o1.2) else ((m_N_isVariable x1 o1.2).bind fun o6 => if o6.1 = 0 then (j_N_isInstruction_56 o6.2) else (j_N_isInstruction_24 x0 x2 x3 o6.2))))
def m_P_append (x1 x2 x3 x4 x5 : Int32) (M : Sto) : Option (Int32 × Sto) :=
  if ok x1 10 then (if ok x1 10 then (if ok (M 7 x1.toNatClampNeg) 6 then ((wr (up2 M (43 + x1.toNatClampNeg) (M 7 x1.toNatClampNeg).toNatClampNeg x2) fun M1 => (if ok x1 10 then (if ok (M 7 x1.toNatClampNeg) 6 then ((wr (up2 M1 (53 + x1.toNatClampNeg) (M 7 x1.toNatClampNeg).toNatClampNeg x3) fun M2 => (if ok x1 10 then (if ok (M 7 x1.toNatClampNeg) 6 then ((wr (up2 M2 (63 + x1.toNatClampNeg) (M 7 x1.toNatClampNeg).toNatClampNeg x4) fun M3 => (if ok x1 10 then (if ok (M 7 x1.toNatClampNeg) 6 then ((wr (up2 M3 (73 + x1.toNatClampNeg) (M 7 x1.toNatClampNeg).toNatClampNeg x5) fun M4 => (if ok x1 10 then ((wr (up2 M4 7 x1.toNatClampNeg ((M 7 x1.toNatClampNeg) + 1)) fun M5 => (if ok x1 10 then (some (M5 7 x1.toNatClampNeg, M5)) else none))) else none))) else none) else none))) else none) else none))) else none) else none))) else none) else none) else none
def j_N_put_23 (M : Sto) : Option (Nat × Int32 × Sto) :=
  some (1, 0, M)
def m_N_put (x1 x2 x3 x4 x5 : Int32) (M : Sto) : Option (Nat × Int32 × Sto) :=
  (m_P_has x1 M).bind fun o1 => if o1.1 = 0 then (j_N_put_23 o1.2) else ((m_N_isInstruction x2 x3 x4 x5 o1.2).bind fun o2 => if o2.1 = 0 then (j_N_put_23 o2.2) else (if ok x1 10 then (if (o2.2 7 x1.toNatClampNeg) < 6 then (if bz 0 then (wr (up2 o2.2 0 6 0) fun M3 => (m_P_append x1 x2 x3 x4 x5 M3).bind fun o4 => some (0, o4.1, o4.2)) else none) else (some (2, 0, o2.2))) else none))
def j_P_isTarget_17 (s0 : Int32) (M : Sto) : Option (Int32 × Sto) :=
  if bz s0 then some (s0, M) else none
def j_P_isTarget_16 (M : Sto) : Option (Int32 × Sto) :=
  j_P_isTarget_17 0 M
def m_P_isTarget (x1 : Int32) (M : Sto) : Option (Int32 × Sto) :=
  if x1 = 0 then (j_P_isTarget_16 M) else ((m_P_has x1 M).bind fun o1 => if o1.1 = 0 then (j_P_isTarget_16 o1.2) else (j_P_isTarget_17 1 o1.2))
def j_N_go_22 (M : Sto) : Option (Nat × Int32 × Sto) :=
  some (1, 0, M)
def m_N_go (x1 x2 : Int32) (M : Sto) : Option (Nat × Int32 × Sto) :=
  (m_P_has x1 M).bind fun o1 => if o1.1 = 0 then (j_N_go_22 o1.2) else ((m_P_isTarget x2 o1.2).bind fun o2 => if o2.1 = 0 then (j_N_go_22 o2.2) else (if bz 0 then (wr (up2 o2.2 0 6 0) fun M3 => (m_P_setEnd x1 1 0 x2 x2 M3).bind fun o4 => some (0, 0, o4.2)) else none))
def j_N_fork_41 (M : Sto) : Option (Nat × Int32 × Sto) :=
  some (1, 0, M)
def m_N_fork (x1 x2 x3 x4 : Int32) (M : Sto) : Option (Nat × Int32 × Sto) :=
  (m_P_has x1 M).bind fun o1 => if o1.1 = 0 then (j_N_fork_41 o1.2) else ((m_N_isVariable x2 o1.2).bind fun o2 => if o2.1 = 0 then (j_N_fork_41 o2.2) else ((m_P_isTarget x3 o2.2).bind fun o3 => if o3.1 = 0 then (j_N_fork_41 o3.2) else ((m_P_isTarget x4 o3.2).bind fun o4 => if o4.1 = 0 then (j_N_fork_41 o4.2) else (if bz 0 then (wr (up2 o4.2 0 6 0) fun M5 => (m_P_setEnd x1 2 x2 x3 x4 M5).bind fun o6 => some (0, 0, o6.2)) else none))))
def m_N_stop (x1 : Int32) (M : Sto) : Option (Nat × Int32 × Sto) :=
  (m_P_has x1 M).bind fun o1 => if o1.1 = 0 then (some (1, 0, o1.2)) else (if bz 0 then (wr (up2 o1.2 0 6 0) fun M2 => (m_P_setEnd x1 0 0 0 0 M2).bind fun o3 => some (0, 0, o3.2)) else none)
def m_N_clear (M : Sto) : Option (Int32 × Sto) :=
  if bz 0 then (wr (up2 M 0 6 0) fun M1 => wr (up2 M1 1 0 0) fun M2 => some (0, M2)) else none
def m_N_bit (x0 : Int32) (M : Sto) : Option (Int32 × Sto) :=
  some (1 <<< (x0 &&& 31), M)
def j_N_holds_14 (s0 : Int32) (M : Sto) : Option (Int32 × Sto) :=
  if bz s0 then some (s0, M) else none
def m_N_holds (x0 x1 : Int32) (M : Sto) : Option (Int32 × Sto) :=
  (m_N_bit x1 M).bind fun o1 => if (x0 &&& o1.1) = 0 then (j_N_holds_14 0 o1.2) else (j_N_holds_14 1 o1.2)
def j_P_ways_32 (s0 : Int32) (M : Sto) : Option (Int32 × Sto) :=
  some (s0, M)
def m_P_ways (x1 : Int32) (M : Sto) : Option (Int32 × Sto) :=
  if ok x1 10 then (if (M 8 x1.toNatClampNeg) = 0 then (j_P_ways_32 0 M) else (if ok x1 10 then ((m_N_bit (M 10 x1.toNatClampNeg) M).bind fun o1 => if ok x1 10 then ((m_N_bit (o1.2 11 x1.toNatClampNeg) o1.2).bind fun o2 => j_P_ways_32 (o1.1 ||| o2.1) o2.2) else none) else none)) else none
def j_S_comeBy_74 (v2 : Int32) (M : Sto) : Option (Int32 × Sto) :=
  some (v2, M)
def j_S_comeBy_68 (g : Int32 → Int32 → Int32 → Sto → Option (Int32 × Sto)) (k : Int32 → Sto → Option (Int32 × Sto)) (v1 v2 v3 : Int32) (M : Sto) : Option (Int32 × Sto) :=
  g v1 v2 (v3 + 1) M
def j_S_comeBy_62 (g : Int32 → Int32 → Int32 → Int32 → Sto → Option (Int32 × Sto)) (k : Int32 → Int32 → Int32 → Sto → Option (Int32 × Sto)) (v1 v2 v3 v4 : Int32) (M : Sto) : Option (Int32 × Sto) :=
  g v1 v2 v3 (v4 + 1) M
def l_S_comeBy_25 (k : Int32 → Int32 → Int32 → Sto → Option (Int32 × Sto)) : Nat → Int32 → Int32 → Int32 → Int32 → Sto → Option (Int32 × Sto)
  | 0, _, _, _, _, _ => none
  | n + 1, v1, v2, v3, v4, M =>
  if (M 1 0) ≤ v4 then (k v1 v2 v3 M) else ((m_N_holds v2 v4 M).bind fun o2 => if o2.1 = 0 then (j_S_comeBy_62 (l_S_comeBy_25 k n) k v1 v2 v3 v4 o2.2) else ((m_P_ways v4 o2.2).bind fun o3 => j_S_comeBy_62 (l_S_comeBy_25 k n) k v1 (v2 ||| (o3.1 &&& (v1 ^^^ (-1)))) v3 v4 o3.2))
def l_S_comeBy_11 (k : Int32 → Sto → Option (Int32 × Sto)) : Nat → Int32 → Int32 → Int32 → Sto → Option (Int32 × Sto)
  | 0, _, _, _, _ => none
  | n + 1, v1, v2, v3, M =>
  if (M 1 0) ≤ v3 then (k v2 M) else (l_S_comeBy_25 (j_S_comeBy_68 (l_S_comeBy_11 k n) k) FU v1 v2 v3 0 M)
def m_S_comeBy (x1 : Int32) (M : Sto) : Option (Int32 × Sto) :=
  (m_N_bit 0 M).bind fun o1 => l_S_comeBy_11 (j_S_comeBy_74) FU x1 (o1.1 &&& (x1 ^^^ (-1))) 1 o1.2
def j_S_findBefore_54 (v2 : Int32) (M : Sto) : Option (Int32 × Sto) :=
  some (v2, M)
def j_S_findBefore_48 (g : Int32 → Int32 → Int32 → Sto → Option (Int32 × Sto)) (k : Int32 → Sto → Option (Int32 × Sto)) (v1 v2 v3 : Int32) (M : Sto) : Option (Int32 × Sto) :=
  g v1 v2 (v3 + 1) M
def l_S_findBefore_4 (k : Int32 → Sto → Option (Int32 × Sto)) : Nat → Int32 → Int32 → Int32 → Sto → Option (Int32 × Sto)
  | 0, _, _, _, _ => none
  | n + 1, v1, v2, v3, M =>
  if (M 1 0) ≤ v3 then (k v2 M) else ((m_N_holds (M 2 1) v3 M).bind fun o1 => if o1.1 = 0 then (j_S_findBefore_48 (l_S_findBefore_4 k n) k v1 v2 v3 o1.2) else ((m_P_ways v3 o1.2).bind fun o2 => (m_N_holds o2.1 v1 o2.2).bind fun o3 => if o3.1 = 0 then (j_S_findBefore_48 (l_S_findBefore_4 k n) k v1 v2 v3 o3.2) else ((m_N_bit v3 o3.2).bind fun o4 => j_S_findBefore_48 (l_S_findBefore_4 k n) k v1 (v2 ||| o4.1) v3 o4.2)))
def m_S_findBefore (x1 : Int32) (M : Sto) : Option (Int32 × Sto) :=
  l_S_findBefore_4 (j_S_findBefore_54) FU x1 0 0 M
def j_S_findParent_59 (v2 : Int32) (M : Sto) : Option (Int32 × Sto) :=
  some (v2, M)
def j_S_findParent_53 (g : Int32 → Int32 → Int32 → Sto → Option (Int32 × Sto)) (k : Int32 → Sto → Option (Int32 × Sto)) (v1 v2 v3 : Int32) (M : Sto) : Option (Int32 × Sto) :=
  g v1 v2 (v3 + 1) M
def j_S_findParent_51 (g : Int32 → Int32 → Int32 → Sto → Option (Int32 × Sto)) (k : Int32 → Sto → Option (Int32 × Sto)) (v1 v3 : Int32) (M : Sto) : Option (Int32 × Sto) :=
  j_S_findParent_53 g k v1 v3 v3 M
def l_S_findParent_4 (k : Int32 → Sto → Option (Int32 × Sto)) : Nat → Int32 → Int32 → Int32 → Sto → Option (Int32 × Sto)
  | 0, _, _, _, _ => none
  | n + 1, v1, v2, v3, M =>
  if (M 1 0) ≤ v3 then (k v2 M) else (if v3 = v1 then (j_S_findParent_53 (l_S_findParent_4 k n) k v1 v2 v3 M) else (if ok v3 10 then ((m_N_holds (M 13 v3.toNatClampNeg) v1 M).bind fun o1 => if o1.1 = 0 then (j_S_findParent_53 (l_S_findParent_4 k n) k v1 v2 v3 o1.2) else (if v2 = (-1) then (j_S_findParent_51 (l_S_findParent_4 k n) k v1 v3 o1.2) else (if ok v2 10 then ((m_N_holds (o1.2 13 v2.toNatClampNeg) v3 o1.2).bind fun o2 => if o2.1 = 0 then (j_S_findParent_53 (l_S_findParent_4 k n) k v1 v2 v3 o2.2) else (j_S_findParent_51 (l_S_findParent_4 k n) k v1 v3 o2.2)) else none))) else none))
def m_S_findParent (x1 : Int32) (M : Sto) : Option (Int32 × Sto) :=
  l_S_findParent_4 (j_S_findParent_59) FU x1 (-1) 0 M
def j_S_findFrontier_74 (v2 : Int32) (M : Sto) : Option (Int32 × Sto) :=
  some (v2, M)
def j_S_findFrontier_68 (g : Int32 → Int32 → Int32 → Sto → Option (Int32 × Sto)) (k : Int32 → Sto → Option (Int32 × Sto)) (v1 v2 v3 : Int32) (M : Sto) : Option (Int32 × Sto) :=
  g v1 v2 (v3 + 1) M
def j_S_findFrontier_38 (g : Int32 → Int32 → Int32 → Sto → Option (Int32 × Sto)) (k : Int32 → Sto → Option (Int32 × Sto)) (s0 v1 v2 v3 : Int32) (M : Sto) : Option (Int32 × Sto) :=
  if s0 = 0 then (j_S_findFrontier_68 g k v1 v2 v3 M) else (if ok v3 10 then (if ok v1 10 then (if ((M 12 v3.toNatClampNeg) &&& (M 13 v1.toNatClampNeg)) = 0 then (j_S_findFrontier_68 g k v1 v2 v3 M) else ((m_N_bit v3 M).bind fun o1 => j_S_findFrontier_68 g k v1 (v2 ||| o1.1) v3 o1.2)) else none) else none)
def j_S_findFrontier_33 (g : Int32 → Int32 → Int32 → Sto → Option (Int32 × Sto)) (k : Int32 → Sto → Option (Int32 × Sto)) (v1 v2 v3 : Int32) (M : Sto) : Option (Int32 × Sto) :=
  j_S_findFrontier_38 g k 1 v1 v2 v3 M
def l_S_findFrontier_4 (k : Int32 → Sto → Option (Int32 × Sto)) : Nat → Int32 → Int32 → Int32 → Sto → Option (Int32 × Sto)
  | 0, _, _, _, _ => none
  | n + 1, v1, v2, v3, M =>
  if (M 1 0) ≤ v3 then (k v2 M) else (if v3 = v1 then (j_S_findFrontier_33 (l_S_findFrontier_4 k n) k v1 v2 v3 M) else (if ok v1 10 then ((m_N_holds (M 13 v1.toNatClampNeg) v3 M).bind fun o2 => if o2.1 = 0 then (j_S_findFrontier_33 (l_S_findFrontier_4 k n) k v1 v2 v3 o2.2) else (j_S_findFrontier_38 (l_S_findFrontier_4 k n) k 0 v1 v2 v3 o2.2)) else none))
def m_S_findFrontier (x1 : Int32) (M : Sto) : Option (Int32 × Sto) :=
  l_S_findFrontier_4 (j_S_findFrontier_74) FU x1 0 0 M
def j_S_putInOrder_111 (M : Sto) : Option (Int32 × Sto) :=
  some (0, M)
def j_S_putInOrder_105 (g : Int32 → Int32 → Sto → Option (Int32 × Sto)) (k : Sto → Option (Int32 × Sto)) (v1 v2 : Int32) (M : Sto) : Option (Int32 × Sto) :=
  g v1 (v2 + 1) M
def j_S_putInOrder_99 (g : Int32 → Int32 → Int32 → Int32 → Sto → Option (Int32 × Sto)) (k : Int32 → Int32 → Sto → Option (Int32 × Sto)) (v1 v2 v3 v4 : Int32) (M : Sto) : Option (Int32 × Sto) :=
  g v1 v2 v3 (v4 + (-1)) M
def l_S_putInOrder_72 (k : Int32 → Int32 → Sto → Option (Int32 × Sto)) : Nat → Int32 → Int32 → Int32 → Int32 → Sto → Option (Int32 × Sto)
  | 0, _, _, _, _, _ => none
  | n + 1, v1, v2, v3, v4, M =>
  if v4 ≤ 0 then (k v1 v2 M) else (if ok v4 10 then (if (M 14 v4.toNatClampNeg) = v3 then (if ok v1 10 then ((wr (up2 M 17 v1.toNatClampNeg v4) fun M5 => (j_S_putInOrder_99 (l_S_putInOrder_72 k n) k (v1 + 1) v2 v3 v4 M5))) else none) else (j_S_putInOrder_99 (l_S_putInOrder_72 k n) k v1 v2 v3 v4 M)) else none)
def l_S_putInOrder_16 (k : Sto → Option (Int32 × Sto)) : Nat → Int32 → Int32 → Sto → Option (Int32 × Sto)
  | 0, _, _, _ => none
  | n + 1, v1, v2, M =>
  if (M 1 0) ≤ v2 then (k M) else (if v1 ≤ 0 then (k M) else (if ok (v1 + (-1)) 10 then (if ok (M 2 7) 10 then ((wr (up2 M 16 (M 2 7).toNatClampNeg (M 17 (v1 + (-1)).toNatClampNeg)) fun M3 => (wr (up2 M3 2 7 ((M3 2 7) + 1)) fun M4 => l_S_putInOrder_72 (j_S_putInOrder_105 (l_S_putInOrder_16 k n) k) FU (v1 + (-1)) v2 (M 17 (v1 + (-1)).toNatClampNeg) ((M4 1 0) - 1) M4))) else none) else none))
def m_S_putInOrder (M : Sto) : Option (Int32 × Sto) :=
  wr (up2 M 2 7 0) fun M1 => if ok 0 10 then ((wr (up2 M1 17 (0 : Int32).toNatClampNeg 0) fun M2 => (l_S_putInOrder_16 (j_S_putInOrder_111) FU 1 0 M2))) else none
def j_S_survey_116 (M : Sto) : Option (Int32 × Sto) :=
  (m_S_putInOrder M).bind fun o3 => some (0, o3.2)
def l_S_survey_77 (k : Sto → Option (Int32 × Sto)) : Nat → Int32 → Sto → Option (Int32 × Sto)
  | 0, _, _ => none
  | n + 1, v1, M =>
  if (M 1 0) ≤ v1 then (k M) else ((m_S_findParent v1 M).bind fun o4 => if ok v1 10 then ((wr (up2 o4.2 14 v1.toNatClampNeg o4.1) fun M5 => ((m_S_findFrontier v1 M5).bind fun o6 => if ok v1 10 then ((wr (up2 o6.2 15 v1.toNatClampNeg o6.1) fun M7 => ((l_S_survey_77 k n) (v1 + 1) M7))) else none))) else none)
def j_S_survey_75 (M : Sto) : Option (Int32 × Sto) :=
  l_S_survey_77 (j_S_survey_116) FU 0 M
def j_S_survey_68 (g : Int32 → Sto → Option (Int32 × Sto)) (k : Sto → Option (Int32 × Sto)) (s0 s1 v1 : Int32) (M : Sto) : Option (Int32 × Sto) :=
  if ok s1 10 then ((wr (up2 M 13 s1.toNatClampNeg s0) fun M11 => (g (v1 + 1) M11))) else none
def l_S_survey_11 (k : Sto → Option (Int32 × Sto)) : Nat → Int32 → Sto → Option (Int32 × Sto)
  | 0, _, _ => none
  | n + 1, v1, M =>
  if (M 1 0) ≤ v1 then (k M) else ((m_S_findBefore v1 M).bind fun o8 => if ok v1 10 then ((wr (up2 o8.2 12 v1.toNatClampNeg o8.1) fun M9 => ((m_N_holds (M9 2 1) v1 M9).bind fun o10 => if o10.1 = 0 then (j_S_survey_68 (l_S_survey_11 k n) k 0 v1 v1 o10.2) else ((m_N_bit v1 o10.2).bind fun o12 => (m_S_comeBy o12.1 o12.2).bind fun o13 => j_S_survey_68 (l_S_survey_11 k n) k ((o10.2 2 1) &&& (o13.1 ^^^ (-1))) v1 v1 o13.2)))) else none)
def m_S_survey (M : Sto) : Option (Int32 × Sto) :=
  (m_S_comeBy 0 M).bind fun o1 => wr (up2 o1.2 2 1 o1.1) fun M2 => l_S_survey_11 (j_S_survey_75) FU 0 M2
def j_G_findDefined_87 (M : Sto) : Option (Int32 × Sto) :=
  some (0, M)
def j_G_findDefined_81 (g : Int32 → Sto → Option (Int32 × Sto)) (k : Sto → Option (Int32 × Sto)) (v1 : Int32) (M : Sto) : Option (Int32 × Sto) :=
  g (v1 + 1) M
def j_G_findDefined_75 (g : Int32 → Int32 → Sto → Option (Int32 × Sto)) (k : Int32 → Sto → Option (Int32 × Sto)) (v1 v2 : Int32) (M : Sto) : Option (Int32 × Sto) :=
  g v1 (v2 + 1) M
def l_G_findDefined_22 (k : Int32 → Sto → Option (Int32 × Sto)) : Nat → Int32 → Int32 → Sto → Option (Int32 × Sto)
  | 0, _, _, _ => none
  | n + 1, v1, v2, M =>
  if ok v1 10 then (if (M 7 v1.toNatClampNeg) ≤ v2 then (k v1 M) else (if ok v1 10 then (if ok v2 6 then ((m_N_setsVariable (M (43 + v1.toNatClampNeg) v2.toNatClampNeg) M).bind fun o2 => if o2.1 = 0 then (j_G_findDefined_75 (l_G_findDefined_22 k n) k v1 v2 o2.2) else (if ok v1 10 then (if ok v1 10 then (if ok v2 6 then ((m_N_bit (o2.2 (53 + v1.toNatClampNeg) v2.toNatClampNeg) o2.2).bind fun o3 => if ok v1 10 then ((wr (up2 o3.2 19 v1.toNatClampNeg ((o2.2 19 v1.toNatClampNeg) ||| o3.1)) fun M4 => (j_G_findDefined_75 (l_G_findDefined_22 k n) k v1 v2 M4))) else none) else none) else none) else none)) else none) else none)) else none
def l_G_findDefined_2 (k : Sto → Option (Int32 × Sto)) : Nat → Int32 → Sto → Option (Int32 × Sto)
  | 0, _, _ => none
  | n + 1, v1, M =>
  if (M 1 0) ≤ v1 then (k M) else (if ok v1 10 then ((wr (up2 M 19 v1.toNatClampNeg 0) fun M1 => (l_G_findDefined_22 (j_G_findDefined_81 (l_G_findDefined_2 k n) k) FU v1 0 M1))) else none)
def m_G_findDefined (M : Sto) : Option (Int32 × Sto) :=
  l_G_findDefined_2 (j_G_findDefined_87) FU 0 M
def j_G_spread_59 (v3 : Int32) (M : Sto) : Option (Int32 × Sto) :=
  if bz v3 then some (v3, M) else none
def j_G_spread_53 (g : Int32 → Int32 → Int32 → Int32 → Sto → Option (Int32 × Sto)) (k : Int32 → Sto → Option (Int32 × Sto)) (v1 v2 v3 v4 : Int32) (M : Sto) : Option (Int32 × Sto) :=
  g v1 v2 v3 (v4 + 1) M
def l_G_spread_5 (k : Int32 → Sto → Option (Int32 × Sto)) : Nat → Int32 → Int32 → Int32 → Int32 → Sto → Option (Int32 × Sto)
  | 0, _, _, _, _, _ => none
  | n + 1, v1, v2, v3, v4, M =>
  if (M 1 0) ≤ v4 then (k v3 M) else ((m_N_holds v1 v4 M).bind fun o1 => if o1.1 = 0 then (j_G_spread_53 (l_G_spread_5 k n) k v1 v2 v3 v4 o1.2) else (if ok v4 10 then (if (v2 &&& ((o1.2 18 v4.toNatClampNeg) ^^^ (-1))) = 0 then (j_G_spread_53 (l_G_spread_5 k n) k v1 v2 v3 v4 o1.2) else (if ok v4 10 then (if ok v4 10 then ((wr (up2 o1.2 18 v4.toNatClampNeg ((o1.2 18 v4.toNatClampNeg) ||| v2)) fun M2 => (j_G_spread_53 (l_G_spread_5 k n) k v1 v2 1 v4 M2))) else none) else none)) else none))
def m_G_spread (x1 x2 : Int32) (M : Sto) : Option (Int32 × Sto) :=
  l_G_spread_5 (j_G_spread_59) FU x1 x2 0 0 M
def j_G_placePhis_81 (M : Sto) : Option (Int32 × Sto) :=
  some (0, M)
def j_G_placePhis_75 (g : Int32 → Int32 → Sto → Option (Int32 × Sto)) (k : Sto → Option (Int32 × Sto)) (v1 v2 : Int32) (M : Sto) : Option (Int32 × Sto) :=
  g v1 (v2 + 1) M
def j_G_placePhis_69 (g : Int32 → Int32 → Int32 → Sto → Option (Int32 × Sto)) (k : Int32 → Int32 → Sto → Option (Int32 × Sto)) (v1 v2 v3 : Int32) (M : Sto) : Option (Int32 × Sto) :=
  g v1 v2 (v3 + 1) M
def l_G_placePhis_27 (k : Int32 → Int32 → Sto → Option (Int32 × Sto)) : Nat → Int32 → Int32 → Int32 → Sto → Option (Int32 × Sto)
  | 0, _, _, _, _ => none
  | n + 1, v1, v2, v3, M =>
  if (M 1 0) ≤ v3 then (k v1 v2 M) else (if ok v3 10 then (if ok v3 10 then (if ok v3 10 then ((m_G_spread (M 15 v3.toNatClampNeg) ((M 19 v3.toNatClampNeg) ||| (M 18 v3.toNatClampNeg)) M).bind fun o2 => if o2.1 = 0 then (j_G_placePhis_69 (l_G_placePhis_27 k n) k v1 v2 v3 o2.2) else (j_G_placePhis_69 (l_G_placePhis_27 k n) k 1 v2 v3 o2.2)) else none) else none) else none)
def l_G_placePhis_12 (k : Sto → Option (Int32 × Sto)) : Nat → Int32 → Int32 → Sto → Option (Int32 × Sto)
  | 0, _, _, _ => none
  | n + 1, v1, v2, M =>
  if v1 = 0 then (k M) else (if 1000 ≤ v2 then (k M) else (l_G_placePhis_27 (j_G_placePhis_75 (l_G_placePhis_12 k n) k) FU 0 v2 0 M))
def m_G_placePhis (M : Sto) : Option (Int32 × Sto) :=
  wr (fillA M 18 10 0) fun M1 => l_G_placePhis_12 (j_G_placePhis_81) FU 1 0 M1
def m_G_newName (x1 x2 x3 : Int32) (M : Sto) : Option (Int32 × Sto) :=
  if ok (M 3 2) 126 then ((wr (up2 M 21 (M 3 2).toNatClampNeg x1) fun M1 => (if ok (M 3 2) 126 then ((wr (up2 M1 22 (M 3 2).toNatClampNeg x2) fun M2 => (if ok (M 3 2) 126 then ((wr (up2 M2 23 (M 3 2).toNatClampNeg x3) fun M3 => (wr (up2 M3 3 2 ((M3 3 2) + 1)) fun M4 => some (M 3 2, M4)))) else none))) else none))) else none
def j_G_nameInstruction_133 (M : Sto) : Option (Int32 × Sto) :=
  some (0, M)
def j_G_nameInstruction_78 (s0 s1 s2 v1 v2 v3 v4 : Int32) (M : Sto) : Option (Int32 × Sto) :=
  if ok s1 6 then ((wr (up2 M (123 + s2.toNatClampNeg) s1.toNatClampNeg s0) fun M4 => (if ok v1 10 then (if ok v2 6 then ((wr (up2 M4 (103 + v1.toNatClampNeg) v2.toNatClampNeg (-1)) fun M5 => ((m_N_setsVariable v4 M5).bind fun o6 => if o6.1 = 0 then (j_G_nameInstruction_133 o6.2) else (if ok v1 10 then (if ok v2 6 then ((m_G_newName v1 v2 (o6.2 (53 + v1.toNatClampNeg) v2.toNatClampNeg) o6.2).bind fun o7 => if ok (o6.2 (53 + v1.toNatClampNeg) v2.toNatClampNeg) 6 then ((wr (up2 o7.2 (93 + v3.toNatClampNeg) (o6.2 (53 + v1.toNatClampNeg) v2.toNatClampNeg).toNatClampNeg o7.1) fun M8 => (if ok v1 10 then (if ok (o6.2 (53 + v1.toNatClampNeg) v2.toNatClampNeg) 6 then (if ok v2 6 then ((wr (up2 M8 (103 + v1.toNatClampNeg) v2.toNatClampNeg (M8 (93 + v3.toNatClampNeg) (o6.2 (53 + v1.toNatClampNeg) v2.toNatClampNeg).toNatClampNeg)) fun M9 => (j_G_nameInstruction_133 M9))) else none) else none) else none))) else none) else none) else none)))) else none) else none))) else none
def j_G_nameInstruction_45 (s0 s1 s2 v1 v2 v3 v4 : Int32) (M : Sto) : Option (Int32 × Sto) :=
  if ok s1 6 then ((wr (up2 M (113 + s2.toNatClampNeg) s1.toNatClampNeg s0) fun M2 => (if ok v1 10 then ((m_N_readsY v4 M2).bind fun o3 => if o3.1 = 0 then (j_G_nameInstruction_78 (-1) v2 v1 v1 v2 v3 v4 o3.2) else (if ok v1 10 then (if ok v2 6 then (if ok (o3.2 (73 + v1.toNatClampNeg) v2.toNatClampNeg) 6 then (j_G_nameInstruction_78 (o3.2 (93 + v3.toNatClampNeg) (o3.2 (73 + v1.toNatClampNeg) v2.toNatClampNeg).toNatClampNeg) v2 v1 v1 v2 v3 v4 o3.2) else none) else none) else none)) else none))) else none
def m_G_nameInstruction (x1 x2 x3 : Int32) (M : Sto) : Option (Int32 × Sto) :=
  if ok x1 10 then (if ok x2 6 then (if ok x1 10 then ((m_N_readsX (M (43 + x1.toNatClampNeg) x2.toNatClampNeg) M).bind fun o1 => if o1.1 = 0 then (j_G_nameInstruction_45 (-1) x2 x1 x1 x2 x3 (M (43 + x1.toNatClampNeg) x2.toNatClampNeg) o1.2) else (if ok x1 10 then (if ok x2 6 then (if ok (o1.2 (63 + x1.toNatClampNeg) x2.toNatClampNeg) 6 then (j_G_nameInstruction_45 (o1.2 (93 + x3.toNatClampNeg) (o1.2 (63 + x1.toNatClampNeg) x2.toNatClampNeg).toNatClampNeg) x2 x1 x1 x2 x3 (M (43 + x1.toNatClampNeg) x2.toNatClampNeg) o1.2) else none) else none) else none)) else none) else none) else none
def j_G_nameBlock_172 (M : Sto) : Option (Int32 × Sto) :=
  some (0, M)
def j_G_nameBlock_142 (v1 v2 : Int32) (M : Sto) : Option (Int32 × Sto) :=
  if ok v1 10 then (if (M 8 v1.toNatClampNeg) = 2 then (if ok v1 10 then (if ok (M 9 v1.toNatClampNeg) 6 then (if ok v1 10 then ((wr (up2 M 20 v1.toNatClampNeg (M (93 + v2.toNatClampNeg) (M 9 v1.toNatClampNeg).toNatClampNeg)) fun M1 => (j_G_nameBlock_172 M1))) else none) else none) else none) else (j_G_nameBlock_172 M)) else none
def l_G_nameBlock_114 (k : Int32 → Int32 → Sto → Option (Int32 × Sto)) : Nat → Int32 → Int32 → Int32 → Sto → Option (Int32 × Sto)
  | 0, _, _, _, _ => none
  | n + 1, v1, v2, v4, M =>
  if ok v1 10 then (if (M 7 v1.toNatClampNeg) ≤ v4 then (k v1 v2 M) else ((m_G_nameInstruction v1 v4 v2 M).bind fun o2 => (l_G_nameBlock_114 k n) v1 v2 (v4 + 1) o2.2)) else none
def j_G_nameBlock_111 (v1 v2 : Int32) (M : Sto) : Option (Int32 × Sto) :=
  l_G_nameBlock_114 (j_G_nameBlock_142) FU v1 v2 0 M
def j_G_nameBlock_105 (g : Int32 → Int32 → Int32 → Sto → Option (Int32 × Sto)) (k : Int32 → Int32 → Sto → Option (Int32 × Sto)) (v1 v2 v4 : Int32) (M : Sto) : Option (Int32 × Sto) :=
  g v1 v2 (v4 + 1) M
def l_G_nameBlock_59 (k : Int32 → Int32 → Sto → Option (Int32 × Sto)) : Nat → Int32 → Int32 → Int32 → Sto → Option (Int32 × Sto)
  | 0, _, _, _, _ => none
  | n + 1, v1, v2, v4, M =>
  if 6 ≤ v4 then (k v1 v2 M) else (if ok v1 10 then ((m_N_holds (M 18 v1.toNatClampNeg) v4 M).bind fun o3 => if o3.1 = 0 then (j_G_nameBlock_105 (l_G_nameBlock_59 k n) k v1 v2 v4 o3.2) else ((m_G_newName v1 (-1) v4 o3.2).bind fun o4 => if ok v4 6 then ((wr (up2 o4.2 (93 + v2.toNatClampNeg) v4.toNatClampNeg o4.1) fun M5 => (if ok v1 10 then (if ok v4 6 then (if ok v4 6 then ((wr (up2 M5 (83 + v1.toNatClampNeg) v4.toNatClampNeg (M5 (93 + v2.toNatClampNeg) v4.toNatClampNeg)) fun M6 => (j_G_nameBlock_105 (l_G_nameBlock_59 k n) k v1 v2 v4 M6))) else none) else none) else none))) else none)) else none)
def j_G_nameBlock_56 (v1 v2 : Int32) (M : Sto) : Option (Int32 × Sto) :=
  l_G_nameBlock_59 (j_G_nameBlock_111) FU v1 v2 0 M
def j_G_nameBlock_49 (g : Int32 → Int32 → Int32 → Int32 → Sto → Option (Int32 × Sto)) (k : Int32 → Int32 → Sto → Option (Int32 × Sto)) (s0 s1 s2 v1 v2 v3 v4 : Int32) (M : Sto) : Option (Int32 × Sto) :=
  if ok s1 6 then ((wr (up2 M (93 + s2.toNatClampNeg) s1.toNatClampNeg s0) fun M7 => (g v1 v2 v3 (v4 + 1) M7))) else none
def l_G_nameBlock_20 (k : Int32 → Int32 → Sto → Option (Int32 × Sto)) : Nat → Int32 → Int32 → Int32 → Int32 → Sto → Option (Int32 × Sto)
  | 0, _, _, _, _, _ => none
  | n + 1, v1, v2, v3, v4, M =>
  if 6 ≤ v4 then (k v1 v2 M) else (if v3 = (-1) then (j_G_nameBlock_49 (l_G_nameBlock_20 k n) k v4 v4 v2 v1 v2 v3 v4 M) else (if ok v3 10 then (if ok v4 6 then (j_G_nameBlock_49 (l_G_nameBlock_20 k n) k (M (93 + v3.toNatClampNeg) v4.toNatClampNeg) v4 v2 v1 v2 v3 v4 M) else none) else none))
def m_G_nameBlock (x1 : Int32) (M : Sto) : Option (Int32 × Sto) :=
  if ok x1 10 then (if ok x1 10 then (l_G_nameBlock_20 (j_G_nameBlock_56) FU x1 x1 (M 14 x1.toNatClampNeg) 0 M) else none) else none
def j_G_nameAll_75 (M : Sto) : Option (Int32 × Sto) :=
  some (0, M)
def l_G_nameAll_45 (k : Sto → Option (Int32 × Sto)) : Nat → Int32 → Sto → Option (Int32 × Sto)
  | 0, _, _ => none
  | n + 1, v1, M =>
  if (M 2 7) ≤ v1 then (k M) else (if ok v1 10 then ((m_G_nameBlock (M 16 v1.toNatClampNeg) M).bind fun o5 => (l_G_nameAll_45 k n) (v1 + 1) o5.2) else none)
def j_G_nameAll_43 (M : Sto) : Option (Int32 × Sto) :=
  l_G_nameAll_45 (j_G_nameAll_75) FU 0 M
def l_G_nameAll_23 (k : Sto → Option (Int32 × Sto)) : Nat → Int32 → Sto → Option (Int32 × Sto)
  | 0, _, _ => none
  | n + 1, v1, M =>
  if 6 ≤ v1 then (k M) else ((m_G_newName (-1) (-1) v1 M).bind fun o6 => (l_G_nameAll_23 k n) (v1 + 1) o6.2)
def m_G_nameAll (M : Sto) : Option (Int32 × Sto) :=
  (m_G_findDefined M).bind fun o1 => (m_G_placePhis o1.2).bind fun o2 => wr (fillA o2.2 20 10 (-1)) fun M3 => wr (up2 M3 3 2 0) fun M4 => l_G_nameAll_23 (j_G_nameAll_43) FU 0 M4
def m_K_isWayTaken (x1 x2 : Int32) (M : Sto) : Option (Int32 × Sto) :=
  if ok x1 10 then ((m_N_holds (M 24 x1.toNatClampNeg) x2 M).bind fun o1 => if bz o1.1 then some (o1.1, o1.2) else none) else none
def j_K_raise_14 (M : Sto) : Option (Int32 × Sto) :=
  some (0, M)
def j_K_raise_80 (M : Sto) : Option (Int32 × Sto) :=
  some (0, M)
def j_K_raise_61 (v1 : Int32) (M : Sto) : Option (Int32 × Sto) :=
  if ok v1 126 then ((wr (up2 M 25 v1.toNatClampNeg 2) fun M1 => (if ok v1 126 then ((wr (up2 M1 26 v1.toNatClampNeg 0) fun M2 => (if bz 1 then (wr (up2 M2 4 7 1) fun M3 => j_K_raise_80 M3) else none))) else none))) else none
def m_K_raise (x1 x2 x3 : Int32) (M : Sto) : Option (Int32 × Sto) :=
  if x2 = 0 then (j_K_raise_14 M) else (if ok x1 126 then (if (M 25 x1.toNatClampNeg) = 2 then (j_K_raise_14 M) else (if ok x1 126 then (if (M 25 x1.toNatClampNeg) = 0 then (if ok x1 126 then ((wr (up2 M 25 x1.toNatClampNeg x2) fun M4 => (if ok x1 126 then ((wr (up2 M4 26 x1.toNatClampNeg x3) fun M5 => (if bz 1 then (wr (up2 M5 4 7 1) fun M6 => j_K_raise_80 M6) else none))) else none))) else none) else (if x2 = 2 then (j_K_raise_61 x1 M) else (if ok x1 126 then (if x3 = (M 26 x1.toNatClampNeg) then (j_K_raise_80 M) else (j_K_raise_61 x1 M)) else none))) else none)) else none)
def j_K_passPhi_70 (M : Sto) : Option (Int32 × Sto) :=
  some (0, M)
def j_K_passPhi_64 (g : Int32 → Int32 → Int32 → Sto → Option (Int32 × Sto)) (k : Sto → Option (Int32 × Sto)) (v1 v2 v3 : Int32) (M : Sto) : Option (Int32 × Sto) :=
  g v1 v2 (v3 + 1) M
def l_K_passPhi_2 (k : Sto → Option (Int32 × Sto)) : Nat → Int32 → Int32 → Int32 → Sto → Option (Int32 × Sto)
  | 0, _, _, _, _ => none
  | n + 1, v1, v2, v3, M =>
  if (M 1 0) ≤ v3 then (k M) else ((m_K_isWayTaken v3 v1 M).bind fun o1 => if o1.1 = 0 then (j_K_passPhi_64 (l_K_passPhi_2 k n) k v1 v2 v3 o1.2) else (if ok v3 10 then (if ok v2 6 then (if ok v1 10 then (if ok v2 6 then (if ok (o1.2 (93 + v3.toNatClampNeg) v2.toNatClampNeg) 126 then (if ok (o1.2 (93 + v3.toNatClampNeg) v2.toNatClampNeg) 126 then ((m_K_raise (o1.2 (83 + v1.toNatClampNeg) v2.toNatClampNeg) (o1.2 25 (o1.2 (93 + v3.toNatClampNeg) v2.toNatClampNeg).toNatClampNeg) (o1.2 26 (o1.2 (93 + v3.toNatClampNeg) v2.toNatClampNeg).toNatClampNeg) o1.2).bind fun o2 => j_K_passPhi_64 (l_K_passPhi_2 k n) k v1 v2 v3 o2.2) else none) else none) else none) else none) else none) else none))
def m_K_passPhi (x1 x2 : Int32) (M : Sto) : Option (Int32 × Sto) :=
  l_K_passPhi_2 (j_K_passPhi_70) FU x1 x2 0 M
def j_N_calculate_64 (s0 : Int32) (M : Sto) : Option (Int32 × Sto) :=
  some (s0, M)
def m_N_calculate (x0 x1 x2 : Int32) (M : Sto) : Option (Int32 × Sto) :=
  if x0 = 0 then (some (x1, M)) else (if x0 = 1 then (some (x1, M)) else (if x0 = 2 then (some (x1 + x2, M)) else (if x0 = 3 then (some (x1 - x2, M)) else (if x0 = 4 then (some (x1 * x2, M)) else (if x0 = 5 then (if x2 ≤ x1 then (j_N_calculate_64 0 M) else (j_N_calculate_64 1 M)) else (some (0, M)))))))
def j_K_passInstruction_193 (M : Sto) : Option (Int32 × Sto) :=
  some (0, M)
def j_K_passInstruction_107 (v8 : Int32) (M : Sto) : Option (Int32 × Sto) :=
  (m_K_raise v8 2 0 M).bind fun o1 => j_K_passInstruction_193 o1.2
def j_K_passInstruction_176 (s0 v3 v8 v9 : Int32) (M : Sto) : Option (Int32 × Sto) :=
  (m_N_calculate v3 v9 s0 M).bind fun o2 => (m_K_raise v8 1 o2.1 o2.2).bind fun o3 => j_K_passInstruction_193 o3.2
def j_K_passInstruction_157 (s0 v3 v5 v8 : Int32) (M : Sto) : Option (Int32 × Sto) :=
  if v5 = (-1) then (j_K_passInstruction_176 0 v3 v8 s0 M) else (if ok v5 126 then (j_K_passInstruction_176 (M 26 v5.toNatClampNeg) v3 v8 s0 M) else none)
def j_K_passInstruction_74 (s0 v1 v2 v3 v4 v5 v6 : Int32) (M : Sto) : Option (Int32 × Sto) :=
  if ok v1 10 then (if ok v2 6 then (if v3 = 6 then (j_K_passInstruction_107 (M (103 + v1.toNatClampNeg) v2.toNatClampNeg) M) else (if v6 = 2 then (j_K_passInstruction_107 (M (103 + v1.toNatClampNeg) v2.toNatClampNeg) M) else (if s0 = 2 then (j_K_passInstruction_107 (M (103 + v1.toNatClampNeg) v2.toNatClampNeg) M) else (if v6 = 1 then (if s0 = 1 then (if v4 = (-1) then (if ok v1 10 then (if ok v2 6 then (j_K_passInstruction_157 (M (63 + v1.toNatClampNeg) v2.toNatClampNeg) v3 v5 (M (103 + v1.toNatClampNeg) v2.toNatClampNeg) M) else none) else none) else (if ok v4 126 then (j_K_passInstruction_157 (M 26 v4.toNatClampNeg) v3 v5 (M (103 + v1.toNatClampNeg) v2.toNatClampNeg) M) else none)) else (j_K_passInstruction_193 M)) else (j_K_passInstruction_193 M))))) else none) else none
def j_K_passInstruction_55 (s0 v1 v2 v3 v4 v5 : Int32) (M : Sto) : Option (Int32 × Sto) :=
  if v5 = (-1) then (j_K_passInstruction_74 1 v1 v2 v3 v4 v5 s0 M) else (if ok v5 126 then (j_K_passInstruction_74 (M 25 v5.toNatClampNeg) v1 v2 v3 v4 v5 s0 M) else none)
def m_K_passInstruction (x1 x2 : Int32) (M : Sto) : Option (Int32 × Sto) :=
  if ok x1 10 then (if ok x2 6 then (if ok x1 10 then (if ok x2 6 then (if ok x1 10 then (if ok x2 6 then (if (M (113 + x1.toNatClampNeg) x2.toNatClampNeg) = (-1) then (j_K_passInstruction_55 1 x1 x2 (M (43 + x1.toNatClampNeg) x2.toNatClampNeg) (M (113 + x1.toNatClampNeg) x2.toNatClampNeg) (M (123 + x1.toNatClampNeg) x2.toNatClampNeg) M) else (if ok (M (113 + x1.toNatClampNeg) x2.toNatClampNeg) 126 then (j_K_passInstruction_55 (M 25 (M (113 + x1.toNatClampNeg) x2.toNatClampNeg).toNatClampNeg) x1 x2 (M (43 + x1.toNatClampNeg) x2.toNatClampNeg) (M (113 + x1.toNatClampNeg) x2.toNatClampNeg) (M (123 + x1.toNatClampNeg) x2.toNatClampNeg) M) else none)) else none) else none) else none) else none) else none) else none
def j_K_waysTaken_25 (v1 : Int32) (M : Sto) : Option (Int32 × Sto) :=
  (m_P_ways v1 M).bind fun o1 => some (o1.1, o1.2)
def j_K_waysTaken_75 (s0 : Int32) (M : Sto) : Option (Int32 × Sto) :=
  (m_N_bit s0 M).bind fun o2 => some (o2.1, o2.2)
def m_K_waysTaken (x1 : Int32) (M : Sto) : Option (Int32 × Sto) :=
  if ok x1 10 then (if (M 20 x1.toNatClampNeg) = (-1) then (j_K_waysTaken_25 x1 M) else (if ok (M 20 x1.toNatClampNeg) 126 then (if (M 25 (M 20 x1.toNatClampNeg).toNatClampNeg) = 2 then (j_K_waysTaken_25 x1 M) else (if ok (M 20 x1.toNatClampNeg) 126 then (if (M 25 (M 20 x1.toNatClampNeg).toNatClampNeg) = 0 then (some (0, M)) else (if ok (M 20 x1.toNatClampNeg) 126 then (if (M 26 (M 20 x1.toNatClampNeg).toNatClampNeg) = 0 then (if ok x1 10 then (j_K_waysTaken_75 (M 11 x1.toNatClampNeg) M) else none) else (if ok x1 10 then (j_K_waysTaken_75 (M 10 x1.toNatClampNeg) M) else none)) else none)) else none)) else none)) else none
def j_K_passEnd_45 (M : Sto) : Option (Int32 × Sto) :=
  some (0, M)
def m_K_passEnd (x1 : Int32) (M : Sto) : Option (Int32 × Sto) :=
  if ok x1 10 then ((m_K_waysTaken x1 M).bind fun o1 => if ok x1 10 then (if ((M 24 x1.toNatClampNeg) ||| o1.1) = (o1.2 24 x1.toNatClampNeg) then (j_K_passEnd_45 o1.2) else (if ok x1 10 then ((wr (up2 o1.2 24 x1.toNatClampNeg ((M 24 x1.toNatClampNeg) ||| o1.1)) fun M2 => (wr (up2 M2 4 3 ((M2 4 3) ||| ((M 24 x1.toNatClampNeg) ||| o1.1))) fun M3 => if bz 1 then (wr (up2 M3 4 7 1) fun M4 => j_K_passEnd_45 M4) else none))) else none)) else none) else none
def j_K_passBlock_78 (v1 : Int32) (M : Sto) : Option (Int32 × Sto) :=
  (m_K_passEnd v1 M).bind fun o1 => some (0, o1.2)
def j_K_passBlock_72 (g : Int32 → Int32 → Sto → Option (Int32 × Sto)) (k : Int32 → Sto → Option (Int32 × Sto)) (v1 v2 : Int32) (M : Sto) : Option (Int32 × Sto) :=
  g v1 (v2 + 1) M
def l_K_passBlock_38 (k : Int32 → Sto → Option (Int32 × Sto)) : Nat → Int32 → Int32 → Sto → Option (Int32 × Sto)
  | 0, _, _, _ => none
  | n + 1, v1, v2, M =>
  if ok v1 10 then (if (M 7 v1.toNatClampNeg) ≤ v2 then (k v1 M) else (if ok v1 10 then (if ok v2 6 then (if (M (103 + v1.toNatClampNeg) v2.toNatClampNeg) = (-1) then (j_K_passBlock_72 (l_K_passBlock_38 k n) k v1 v2 M) else ((m_K_passInstruction v1 v2 M).bind fun o2 => j_K_passBlock_72 (l_K_passBlock_38 k n) k v1 v2 o2.2)) else none) else none)) else none
def j_K_passBlock_36 (v1 : Int32) (M : Sto) : Option (Int32 × Sto) :=
  l_K_passBlock_38 (j_K_passBlock_78) FU v1 0 M
def j_K_passBlock_30 (g : Int32 → Int32 → Sto → Option (Int32 × Sto)) (k : Int32 → Sto → Option (Int32 × Sto)) (v1 v2 : Int32) (M : Sto) : Option (Int32 × Sto) :=
  g v1 (v2 + 1) M
def l_K_passBlock_2 (k : Int32 → Sto → Option (Int32 × Sto)) : Nat → Int32 → Int32 → Sto → Option (Int32 × Sto)
  | 0, _, _, _ => none
  | n + 1, v1, v2, M =>
  if 6 ≤ v2 then (k v1 M) else (if ok v1 10 then ((m_N_holds (M 18 v1.toNatClampNeg) v2 M).bind fun o3 => if o3.1 = 0 then (j_K_passBlock_30 (l_K_passBlock_2 k n) k v1 v2 o3.2) else ((m_K_passPhi v1 v2 o3.2).bind fun o4 => j_K_passBlock_30 (l_K_passBlock_2 k n) k v1 v2 o4.2)) else none)
def m_K_passBlock (x1 : Int32) (M : Sto) : Option (Int32 × Sto) :=
  l_K_passBlock_2 (j_K_passBlock_36) FU x1 0 M
def j_K_settle_136 (M : Sto) : Option (Int32 × Sto) :=
  some (0, M)
def j_K_settle_130 (g : Int32 → Sto → Option (Int32 × Sto)) (k : Sto → Option (Int32 × Sto)) (v1 : Int32) (M : Sto) : Option (Int32 × Sto) :=
  g (v1 + 1) M
def j_K_settle_124 (g : Int32 → Int32 → Sto → Option (Int32 × Sto)) (k : Int32 → Sto → Option (Int32 × Sto)) (v1 v2 : Int32) (M : Sto) : Option (Int32 × Sto) :=
  g v1 (v2 + 1) M
def l_K_settle_81 (k : Int32 → Sto → Option (Int32 × Sto)) : Nat → Int32 → Int32 → Sto → Option (Int32 × Sto)
  | 0, _, _, _ => none
  | n + 1, v1, v2, M =>
  if (M 2 7) ≤ v2 then (k v1 M) else (if ok v2 10 then ((m_N_holds (M 4 3) (M 16 v2.toNatClampNeg) M).bind fun o8 => if o8.1 = 0 then (j_K_settle_124 (l_K_settle_81 k n) k v1 v2 o8.2) else (if ok v2 10 then ((m_K_passBlock (o8.2 16 v2.toNatClampNeg) o8.2).bind fun o9 => j_K_settle_124 (l_K_settle_81 k n) k v1 v2 o9.2) else none)) else none)
def l_K_settle_60 (k : Sto → Option (Int32 × Sto)) : Nat → Int32 → Sto → Option (Int32 × Sto)
  | 0, _, _ => none
  | n + 1, v1, M =>
  if (M 4 7) = 0 then (k M) else (if 1000 ≤ v1 then (k M) else (if bz 0 then (wr (up2 M 4 7 0) fun M7 => l_K_settle_81 (j_K_settle_130 (l_K_settle_60 k n) k) FU v1 0 M7) else none))
def j_K_settle_45 (M : Sto) : Option (Int32 × Sto) :=
  (m_N_bit 0 M).bind fun o4 => wr (up2 o4.2 4 3 o4.1) fun M5 => if bz 1 then (wr (up2 M5 4 7 1) fun M6 => l_K_settle_60 (j_K_settle_136) FU 0 M6) else none
def l_K_settle_26 (k : Sto → Option (Int32 × Sto)) : Nat → Int32 → Sto → Option (Int32 × Sto)
  | 0, _, _ => none
  | n + 1, v1, M =>
  if 6 ≤ v1 then (k M) else (if ok v1 126 then ((wr (up2 M 25 v1.toNatClampNeg 1) fun M10 => ((l_K_settle_26 k n) (v1 + 1) M10))) else none)
def m_K_settle (M : Sto) : Option (Int32 × Sto) :=
  wr (fillA M 24 10 0) fun M1 => wr (fillA M1 25 126 0) fun M2 => wr (fillA M2 26 126 0) fun M3 => l_K_settle_26 (j_K_settle_45) FU 0 M3
def j_D_need_41 (M : Sto) : Option (Int32 × Sto) :=
  some (0, M)
def m_D_need (x1 : Int32) (M : Sto) : Option (Int32 × Sto) :=
  if x1 = (-1) then (j_D_need_41 M) else (if ok x1 126 then (if (M 27 x1.toNatClampNeg) = 0 then (if ok x1 126 then (if bz 1 then ((wr (up2 M 27 x1.toNatClampNeg 1) fun M1 => (if ok (M1 5 5) 126 then ((wr (up2 M1 28 (M1 5 5).toNatClampNeg x1) fun M2 => (wr (up2 M2 5 5 ((M2 5 5) + 1)) fun M3 => j_D_need_41 M3))) else none))) else none) else none) else (j_D_need_41 M)) else none)
def j_D_needByBlock_111 (M : Sto) : Option (Int32 × Sto) :=
  some (0, M)
def j_D_needByBlock_78 (v1 : Int32) (M : Sto) : Option (Int32 × Sto) :=
  if ok v1 10 then (if (M 20 v1.toNatClampNeg) = (-1) then (j_D_needByBlock_111 M) else (if ok (M 20 v1.toNatClampNeg) 126 then (if (M 25 (M 20 v1.toNatClampNeg).toNatClampNeg) = 2 then ((m_D_need (M 20 v1.toNatClampNeg) M).bind fun o1 => j_D_needByBlock_111 o1.2) else (j_D_needByBlock_111 M)) else none)) else none
def j_D_needByBlock_72 (g : Int32 → Int32 → Sto → Option (Int32 × Sto)) (k : Int32 → Sto → Option (Int32 × Sto)) (v1 v2 : Int32) (M : Sto) : Option (Int32 × Sto) :=
  g v1 (v2 + 1) M
def l_D_needByBlock_2 (k : Int32 → Sto → Option (Int32 × Sto)) : Nat → Int32 → Int32 → Sto → Option (Int32 × Sto)
  | 0, _, _, _ => none
  | n + 1, v1, v2, M =>
  if ok v1 10 then (if (M 7 v1.toNatClampNeg) ≤ v2 then (k v1 M) else (if ok v1 10 then (if ok v2 6 then (if (M (43 + v1.toNatClampNeg) v2.toNatClampNeg) = 7 then (if ok v1 10 then (if ok v2 6 then ((m_D_need (M (113 + v1.toNatClampNeg) v2.toNatClampNeg) M).bind fun o3 => j_D_needByBlock_72 (l_D_needByBlock_2 k n) k v1 v2 o3.2) else none) else none) else (if (M (43 + v1.toNatClampNeg) v2.toNatClampNeg) = 6 then (if ok v1 10 then (if ok v2 6 then ((m_D_need (M (103 + v1.toNatClampNeg) v2.toNatClampNeg) M).bind fun o2 => j_D_needByBlock_72 (l_D_needByBlock_2 k n) k v1 v2 o2.2) else none) else none) else (j_D_needByBlock_72 (l_D_needByBlock_2 k n) k v1 v2 M))) else none) else none)) else none
def m_D_needByBlock (x1 : Int32) (M : Sto) : Option (Int32 × Sto) :=
  l_D_needByBlock_2 (j_D_needByBlock_78) FU x1 0 M
def j_D_needPartsOfPhi_46 (M : Sto) : Option (Int32 × Sto) :=
  some (0, M)
def j_D_needPartsOfPhi_40 (g : Int32 → Int32 → Int32 → Sto → Option (Int32 × Sto)) (k : Sto → Option (Int32 × Sto)) (v1 v2 v3 : Int32) (M : Sto) : Option (Int32 × Sto) :=
  g v1 v2 (v3 + 1) M
def l_D_needPartsOfPhi_2 (k : Sto → Option (Int32 × Sto)) : Nat → Int32 → Int32 → Int32 → Sto → Option (Int32 × Sto)
  | 0, _, _, _, _ => none
  | n + 1, v1, v2, v3, M =>
  if (M 1 0) ≤ v3 then (k M) else ((m_K_isWayTaken v3 v1 M).bind fun o1 => if o1.1 = 0 then (j_D_needPartsOfPhi_40 (l_D_needPartsOfPhi_2 k n) k v1 v2 v3 o1.2) else (if ok v3 10 then (if ok v2 6 then ((m_D_need (o1.2 (93 + v3.toNatClampNeg) v2.toNatClampNeg) o1.2).bind fun o2 => j_D_needPartsOfPhi_40 (l_D_needPartsOfPhi_2 k n) k v1 v2 v3 o2.2) else none) else none))
def m_D_needPartsOfPhi (x1 x2 : Int32) (M : Sto) : Option (Int32 × Sto) :=
  l_D_needPartsOfPhi_2 (j_D_needPartsOfPhi_46) FU x1 x2 0 M
def j_D_needPartsOf_78 (M : Sto) : Option (Int32 × Sto) :=
  some (0, M)
def m_D_needPartsOf (x1 : Int32) (M : Sto) : Option (Int32 × Sto) :=
  if ok x1 126 then (if ok x1 126 then (if (M 21 x1.toNatClampNeg) = (-1) then (some (0, M)) else (if (M 22 x1.toNatClampNeg) = (-1) then (if ok x1 126 then ((m_D_needPartsOfPhi (M 21 x1.toNatClampNeg) (M 23 x1.toNatClampNeg) M).bind fun o3 => j_D_needPartsOf_78 o3.2) else none) else (if ok (M 21 x1.toNatClampNeg) 10 then (if ok (M 22 x1.toNatClampNeg) 6 then ((m_D_need (M (113 + (M 21 x1.toNatClampNeg).toNatClampNeg) (M 22 x1.toNatClampNeg).toNatClampNeg) M).bind fun o1 => if ok (M 21 x1.toNatClampNeg) 10 then (if ok (M 22 x1.toNatClampNeg) 6 then ((m_D_need (o1.2 (123 + (M 21 x1.toNatClampNeg).toNatClampNeg) (M 22 x1.toNatClampNeg).toNatClampNeg) o1.2).bind fun o2 => j_D_needPartsOf_78 o2.2) else none) else none) else none) else none))) else none) else none
def j_D_collect_114 (M : Sto) : Option (Int32 × Sto) :=
  some (0, M)
def j_D_collect_108 (g : Int32 → Sto → Option (Int32 × Sto)) (k : Sto → Option (Int32 × Sto)) (v1 : Int32) (M : Sto) : Option (Int32 × Sto) :=
  g (v1 + 1) M
def l_D_collect_66 (k : Sto → Option (Int32 × Sto)) : Nat → Int32 → Sto → Option (Int32 × Sto)
  | 0, _, _ => none
  | n + 1, v1, M =>
  if (M 5 5) ≤ v1 then (k M) else (if 126 ≤ v1 then (k M) else (if ok v1 126 then (if ok (M 28 v1.toNatClampNeg) 126 then (if (M 25 (M 28 v1.toNatClampNeg).toNatClampNeg) = 1 then (j_D_collect_108 (l_D_collect_66 k n) k v1 M) else (if ok v1 126 then ((m_D_needPartsOf (M 28 v1.toNatClampNeg) M).bind fun o2 => j_D_collect_108 (l_D_collect_66 k n) k v1 o2.2) else none)) else none) else none))
def j_D_collect_64 (M : Sto) : Option (Int32 × Sto) :=
  l_D_collect_66 (j_D_collect_114) FU 0 M
def j_D_collect_58 (g : Int32 → Sto → Option (Int32 × Sto)) (k : Sto → Option (Int32 × Sto)) (v1 : Int32) (M : Sto) : Option (Int32 × Sto) :=
  g (v1 + 1) M
def l_D_collect_28 (k : Sto → Option (Int32 × Sto)) : Nat → Int32 → Sto → Option (Int32 × Sto)
  | 0, _, _ => none
  | n + 1, v1, M =>
  if (M 1 0) ≤ v1 then (k M) else ((m_N_holds (M 4 3) v1 M).bind fun o3 => if o3.1 = 0 then (j_D_collect_58 (l_D_collect_28 k n) k v1 o3.2) else ((m_D_needByBlock v1 o3.2).bind fun o4 => j_D_collect_58 (l_D_collect_28 k n) k v1 o4.2))
def j_D_collect_26 (M : Sto) : Option (Int32 × Sto) :=
  l_D_collect_28 (j_D_collect_64) FU 0 M
def l_D_collect_7 (k : Sto → Option (Int32 × Sto)) : Nat → Int32 → Sto → Option (Int32 × Sto)
  | 0, _, _ => none
  | n + 1, v1, M =>
  if 126 ≤ v1 then (k M) else (if ok v1 126 then (if bz 0 then ((wr (up2 M 27 v1.toNatClampNeg 0) fun M5 => ((l_D_collect_7 k n) (v1 + 1) M5))) else none) else none)
def m_D_collect (M : Sto) : Option (Int32 × Sto) :=
  wr (up2 M 5 5 0) fun M1 => l_D_collect_7 (j_D_collect_26) FU 0 M1
def m_N_build (M : Sto) : Option (Nat × Int32 × Sto) :=
  if (M 1 0) = 0 then (some (2, 0, M)) else ((m_S_survey M).bind fun o1 => (m_G_nameAll o1.2).bind fun o2 => (m_K_settle o2.2).bind fun o3 => (m_D_collect o3.2).bind fun o4 => if bz 1 then (wr (up2 o4.2 0 6 1) fun M5 => some (0, M5 3 2, M5)) else none)
def j_N_look_20 (M : Sto) : Option (Nat × Int32 × Sto) :=
  some (3, 0, M)
def j_N_look_146 (s0 : Int32) (M : Sto) : Option (Nat × Int32 × Sto) :=
  some (0, s0, M)
def j_N_look_103 (s0 : Int32) (M : Sto) : Option (Nat × Int32 × Sto) :=
  some (0, s0, M)
def m_N_look (x1 x2 : Int32) (M : Sto) : Option (Nat × Int32 × Sto) :=
  (m_P_has x1 M).bind fun o1 => if o1.1 = 0 then (j_N_look_20 o1.2) else (if x2 < 0 then (j_N_look_20 o1.2) else (if x2 ≤ 5 then (if (o1.2 0 6) = 0 then (some (2, 0, o1.2)) else (if x2 = 0 then ((m_N_holds (o1.2 2 1) x1 o1.2).bind fun o3 => if o3.1 = 0 then (j_N_look_103 0 o3.2) else (j_N_look_103 1 o3.2)) else (if x2 = 1 then (if ok x1 10 then (some (0, o1.2 14 x1.toNatClampNeg, o1.2)) else none) else (if x2 = 2 then (if ok x1 10 then (some (0, bitCnt (o1.2 18 x1.toNatClampNeg), o1.2)) else none) else (if x2 = 3 then ((m_N_holds (o1.2 4 3) x1 o1.2).bind fun o2 => if o2.1 = 0 then (j_N_look_146 0 o2.2) else (j_N_look_146 1 o2.2)) else (if x2 = 4 then (if ok x1 10 then (some (0, o1.2 7 x1.toNatClampNeg, o1.2)) else none) else (if ok x1 10 then (some (0, o1.2 20 x1.toNatClampNeg, o1.2)) else none))))))) else (j_N_look_20 o1.2)))
def j_G_phiVariable_42 (M : Sto) : Option (Int32 × Sto) :=
  some ((-1), M)
def j_G_phiVariable_36 (g : Int32 → Int32 → Int32 → Sto → Option (Int32 × Sto)) (k : Sto → Option (Int32 × Sto)) (v1 v3 v4 : Int32) (M : Sto) : Option (Int32 × Sto) :=
  g v1 v3 (v4 + 1) M
def l_G_phiVariable_5 (k : Sto → Option (Int32 × Sto)) : Nat → Int32 → Int32 → Int32 → Sto → Option (Int32 × Sto)
  | 0, _, _, _, _ => none
  | n + 1, v1, v3, v4, M =>
  if 6 ≤ v4 then (k M) else (if ok v1 10 then ((m_N_holds (M 18 v1.toNatClampNeg) v4 M).bind fun o1 => if o1.1 = 0 then (j_G_phiVariable_36 (l_G_phiVariable_5 k n) k v1 v3 v4 o1.2) else (if v3 = 0 then (some (v4, o1.2)) else (j_G_phiVariable_36 (l_G_phiVariable_5 k n) k v1 (v3 + (-1)) v4 o1.2))) else none)
def m_G_phiVariable (x1 x2 : Int32) (M : Sto) : Option (Int32 × Sto) :=
  l_G_phiVariable_5 (j_G_phiVariable_42) FU x1 x2 0 M
def j_N_isPhiWhat_11 (M : Sto) : Option (Int32 × Sto) :=
  if bz 1 then some (1, M) else none
def j_N_isPhiWhat_45 (s0 : Int32) (M : Sto) : Option (Int32 × Sto) :=
  if bz s0 then some (s0, M) else none
def j_N_isPhiWhat_44 (M : Sto) : Option (Int32 × Sto) :=
  j_N_isPhiWhat_45 0 M
def m_N_isPhiWhat (x1 x2 : Int32) (M : Sto) : Option (Int32 × Sto) :=
  if x2 = (-1) then (j_N_isPhiWhat_11 M) else (if x2 = (-2) then (j_N_isPhiWhat_11 M) else ((m_P_has x2 M).bind fun o1 => if o1.1 = 0 then (j_N_isPhiWhat_44 o1.2) else (if ok x1 10 then ((m_N_holds (o1.2 12 x1.toNatClampNeg) x2 o1.2).bind fun o2 => if o2.1 = 0 then (j_N_isPhiWhat_44 o2.2) else (j_N_isPhiWhat_45 1 o2.2)) else none)))
def j_N_phi_58 (M : Sto) : Option (Nat × Int32 × Sto) :=
  some (3, 0, M)
def j_N_phi_41 (s0 v1 v3 : Int32) (M : Sto) : Option (Nat × Int32 × Sto) :=
  if s0 = (-1) then (j_N_phi_58 M) else ((m_N_isPhiWhat v1 v3 M).bind fun o2 => if o2.1 = 0 then (j_N_phi_58 o2.2) else (if v3 = (-1) then (if ok v1 10 then (if ok s0 6 then (some (0, o2.2 (83 + v1.toNatClampNeg) s0.toNatClampNeg, o2.2)) else none) else none) else (if v3 = (-2) then (some (0, s0, o2.2)) else (if ok v3 10 then (if ok s0 6 then (some (0, o2.2 (93 + v3.toNatClampNeg) s0.toNatClampNeg, o2.2)) else none) else none))))
def m_N_phi (x1 x2 x3 : Int32) (M : Sto) : Option (Nat × Int32 × Sto) :=
  if (M 0 6) = 0 then (some (2, 0, M)) else ((m_P_has x1 M).bind fun o1 => if o1.1 = 0 then (j_N_phi_41 (-1) x1 x3 o1.2) else ((m_G_phiVariable x1 x2 o1.2).bind fun o3 => j_N_phi_41 o3.1 x1 x3 o3.2))
def j_N_isReachedInstruction_47 (s0 : Int32) (M : Sto) : Option (Int32 × Sto) :=
  if bz s0 then some (s0, M) else none
def j_N_isReachedInstruction_46 (M : Sto) : Option (Int32 × Sto) :=
  j_N_isReachedInstruction_47 0 M
def m_N_isReachedInstruction (x1 x2 : Int32) (M : Sto) : Option (Int32 × Sto) :=
  (m_P_has x1 M).bind fun o1 => if o1.1 = 0 then (j_N_isReachedInstruction_46 o1.2) else ((m_N_holds (o1.2 2 1) x1 o1.2).bind fun o2 => if o2.1 = 0 then (j_N_isReachedInstruction_46 o2.2) else (if x2 < 0 then (j_N_isReachedInstruction_46 o2.2) else (if ok x1 10 then (if (o2.2 7 x1.toNatClampNeg) ≤ x2 then (j_N_isReachedInstruction_46 o2.2) else (j_N_isReachedInstruction_47 1 o2.2)) else none)))
def j_N_uses_35 (M : Sto) : Option (Nat × Int32 × Sto) :=
  some (3, 0, M)
def m_N_uses (x1 x2 x3 : Int32) (M : Sto) : Option (Nat × Int32 × Sto) :=
  if (M 0 6) = 0 then (some (2, 0, M)) else ((m_N_isReachedInstruction x1 x2 M).bind fun o1 => if o1.1 = 0 then (j_N_uses_35 o1.2) else (if x3 < 0 then (j_N_uses_35 o1.2) else (if x3 ≤ 2 then (if x3 = 0 then (if ok x1 10 then (if ok x2 6 then (some (0, o1.2 (103 + x1.toNatClampNeg) x2.toNatClampNeg, o1.2)) else none) else none) else (if x3 = 1 then (if ok x1 10 then (if ok x2 6 then (some (0, o1.2 (113 + x1.toNatClampNeg) x2.toNatClampNeg, o1.2)) else none) else none) else (if ok x1 10 then (if ok x2 6 then (some (0, o1.2 (123 + x1.toNatClampNeg) x2.toNatClampNeg, o1.2)) else none) else none))) else (j_N_uses_35 o1.2))))
def j_N_name_41 (M : Sto) : Option (Nat × Int32 × Sto) :=
  some (3, 0, M)
def j_N_name_117 (s0 : Int32) (M : Sto) : Option (Nat × Int32 × Sto) :=
  some (0, s0, M)
def m_N_name (x1 x2 : Int32) (M : Sto) : Option (Nat × Int32 × Sto) :=
  if (M 0 6) = 0 then (some (2, 0, M)) else (if x1 < 0 then (j_N_name_41 M) else (if (M 3 2) ≤ x1 then (j_N_name_41 M) else (if x2 < 0 then (j_N_name_41 M) else (if x2 ≤ 3 then (if x2 = 0 then (if ok x1 126 then (some (0, M 25 x1.toNatClampNeg, M)) else none) else (if x2 = 1 then (if ok x1 126 then (some (0, M 26 x1.toNatClampNeg, M)) else none) else (if x2 = 2 then (if ok x1 126 then (if (M 27 x1.toNatClampNeg) = 0 then (j_N_name_117 0 M) else (j_N_name_117 1 M)) else none) else (if ok x1 126 then (some (0, M 21 x1.toNatClampNeg, M)) else none)))) else (j_N_name_41 M)))))
def m_A_addInput (x1 : Int32) (M : Sto) : Option (Int32 × Sto) :=
  if (M 6 4) < 16 then (if ok (M 6 4) 16 then ((wr (up2 M 29 (M 6 4).toNatClampNeg x1) fun M1 => (wr (up2 M1 6 4 ((M1 6 4) + 1)) fun M2 => if bz 1 then some (1, M2) else none))) else none) else (if bz 0 then some (0, M) else none)
def m_N_give (x1 : Int32) (M : Sto) : Option (Int32 × Sto) :=
  (m_A_addInput x1 M).bind fun o1 => if bz o1.1 then some (o1.1, o1.2) else none
def m_N_take (M : Sto) : Option (Int32 × Sto) :=
  wr (up2 M 6 4 0) fun M1 => some (0, M1)
def m_A_begin (M : Sto) : Option (Int32 × Sto) :=
  wr (fillA M 30 6 0) fun M1 => wr (fillA M1 31 126 0) fun M2 => wr (up2 M2 6 9 0) fun M3 => wr (up2 M3 6 11 0) fun M4 => wr (up2 M4 6 12 0) fun M5 => wr (up2 M5 6 13 0) fun M6 => some (0, M6)
def j_A_keep_19 (M : Sto) : Option (Int32 × Sto) :=
  wr (up2 M 6 9 ((M 6 9) + 1)) fun M1 => some (0, M1)
def m_A_keep (x1 : Int32) (M : Sto) : Option (Int32 × Sto) :=
  if 40 ≤ (M 6 9) then (j_A_keep_19 M) else (if ok (M 6 9) 40 then ((wr (up2 M 33 (M 6 9).toNatClampNeg x1) fun M2 => (j_A_keep_19 M2))) else none)
def m_A_nextInput (M : Sto) : Option (Int32 × Sto) :=
  if (M 6 13) < (M 6 4) then (if ok (M 6 13) 16 then (wr (up2 M 6 13 ((M 6 13) + 1)) fun M1 => some (M 29 (M 6 13).toNatClampNeg, M1)) else none) else (some (0, M))
def j_A_perform_40 (s0 : Int32) (M : Sto) : Option (Int32 × Sto) :=
  some (s0, M)
def j_A_perform_21 (v1 v2 v3 : Int32) (M : Sto) : Option (Int32 × Sto) :=
  if v1 = 6 then ((m_A_nextInput M).bind fun o3 => j_A_perform_40 o3.1 o3.2) else ((m_N_calculate v1 v2 v3 M).bind fun o2 => j_A_perform_40 o2.1 o2.2)
def m_A_perform (x1 x2 x3 : Int32) (M : Sto) : Option (Int32 × Sto) :=
  wr (up2 M 6 12 ((M 6 12) + 1)) fun M1 => if x1 = 7 then ((m_A_keep x2 M1).bind fun o4 => j_A_perform_21 x1 x2 x3 o4.2) else (j_A_perform_21 x1 x2 x3 M1)
def j_A_nextOf_39 (s0 : Int32) (M : Sto) : Option (Int32 × Sto) :=
  some (s0, M)
def m_A_nextOf (x1 x2 : Int32) (M : Sto) : Option (Int32 × Sto) :=
  if ok x1 10 then (if (M 8 x1.toNatClampNeg) = 0 then (some ((-1), M)) else (if x2 = 0 then (if ok x1 10 then (j_A_nextOf_39 (M 11 x1.toNatClampNeg) M) else none) else (if ok x1 10 then (j_A_nextOf_39 (M 10 x1.toNatClampNeg) M) else none))) else none
def j_A_passPlain_136 (v1 : Int32) (M : Sto) : Option (Int32 × Sto) :=
  if ok v1 10 then (if ok (M 9 v1.toNatClampNeg) 6 then ((m_A_nextOf v1 (M 30 (M 9 v1.toNatClampNeg).toNatClampNeg) M).bind fun o1 => some (o1.1, o1.2)) else none) else none
def j_A_passPlain_130 (g : Int32 → Int32 → Sto → Option (Int32 × Sto)) (k : Int32 → Sto → Option (Int32 × Sto)) (v1 v2 : Int32) (M : Sto) : Option (Int32 × Sto) :=
  g v1 (v2 + 1) M
def j_A_passPlain_92 (g : Int32 → Int32 → Sto → Option (Int32 × Sto)) (k : Int32 → Sto → Option (Int32 × Sto)) (s0 v1 v2 v3 v6 : Int32) (M : Sto) : Option (Int32 × Sto) :=
  (m_A_perform v3 v6 s0 M).bind fun o4 => (m_N_setsVariable v3 o4.2).bind fun o5 => if o5.1 = 0 then (j_A_passPlain_130 g k v1 v2 o5.2) else (if ok v1 10 then (if ok v2 6 then (if ok (o5.2 (53 + v1.toNatClampNeg) v2.toNatClampNeg) 6 then ((wr (up2 o5.2 30 (o5.2 (53 + v1.toNatClampNeg) v2.toNatClampNeg).toNatClampNeg o4.1) fun M6 => (j_A_passPlain_130 g k v1 v2 M6))) else none) else none) else none)
def j_A_passPlain_72 (g : Int32 → Int32 → Sto → Option (Int32 × Sto)) (k : Int32 → Sto → Option (Int32 × Sto)) (s0 v1 v2 v3 v5 : Int32) (M : Sto) : Option (Int32 × Sto) :=
  (m_N_readsY v3 M).bind fun o3 => if o3.1 = 0 then (j_A_passPlain_92 g k 0 v1 v2 v3 s0 o3.2) else (if ok v5 6 then (j_A_passPlain_92 g k (o3.2 30 v5.toNatClampNeg) v1 v2 v3 s0 o3.2) else none)
def l_A_passPlain_2 (k : Int32 → Sto → Option (Int32 × Sto)) : Nat → Int32 → Int32 → Sto → Option (Int32 × Sto)
  | 0, _, _, _ => none
  | n + 1, v1, v2, M =>
  if ok v1 10 then (if (M 7 v1.toNatClampNeg) ≤ v2 then (k v1 M) else (if ok v1 10 then (if ok v2 6 then (if ok v1 10 then (if ok v2 6 then (if ok v1 10 then (if ok v2 6 then ((m_N_readsX (M (43 + v1.toNatClampNeg) v2.toNatClampNeg) M).bind fun o2 => if o2.1 = 0 then (j_A_passPlain_72 (l_A_passPlain_2 k n) k (M (63 + v1.toNatClampNeg) v2.toNatClampNeg) v1 v2 (M (43 + v1.toNatClampNeg) v2.toNatClampNeg) (M (73 + v1.toNatClampNeg) v2.toNatClampNeg) o2.2) else (if ok (M (63 + v1.toNatClampNeg) v2.toNatClampNeg) 6 then (j_A_passPlain_72 (l_A_passPlain_2 k n) k (o2.2 30 (M (63 + v1.toNatClampNeg) v2.toNatClampNeg).toNatClampNeg) v1 v2 (M (43 + v1.toNatClampNeg) v2.toNatClampNeg) (M (73 + v1.toNatClampNeg) v2.toNatClampNeg) o2.2) else none)) else none) else none) else none) else none) else none) else none)) else none
def m_A_passPlain (x1 : Int32) (M : Sto) : Option (Int32 × Sto) :=
  l_A_passPlain_2 (j_A_passPlain_136) FU x1 0 M
def j_A_valueOf_38 (s0 : Int32) (M : Sto) : Option (Int32 × Sto) :=
  some (s0, M)
def m_A_valueOf (x1 : Int32) (M : Sto) : Option (Int32 × Sto) :=
  if x1 = (-1) then (some (0, M)) else (if ok x1 126 then (if (M 25 x1.toNatClampNeg) = 1 then (if ok x1 126 then (j_A_valueOf_38 (M 26 x1.toNatClampNeg) M) else none) else (if ok x1 126 then (j_A_valueOf_38 (M 31 x1.toNatClampNeg) M) else none)) else none)
def j_A_choose_87 (M : Sto) : Option (Int32 × Sto) :=
  some (0, M)
def j_A_choose_81 (g : Int32 → Int32 → Sto → Option (Int32 × Sto)) (k : Sto → Option (Int32 × Sto)) (v2 v3 : Int32) (M : Sto) : Option (Int32 × Sto) :=
  g v2 (v3 + 1) M
def l_A_choose_37 (k : Sto → Option (Int32 × Sto)) : Nat → Int32 → Int32 → Sto → Option (Int32 × Sto)
  | 0, _, _, _ => none
  | n + 1, v2, v3, M =>
  if 6 ≤ v3 then (k M) else (if ok v2 10 then ((m_N_holds (M 18 v2.toNatClampNeg) v3 M).bind fun o1 => if o1.1 = 0 then (j_A_choose_81 (l_A_choose_37 k n) k v2 v3 o1.2) else (if ok v2 10 then (if ok v3 6 then (if ok v3 6 then (if ok (o1.2 (83 + v2.toNatClampNeg) v3.toNatClampNeg) 126 then ((wr (up2 o1.2 31 (o1.2 (83 + v2.toNatClampNeg) v3.toNatClampNeg).toNatClampNeg (o1.2 32 v3.toNatClampNeg)) fun M2 => (j_A_choose_81 (l_A_choose_37 k n) k v2 v3 M2))) else none) else none) else none) else none)) else none)
def j_A_choose_35 (v2 : Int32) (M : Sto) : Option (Int32 × Sto) :=
  l_A_choose_37 (j_A_choose_87) FU v2 0 M
def l_A_choose_2 (k : Int32 → Sto → Option (Int32 × Sto)) : Nat → Int32 → Int32 → Int32 → Sto → Option (Int32 × Sto)
  | 0, _, _, _, _ => none
  | n + 1, v1, v2, v3, M =>
  if 6 ≤ v3 then (k v2 M) else (if ok v1 10 then (if ok v3 6 then ((m_A_valueOf (M (93 + v1.toNatClampNeg) v3.toNatClampNeg) M).bind fun o3 => if ok v3 6 then ((wr (up2 o3.2 32 v3.toNatClampNeg o3.1) fun M4 => ((l_A_choose_2 k n) v1 v2 (v3 + 1) M4))) else none) else none) else none)
def m_A_choose (x1 x2 : Int32) (M : Sto) : Option (Int32 × Sto) :=
  l_A_choose_2 (j_A_choose_35) FU x1 x2 0 M
def j_A_isKept_30 (s0 : Int32) (M : Sto) : Option (Int32 × Sto) :=
  if bz s0 then some (s0, M) else none
def j_A_isKept_29 (M : Sto) : Option (Int32 × Sto) :=
  j_A_isKept_30 0 M
def m_A_isKept (x1 : Int32) (M : Sto) : Option (Int32 × Sto) :=
  if ok x1 126 then (if (M 27 x1.toNatClampNeg) = 0 then (j_A_isKept_29 M) else (if ok x1 126 then (if (M 25 x1.toNatClampNeg) = 1 then (j_A_isKept_29 M) else (j_A_isKept_30 1 M)) else none)) else none
def j_A_passBecome_130 (v2 : Int32) (M : Sto) : Option (Int32 × Sto) :=
  if ok v2 10 then ((m_A_valueOf (M 20 v2.toNatClampNeg) M).bind fun o1 => (m_A_nextOf v2 o1.1 o1.2).bind fun o2 => some (o2.1, o2.2)) else none
def j_A_passBecome_124 (g : Int32 → Int32 → Sto → Option (Int32 × Sto)) (k : Int32 → Sto → Option (Int32 × Sto)) (v2 v3 : Int32) (M : Sto) : Option (Int32 × Sto) :=
  g v2 (v3 + 1) M
def j_A_passBecome_54 (g : Int32 → Int32 → Sto → Option (Int32 × Sto)) (k : Int32 → Sto → Option (Int32 × Sto)) (v2 v3 v4 : Int32) (M : Sto) : Option (Int32 × Sto) :=
  if ok v2 10 then (if ok v3 6 then ((m_A_valueOf (M (113 + v2.toNatClampNeg) v3.toNatClampNeg) M).bind fun o3 => if ok v2 10 then (if ok v3 6 then ((m_A_valueOf (o3.2 (123 + v2.toNatClampNeg) v3.toNatClampNeg) o3.2).bind fun o4 => if ok v2 10 then (if ok v3 6 then ((m_A_perform (o4.2 (43 + v2.toNatClampNeg) v3.toNatClampNeg) o3.1 o4.1 o4.2).bind fun o5 => if v4 = (-1) then (j_A_passBecome_124 g k v2 v3 o5.2) else (if ok v4 126 then ((wr (up2 o5.2 31 v4.toNatClampNeg o5.1) fun M6 => (j_A_passBecome_124 g k v2 v3 M6))) else none)) else none) else none) else none) else none) else none) else none
def l_A_passBecome_13 (k : Int32 → Sto → Option (Int32 × Sto)) : Nat → Int32 → Int32 → Sto → Option (Int32 × Sto)
  | 0, _, _, _ => none
  | n + 1, v2, v3, M =>
  if ok v2 10 then (if (M 7 v2.toNatClampNeg) ≤ v3 then (k v2 M) else (if ok v2 10 then (if ok v3 6 then (if (M (103 + v2.toNatClampNeg) v3.toNatClampNeg) = (-1) then (j_A_passBecome_54 (l_A_passBecome_13 k n) k v2 v3 (M (103 + v2.toNatClampNeg) v3.toNatClampNeg) M) else ((m_A_isKept (M (103 + v2.toNatClampNeg) v3.toNatClampNeg) M).bind fun o7 => if o7.1 = 0 then (j_A_passBecome_124 (l_A_passBecome_13 k n) k v2 v3 o7.2) else (j_A_passBecome_54 (l_A_passBecome_13 k n) k v2 v3 (M (103 + v2.toNatClampNeg) v3.toNatClampNeg) o7.2))) else none) else none)) else none
def j_A_passBecome_11 (v2 : Int32) (M : Sto) : Option (Int32 × Sto) :=
  l_A_passBecome_13 (j_A_passBecome_130) FU v2 0 M
def m_A_passBecome (x1 x2 : Int32) (M : Sto) : Option (Int32 × Sto) :=
  if x1 = (-1) then (j_A_passBecome_11 x2 M) else ((m_A_choose x1 x2 M).bind fun o8 => j_A_passBecome_11 x2 o8.2)
def j_A_execute_71 (M : Sto) : Option (Int32 × Sto) :=
  if bz 0 then some (0, M) else none
def j_A_execute_48 (g : Int32 → Int32 → Int32 → Int32 → Int32 → Sto → Option (Int32 × Sto)) (k : Sto → Option (Int32 × Sto)) (s0 v1 v2 v4 v5 : Int32) (M : Sto) : Option (Int32 × Sto) :=
  if s0 = (-1) then (if bz 1 then some (1, M) else none) else (g v1 v2 v4 s0 (v5 + 1) M)
def l_A_execute_12 (k : Sto → Option (Int32 × Sto)) : Nat → Int32 → Int32 → Int32 → Int32 → Int32 → Sto → Option (Int32 × Sto)
  | 0, _, _, _, _, _, _ => none
  | n + 1, v1, v2, v3, v4, v5, M =>
  if v2 ≤ v5 then (k M) else (wr (up2 M 6 11 ((M 6 11) + 1)) fun M2 => if v1 = 0 then ((m_A_passBecome v3 v4 M2).bind fun o3 => j_A_execute_48 (l_A_execute_12 k n) k o3.1 v1 v2 v4 v5 o3.2) else ((m_A_passPlain v4 M2).bind fun o4 => j_A_execute_48 (l_A_execute_12 k n) k o4.1 v1 v2 v4 v5 o4.2))
def m_A_execute (x1 x2 : Int32) (M : Sto) : Option (Int32 × Sto) :=
  (m_A_begin M).bind fun o1 => l_A_execute_12 (j_A_execute_71) FU x1 x2 (-1) 0 0 o1.2
def j_N_run_11 (M : Sto) : Option (Nat × Int32 × Sto) :=
  some (1, 0, M)
def j_N_run_55 (s0 : Int32) (M : Sto) : Option (Nat × Int32 × Sto) :=
  some (0, s0, M)
def m_N_run (x1 x2 : Int32) (M : Sto) : Option (Nat × Int32 × Sto) :=
  if x2 < 0 then (j_N_run_11 M) else (if x2 ≤ 200 then (if (M 0 6) = 0 then (some (2, 0, M)) else ((m_A_execute x1 x2 M).bind fun o1 => if o1.1 = 0 then (j_N_run_55 1 o1.2) else (j_N_run_55 0 o1.2))) else (j_N_run_11 M))
def m_N_told (M : Sto) : Option (Int32 × Sto) :=
  some (M 6 9, M)
def j_N_heard_21 (M : Sto) : Option (Nat × Int32 × Sto) :=
  some (3, 0, M)
def m_N_heard (x1 : Int32) (M : Sto) : Option (Nat × Int32 × Sto) :=
  if x1 < 0 then (j_N_heard_21 M) else (if 40 ≤ x1 then (j_N_heard_21 M) else (if x1 < (M 6 9) then (if ok x1 40 then (some (0, M 33 x1.toNatClampNeg, M)) else none) else (j_N_heard_21 M)))
def m_N_spent (x1 : Int32) (M : Sto) : Option (Int32 × Sto) :=
  if x1 = 0 then (some (M 6 11, M)) else (if x1 = 1 then (some (M 6 12, M)) else (if x1 = 2 then (some (M 6 13, M)) else (some ((-1), M))))
def m_R_thrown (M : Sto) : Option (Int32 × Sto) :=
  some (M 0 0, M)
def j_R_fails_10 (s0 v1 : Int32) (M : Sto) : Option (Int32 × Sto) :=
  wr (up2 M 0 0 s0) fun M1 => if bz v1 then some (v1, M1) else none
def m_R_fails (x1 x2 : Int32) (M : Sto) : Option (Int32 × Sto) :=
  if x1 = 0 then (j_R_fails_10 0 x1 M) else (j_R_fails_10 x2 x1 M)
def j_R_noBlock_17 (s0 : Int32) (M : Sto) : Option (Int32 × Sto) :=
  if bz s0 then some (s0, M) else none
def j_R_noBlock_12 (M : Sto) : Option (Int32 × Sto) :=
  j_R_noBlock_17 1 M
def m_R_noBlock (x1 : Int32) (M : Sto) : Option (Int32 × Sto) :=
  if x1 < 0 then (j_R_noBlock_12 M) else (if x1 < (M 0 1) then (j_R_noBlock_17 0 M) else (j_R_noBlock_12 M))
def j_R_noVariable_14 (s0 : Int32) (M : Sto) : Option (Int32 × Sto) :=
  if bz s0 then some (s0, M) else none
def j_R_noVariable_9 (M : Sto) : Option (Int32 × Sto) :=
  j_R_noVariable_14 1 M
def m_R_noVariable (x0 : Int32) (M : Sto) : Option (Int32 × Sto) :=
  if x0 < 0 then (j_R_noVariable_9 M) else (if x0 ≤ 5 then (j_R_noVariable_14 0 M) else (j_R_noVariable_9 M))
def j_R_setsOne_11 (s0 : Int32) (M : Sto) : Option (Int32 × Sto) :=
  if bz s0 then some (s0, M) else none
def m_R_setsOne (x0 : Int32) (M : Sto) : Option (Int32 × Sto) :=
  if x0 = 7 then (j_R_setsOne_11 0 M) else (j_R_setsOne_11 1 M)
def j_R_usesFirst_15 (s0 : Int32) (M : Sto) : Option (Int32 × Sto) :=
  if bz s0 then some (s0, M) else none
def j_R_usesFirst_14 (M : Sto) : Option (Int32 × Sto) :=
  j_R_usesFirst_15 0 M
def m_R_usesFirst (x0 : Int32) (M : Sto) : Option (Int32 × Sto) :=
  if x0 = 0 then (j_R_usesFirst_14 M) else (if x0 = 6 then (j_R_usesFirst_14 M) else (j_R_usesFirst_15 1 M))
def j_R_usesSecond_16 (s0 : Int32) (M : Sto) : Option (Int32 × Sto) :=
  if bz s0 then some (s0, M) else none
def j_R_usesSecond_15 (M : Sto) : Option (Int32 × Sto) :=
  j_R_usesSecond_16 0 M
def m_R_usesSecond (x0 : Int32) (M : Sto) : Option (Int32 × Sto) :=
  if x0 ≤ 1 then (j_R_usesSecond_15 M) else (if 6 ≤ x0 then (j_R_usesSecond_15 M) else (j_R_usesSecond_16 1 M))
def j_R_block_15 (s0 : Int32) (M : Sto) : Option (Int32 × Sto) :=
  (m_R_fails s0 1 M).bind fun o1 => if o1.1 = 0 then (if ok (o1.2 0 1) 10 then ((wr (up2 o1.2 1 (o1.2 0 1).toNatClampNeg 0) fun M2 => (if ok (M2 0 1) 10 then ((wr (up2 M2 6 (M2 0 1).toNatClampNeg 0) fun M3 => (wr (up2 M3 0 1 ((M3 0 1) + 1)) fun M4 => if bz 0 then (wr (up2 M4 0 11 0) fun M5 => some ((M5 0 1) - 1, M5)) else none))) else none))) else none) else (some (0, o1.2))
def m_R_block (M : Sto) : Option (Int32 × Sto) :=
  if (M 0 1) = 10 then (j_R_block_15 1 M) else (j_R_block_15 0 M)
def j_R_put_103 (M : Sto) : Option (Int32 × Sto) :=
  some (0, M)
def j_R_put_96 (s0 v1 v2 v3 v4 v5 : Int32) (M : Sto) : Option (Int32 × Sto) :=
  (m_R_fails s0 2 M).bind fun o3 => if o3.1 = 0 then (if ok v1 10 then (if ok ((6 * v1) + (o3.2 1 v1.toNatClampNeg)) 60 then ((wr (up2 o3.2 2 ((6 * v1) + (o3.2 1 v1.toNatClampNeg)).toNatClampNeg v2) fun M4 => (if ok ((6 * v1) + (o3.2 1 v1.toNatClampNeg)) 60 then ((wr (up2 M4 3 ((6 * v1) + (o3.2 1 v1.toNatClampNeg)).toNatClampNeg v3) fun M5 => (if ok ((6 * v1) + (o3.2 1 v1.toNatClampNeg)) 60 then ((wr (up2 M5 4 ((6 * v1) + (o3.2 1 v1.toNatClampNeg)).toNatClampNeg v4) fun M6 => (if ok ((6 * v1) + (o3.2 1 v1.toNatClampNeg)) 60 then ((wr (up2 M6 5 ((6 * v1) + (o3.2 1 v1.toNatClampNeg)).toNatClampNeg v5) fun M7 => (if ok v1 10 then (if ok v1 10 then ((wr (up2 M7 1 v1.toNatClampNeg ((M7 1 v1.toNatClampNeg) + 1)) fun M8 => (if bz 0 then (wr (up2 M8 0 11 0) fun M9 => if ok v1 10 then (some (M9 1 v1.toNatClampNeg, M9)) else none) else none))) else none) else none))) else none))) else none))) else none))) else none) else none) else (j_R_put_103 o3.2)
def j_R_put_67 (s0 v1 v2 v3 v4 v5 : Int32) (M : Sto) : Option (Int32 × Sto) :=
  (m_R_fails s0 1 M).bind fun o2 => if o2.1 = 0 then (if ok v1 10 then (if (o2.2 1 v1.toNatClampNeg) = 6 then (j_R_put_96 1 v1 v2 v3 v4 v5 o2.2) else (j_R_put_96 0 v1 v2 v3 v4 v5 o2.2)) else none) else (j_R_put_103 o2.2)
def j_R_put_62 (v1 v2 v3 v4 v5 : Int32) (M : Sto) : Option (Int32 × Sto) :=
  j_R_put_67 1 v1 v2 v3 v4 v5 M
def j_R_put_66 (v1 v2 v3 v4 v5 : Int32) (M : Sto) : Option (Int32 × Sto) :=
  j_R_put_67 0 v1 v2 v3 v4 v5 M
def j_R_put_47 (v1 v2 v3 v4 v5 : Int32) (M : Sto) : Option (Int32 × Sto) :=
  (m_R_usesSecond v2 M).bind fun o12 => if o12.1 = 0 then (j_R_put_66 v1 v2 v3 v4 v5 o12.2) else ((m_R_noVariable v5 o12.2).bind fun o13 => if o13.1 = 0 then (j_R_put_66 v1 v2 v3 v4 v5 o13.2) else (j_R_put_62 v1 v2 v3 v4 v5 o13.2))
def j_R_put_32 (v1 v2 v3 v4 v5 : Int32) (M : Sto) : Option (Int32 × Sto) :=
  (m_R_usesFirst v2 M).bind fun o11 => if o11.1 = 0 then (j_R_put_47 v1 v2 v3 v4 v5 o11.2) else ((m_R_noVariable v4 o11.2).bind fun o14 => if o14.1 = 0 then (j_R_put_47 v1 v2 v3 v4 v5 o14.2) else (j_R_put_62 v1 v2 v3 v4 v5 o14.2))
def m_R_put (x1 x2 x3 x4 x5 : Int32) (M : Sto) : Option (Int32 × Sto) :=
  (m_R_noBlock x1 M).bind fun o1 => if o1.1 = 0 then (if x2 < 0 then (j_R_put_62 x1 x2 x3 x4 x5 o1.2) else (if 7 < x2 then (j_R_put_62 x1 x2 x3 x4 x5 o1.2) else ((m_R_setsOne x2 o1.2).bind fun o10 => if o10.1 = 0 then (j_R_put_32 x1 x2 x3 x4 x5 o10.2) else ((m_R_noVariable x3 o10.2).bind fun o15 => if o15.1 = 0 then (j_R_put_32 x1 x2 x3 x4 x5 o15.2) else (j_R_put_62 x1 x2 x3 x4 x5 o15.2))))) else (j_R_put_62 x1 x2 x3 x4 x5 o1.2)
def j_R_noTarget_18 (s0 : Int32) (M : Sto) : Option (Int32 × Sto) :=
  if bz s0 then some (s0, M) else none
def j_R_noTarget_13 (M : Sto) : Option (Int32 × Sto) :=
  j_R_noTarget_18 1 M
def m_R_noTarget (x1 : Int32) (M : Sto) : Option (Int32 × Sto) :=
  if x1 < 1 then (j_R_noTarget_13 M) else (if x1 < (M 0 1) then (j_R_noTarget_18 0 M) else (j_R_noTarget_13 M))
def j_R_go_22 (s0 v1 v2 : Int32) (M : Sto) : Option (Int32 × Sto) :=
  (m_R_fails s0 1 M).bind fun o2 => if o2.1 = 0 then (if ok v1 10 then ((wr (up2 o2.2 6 v1.toNatClampNeg 1) fun M3 => (if ok v1 10 then ((wr (up2 M3 8 v1.toNatClampNeg v2) fun M4 => (if bz 0 then (wr (up2 M4 0 11 0) fun M5 => some (0, M5)) else none))) else none))) else none) else (some (0, o2.2))
def j_R_go_17 (v1 v2 : Int32) (M : Sto) : Option (Int32 × Sto) :=
  j_R_go_22 1 v1 v2 M
def m_R_go (x1 x2 : Int32) (M : Sto) : Option (Int32 × Sto) :=
  (m_R_noBlock x1 M).bind fun o1 => if o1.1 = 0 then ((m_R_noTarget x2 o1.2).bind fun o6 => if o6.1 = 0 then (j_R_go_22 0 x1 x2 o6.2) else (j_R_go_17 x1 x2 o6.2)) else (j_R_go_17 x1 x2 o1.2)
def j_R_fork_38 (s0 v1 v2 v3 v4 : Int32) (M : Sto) : Option (Int32 × Sto) :=
  (m_R_fails s0 1 M).bind fun o2 => if o2.1 = 0 then (if ok v1 10 then ((wr (up2 o2.2 6 v1.toNatClampNeg 2) fun M3 => (if ok v1 10 then ((wr (up2 M3 7 v1.toNatClampNeg v2) fun M4 => (if ok v1 10 then ((wr (up2 M4 8 v1.toNatClampNeg v3) fun M5 => (if ok v1 10 then ((wr (up2 M5 9 v1.toNatClampNeg v4) fun M6 => (if bz 0 then (wr (up2 M6 0 11 0) fun M7 => some (0, M7)) else none))) else none))) else none))) else none))) else none) else (some (0, o2.2))
def j_R_fork_33 (v1 v2 v3 v4 : Int32) (M : Sto) : Option (Int32 × Sto) :=
  j_R_fork_38 1 v1 v2 v3 v4 M
def m_R_fork (x1 x2 x3 x4 : Int32) (M : Sto) : Option (Int32 × Sto) :=
  (m_R_noBlock x1 M).bind fun o1 => if o1.1 = 0 then ((m_R_noVariable x2 o1.2).bind fun o8 => if o8.1 = 0 then ((m_R_noTarget x3 o8.2).bind fun o9 => if o9.1 = 0 then ((m_R_noTarget x4 o9.2).bind fun o10 => if o10.1 = 0 then (j_R_fork_38 0 x1 x2 x3 x4 o10.2) else (j_R_fork_33 x1 x2 x3 x4 o10.2)) else (j_R_fork_33 x1 x2 x3 x4 o9.2)) else (j_R_fork_33 x1 x2 x3 x4 o8.2)) else (j_R_fork_33 x1 x2 x3 x4 o1.2)
def m_R_stop (x1 : Int32) (M : Sto) : Option (Int32 × Sto) :=
  (m_R_noBlock x1 M).bind fun o1 => (m_R_fails o1.1 1 o1.2).bind fun o2 => if o2.1 = 0 then (if ok x1 10 then ((wr (up2 o2.2 6 x1.toNatClampNeg 0) fun M3 => (if bz 0 then (wr (up2 M3 0 11 0) fun M4 => some (0, M4)) else none))) else none) else (some (0, o2.2))
def m_R_clear (M : Sto) : Option (Int32 × Sto) :=
  wr (up2 M 0 0 0) fun M1 => wr (up2 M1 0 1 0) fun M2 => if bz 0 then (wr (up2 M2 0 11 0) fun M3 => some (0, M3)) else none
def j_R_has_14 (s0 : Int32) (M : Sto) : Option (Int32 × Sto) :=
  if bz s0 then some (s0, M) else none
def m_R_has (x0 x1 : Int32) (M : Sto) : Option (Int32 × Sto) :=
  if ((x0 >>> (x1 &&& 31)) &&& 1) = 1 then (j_R_has_14 1 M) else (j_R_has_14 0 M)
def j_R_leadsTo_51 (s0 : Int32) (M : Sto) : Option (Int32 × Sto) :=
  some (s0, M)
def m_R_leadsTo (x1 : Int32) (M : Sto) : Option (Int32 × Sto) :=
  if ok x1 10 then (if (M 6 x1.toNatClampNeg) = 0 then (j_R_leadsTo_51 0 M) else (if ok x1 10 then (if (M 6 x1.toNatClampNeg) = 1 then (if ok x1 10 then (j_R_leadsTo_51 (1 <<< ((M 8 x1.toNatClampNeg) &&& 31)) M) else none) else (if ok x1 10 then (if ok x1 10 then (j_R_leadsTo_51 ((1 <<< ((M 8 x1.toNatClampNeg) &&& 31)) ||| (1 <<< ((M 9 x1.toNatClampNeg) &&& 31))) M) else none) else none)) else none)) else none
def j_R_reaches_134 (M : Sto) : Option (Int32 × Sto) :=
  some (0, M)
def j_R_reaches_128 (g : Int32 → Sto → Option (Int32 × Sto)) (k : Sto → Option (Int32 × Sto)) (v1 : Int32) (M : Sto) : Option (Int32 × Sto) :=
  g (v1 + 1) M
def j_R_reaches_122 (g : Int32 → Int32 → Sto → Option (Int32 × Sto)) (k : Int32 → Sto → Option (Int32 × Sto)) (v1 v2 : Int32) (M : Sto) : Option (Int32 × Sto) :=
  g v1 (v2 + 1) M
def l_R_reaches_79 (k : Int32 → Sto → Option (Int32 × Sto)) : Nat → Int32 → Int32 → Sto → Option (Int32 × Sto)
  | 0, _, _, _ => none
  | n + 1, v1, v2, M =>
  if (M 0 1) ≤ v2 then (k v1 M) else ((m_R_has (M 0 12) v2 M).bind fun o3 => if o3.1 = 0 then (j_R_reaches_122 (l_R_reaches_79 k n) k v1 v2 o3.2) else ((m_R_leadsTo v2 o3.2).bind fun o4 => (m_R_has o4.1 v1 o4.2).bind fun o5 => if o5.1 = 0 then (j_R_reaches_122 (l_R_reaches_79 k n) k v1 v2 o5.2) else (if ok v1 10 then (if ok v1 10 then ((wr (up2 o5.2 11 v1.toNatClampNeg ((o5.2 11 v1.toNatClampNeg) ||| (1 <<< (v2 &&& 31)))) fun M6 => (j_R_reaches_122 (l_R_reaches_79 k n) k v1 v2 M6))) else none) else none)))
def l_R_reaches_62 (k : Sto → Option (Int32 × Sto)) : Nat → Int32 → Sto → Option (Int32 × Sto)
  | 0, _, _ => none
  | n + 1, v1, M =>
  if (M 0 1) ≤ v1 then (k M) else (if ok v1 10 then ((wr (up2 M 11 v1.toNatClampNeg 0) fun M2 => (l_R_reaches_79 (j_R_reaches_128 (l_R_reaches_62 k n) k) FU v1 0 M2))) else none)
def j_R_reaches_60 (M : Sto) : Option (Int32 × Sto) :=
  l_R_reaches_62 (j_R_reaches_134) FU 0 M
def j_R_reaches_54 (g : Int32 → Sto → Option (Int32 × Sto)) (k : Sto → Option (Int32 × Sto)) (v1 : Int32) (M : Sto) : Option (Int32 × Sto) :=
  g (v1 + 1) M
def j_R_reaches_48 (g : Int32 → Int32 → Sto → Option (Int32 × Sto)) (k : Int32 → Sto → Option (Int32 × Sto)) (v1 v2 : Int32) (M : Sto) : Option (Int32 × Sto) :=
  g v1 (v2 + 1) M
def l_R_reaches_15 (k : Int32 → Sto → Option (Int32 × Sto)) : Nat → Int32 → Int32 → Sto → Option (Int32 × Sto)
  | 0, _, _, _ => none
  | n + 1, v1, v2, M =>
  if (M 0 1) ≤ v2 then (k v1 M) else ((m_R_has (M 0 12) v2 M).bind fun o7 => if o7.1 = 0 then (j_R_reaches_48 (l_R_reaches_15 k n) k v1 v2 o7.2) else ((m_R_leadsTo v2 o7.2).bind fun o8 => wr (up2 o8.2 0 12 ((o7.2 0 12) ||| o8.1)) fun M9 => j_R_reaches_48 (l_R_reaches_15 k n) k v1 v2 M9))
def l_R_reaches_7 (k : Sto → Option (Int32 × Sto)) : Nat → Int32 → Sto → Option (Int32 × Sto)
  | 0, _, _ => none
  | n + 1, v1, M =>
  if 10 ≤ v1 then (k M) else (l_R_reaches_15 (j_R_reaches_54 (l_R_reaches_7 k n) k) FU v1 0 M)
def m_R_reaches (M : Sto) : Option (Int32 × Sto) :=
  wr (up2 M 0 12 1) fun M1 => l_R_reaches_7 (j_R_reaches_60) FU 0 M1
def j_R_ones_24 (v1 : Int32) (M : Sto) : Option (Int32 × Sto) :=
  some (v1, M)
def l_R_ones_4 (k : Int32 → Sto → Option (Int32 × Sto)) : Nat → Int32 → Int32 → Int32 → Sto → Option (Int32 × Sto)
  | 0, _, _, _, _ => none
  | n + 1, v0, v1, v2, M =>
  if 10 ≤ v2 then (k v1 M) else ((l_R_ones_4 k n) v0 (v1 + ((v0 >>> (v2 &&& 31)) &&& 1)) (v2 + 1) M)
def m_R_ones (x0 : Int32) (M : Sto) : Option (Int32 × Sto) :=
  l_R_ones_4 (j_R_ones_24) FU x0 0 0 M
def j_R_dominates_250 (M : Sto) : Option (Int32 × Sto) :=
  some (0, M)
def j_R_dominates_244 (g : Int32 → Sto → Option (Int32 × Sto)) (k : Sto → Option (Int32 × Sto)) (v1 : Int32) (M : Sto) : Option (Int32 × Sto) :=
  g (v1 + 1) M
def j_R_dominates_238 (g : Int32 → Int32 → Sto → Option (Int32 × Sto)) (k : Int32 → Sto → Option (Int32 × Sto)) (v1 v2 : Int32) (M : Sto) : Option (Int32 × Sto) :=
  g v1 (v2 + 1) M
def j_R_dominates_231 (g : Int32 → Int32 → Sto → Option (Int32 × Sto)) (k : Int32 → Sto → Option (Int32 × Sto)) (v1 v2 : Int32) (M : Sto) : Option (Int32 × Sto) :=
  if ok v1 10 then ((wr (up2 M 12 v1.toNatClampNeg v2) fun M4 => (j_R_dominates_238 g k v1 v2 M4))) else none
def l_R_dominates_155 (k : Int32 → Sto → Option (Int32 × Sto)) : Nat → Int32 → Int32 → Sto → Option (Int32 × Sto)
  | 0, _, _, _ => none
  | n + 1, v1, v2, M =>
  if (M 0 1) ≤ v2 then (k v1 M) else (if v1 ≤ 0 then (j_R_dominates_238 (l_R_dominates_155 k n) k v1 v2 M) else ((m_R_has (M 0 12) v1 M).bind fun o2 => if o2.1 = 0 then (j_R_dominates_238 (l_R_dominates_155 k n) k v1 v2 o2.2) else (if v2 = v1 then (j_R_dominates_238 (l_R_dominates_155 k n) k v1 v2 o2.2) else (if ok v1 10 then ((m_R_has (o2.2 10 v1.toNatClampNeg) v2 o2.2).bind fun o3 => if o3.1 = 0 then (j_R_dominates_238 (l_R_dominates_155 k n) k v1 v2 o3.2) else (if ok v1 10 then (if (o3.2 12 v1.toNatClampNeg) < 0 then (j_R_dominates_231 (l_R_dominates_155 k n) k v1 v2 o3.2) else (if ok v2 10 then ((m_R_ones (o3.2 10 v2.toNatClampNeg) o3.2).bind fun o5 => if ok v1 10 then (if ok (o5.2 12 v1.toNatClampNeg) 10 then ((m_R_ones (o5.2 10 (o5.2 12 v1.toNatClampNeg).toNatClampNeg) o5.2).bind fun o6 => if o5.1 ≤ o6.1 then (j_R_dominates_238 (l_R_dominates_155 k n) k v1 v2 o6.2) else (j_R_dominates_231 (l_R_dominates_155 k n) k v1 v2 o6.2)) else none) else none) else none)) else none)) else none))))
def l_R_dominates_138 (k : Sto → Option (Int32 × Sto)) : Nat → Int32 → Sto → Option (Int32 × Sto)
  | 0, _, _ => none
  | n + 1, v1, M =>
  if (M 0 1) ≤ v1 then (k M) else (if ok v1 10 then ((wr (up2 M 12 v1.toNatClampNeg (-1)) fun M1 => (l_R_dominates_155 (j_R_dominates_244 (l_R_dominates_138 k n) k) FU v1 0 M1))) else none)
def j_R_dominates_136 (M : Sto) : Option (Int32 × Sto) :=
  l_R_dominates_138 (j_R_dominates_250) FU 0 M
def j_R_dominates_130 (g : Int32 → Sto → Option (Int32 × Sto)) (k : Sto → Option (Int32 × Sto)) (v1 : Int32) (M : Sto) : Option (Int32 × Sto) :=
  g (v1 + 1) M
def j_R_dominates_124 (g : Int32 → Int32 → Sto → Option (Int32 × Sto)) (k : Int32 → Sto → Option (Int32 × Sto)) (v1 v2 : Int32) (M : Sto) : Option (Int32 × Sto) :=
  g v1 (v2 + 1) M
def j_R_dominates_113 (g : Int32 → Int32 → Sto → Option (Int32 × Sto)) (k : Int32 → Sto → Option (Int32 × Sto)) (v1 v2 v3 : Int32) (M : Sto) : Option (Int32 × Sto) :=
  if ok v2 10 then ((wr (up2 M 10 v2.toNatClampNeg (v3 ||| (1 <<< (v2 &&& 31)))) fun M8 => (j_R_dominates_124 g k v1 v2 M8))) else none
def j_R_dominates_107 (g : Int32 → Int32 → Int32 → Int32 → Sto → Option (Int32 × Sto)) (k : Int32 → Int32 → Int32 → Sto → Option (Int32 × Sto)) (v1 v2 v3 v4 : Int32) (M : Sto) : Option (Int32 × Sto) :=
  g v1 v2 v3 (v4 + 1) M
def l_R_dominates_74 (k : Int32 → Int32 → Int32 → Sto → Option (Int32 × Sto)) : Nat → Int32 → Int32 → Int32 → Int32 → Sto → Option (Int32 × Sto)
  | 0, _, _, _, _, _ => none
  | n + 1, v1, v2, v3, v4, M =>
  if (M 0 1) ≤ v4 then (k v1 v2 v3 M) else (if ok v2 10 then ((m_R_has (M 11 v2.toNatClampNeg) v4 M).bind fun o9 => if o9.1 = 0 then (j_R_dominates_107 (l_R_dominates_74 k n) k v1 v2 v3 v4 o9.2) else (if ok v4 10 then (j_R_dominates_107 (l_R_dominates_74 k n) k v1 v2 (v3 &&& (o9.2 10 v4.toNatClampNeg)) v4 o9.2) else none)) else none)
def l_R_dominates_44 (k : Int32 → Sto → Option (Int32 × Sto)) : Nat → Int32 → Int32 → Sto → Option (Int32 × Sto)
  | 0, _, _, _ => none
  | n + 1, v1, v2, M =>
  if (M 0 1) ≤ v2 then (k v1 M) else ((m_R_has (M 0 12) v2 M).bind fun o7 => if o7.1 = 0 then (j_R_dominates_124 (l_R_dominates_44 k n) k v1 v2 o7.2) else (l_R_dominates_74 (j_R_dominates_113 (l_R_dominates_44 k n) k) FU v1 v2 (o7.2 0 12) 0 o7.2))
def l_R_dominates_36 (k : Sto → Option (Int32 × Sto)) : Nat → Int32 → Sto → Option (Int32 × Sto)
  | 0, _, _ => none
  | n + 1, v1, M =>
  if 11 ≤ v1 then (k M) else (l_R_dominates_44 (j_R_dominates_130 (l_R_dominates_36 k n) k) FU v1 1 M)
def j_R_dominates_34 (M : Sto) : Option (Int32 × Sto) :=
  l_R_dominates_36 (j_R_dominates_136) FU 0 M
def j_R_dominates_27 (g : Int32 → Sto → Option (Int32 × Sto)) (k : Sto → Option (Int32 × Sto)) (s0 s1 v1 : Int32) (M : Sto) : Option (Int32 × Sto) :=
  if ok s1 10 then ((wr (up2 M 10 s1.toNatClampNeg s0) fun M10 => (g (v1 + 1) M10))) else none
def l_R_dominates_2 (k : Sto → Option (Int32 × Sto)) : Nat → Int32 → Sto → Option (Int32 × Sto)
  | 0, _, _ => none
  | n + 1, v1, M =>
  if (M 0 1) ≤ v1 then (k M) else (if v1 = 0 then (j_R_dominates_27 (l_R_dominates_2 k n) k 1 v1 v1 M) else (j_R_dominates_27 (l_R_dominates_2 k n) k (M 0 12) v1 v1 M))
def m_R_dominates (M : Sto) : Option (Int32 × Sto) :=
  l_R_dominates_2 (j_R_dominates_34) FU 0 M
def j_R_isInFrontier_78 (v3 : Int32) (M : Sto) : Option (Int32 × Sto) :=
  if bz v3 then some (v3, M) else none
def j_R_isInFrontier_71 (g : Int32 → Int32 → Int32 → Int32 → Sto → Option (Int32 × Sto)) (k : Int32 → Sto → Option (Int32 × Sto)) (s0 v1 v2 v4 : Int32) (M : Sto) : Option (Int32 × Sto) :=
  g v1 v2 s0 (v4 + 1) M
def j_R_isInFrontier_66 (g : Int32 → Int32 → Int32 → Int32 → Sto → Option (Int32 × Sto)) (k : Int32 → Sto → Option (Int32 × Sto)) (v1 v2 v4 : Int32) (M : Sto) : Option (Int32 × Sto) :=
  j_R_isInFrontier_71 g k 1 v1 v2 v4 M
def j_R_isInFrontier_70 (g : Int32 → Int32 → Int32 → Int32 → Sto → Option (Int32 × Sto)) (k : Int32 → Sto → Option (Int32 × Sto)) (v1 v2 v4 : Int32) (M : Sto) : Option (Int32 × Sto) :=
  j_R_isInFrontier_71 g k 0 v1 v2 v4 M
def l_R_isInFrontier_25 (k : Int32 → Sto → Option (Int32 × Sto)) : Nat → Int32 → Int32 → Int32 → Int32 → Sto → Option (Int32 × Sto)
  | 0, _, _, _, _, _ => none
  | n + 1, v1, v2, v3, v4, M =>
  if (M 0 1) ≤ v4 then (k v3 M) else (if v3 = 0 then (if ok v2 10 then ((m_R_has (M 11 v2.toNatClampNeg) v4 M).bind fun o2 => if o2.1 = 0 then (j_R_isInFrontier_70 (l_R_isInFrontier_25 k n) k v1 v2 v4 o2.2) else (if ok v4 10 then ((m_R_has (o2.2 10 v4.toNatClampNeg) v1 o2.2).bind fun o3 => if o3.1 = 0 then (j_R_isInFrontier_70 (l_R_isInFrontier_25 k n) k v1 v2 v4 o3.2) else (j_R_isInFrontier_66 (l_R_isInFrontier_25 k n) k v1 v2 v4 o3.2)) else none)) else none) else (j_R_isInFrontier_66 (l_R_isInFrontier_25 k n) k v1 v2 v4 M))
def j_R_isInFrontier_20 (v1 v2 : Int32) (M : Sto) : Option (Int32 × Sto) :=
  l_R_isInFrontier_25 (j_R_isInFrontier_78) FU v1 v2 0 0 M
def m_R_isInFrontier (x1 x2 : Int32) (M : Sto) : Option (Int32 × Sto) :=
  if ok x2 10 then ((m_R_has (M 10 x2.toNatClampNeg) x1 M).bind fun o1 => if o1.1 = 0 then (j_R_isInFrontier_20 x1 x2 o1.2) else (if x1 = x2 then (j_R_isInFrontier_20 x1 x2 o1.2) else (if bz 0 then some (0, o1.2) else none))) else none
def j_R_defined_56 (v2 : Int32) (M : Sto) : Option (Int32 × Sto) :=
  some (v2, M)
def j_R_defined_50 (g : Int32 → Int32 → Int32 → Sto → Option (Int32 × Sto)) (k : Int32 → Sto → Option (Int32 × Sto)) (v1 v2 v3 : Int32) (M : Sto) : Option (Int32 × Sto) :=
  g v1 v2 (v3 + 1) M
def l_R_defined_12 (k : Int32 → Sto → Option (Int32 × Sto)) : Nat → Int32 → Int32 → Int32 → Sto → Option (Int32 × Sto)
  | 0, _, _, _, _ => none
  | n + 1, v1, v2, v3, M =>
  if ok v1 10 then (if ((6 * v1) + (M 1 v1.toNatClampNeg)) ≤ v3 then (k v2 M) else (if ok v3 60 then ((m_R_setsOne (M 2 v3.toNatClampNeg) M).bind fun o1 => if o1.1 = 0 then (j_R_defined_50 (l_R_defined_12 k n) k v1 v2 v3 o1.2) else (if ok v3 60 then (j_R_defined_50 (l_R_defined_12 k n) k v1 (v2 ||| (1 <<< ((o1.2 3 v3.toNatClampNeg) &&& 31))) v3 o1.2) else none)) else none)) else none
def m_R_defined (x1 : Int32) (M : Sto) : Option (Int32 × Sto) :=
  if ok x1 10 then (l_R_defined_12 (j_R_defined_56) FU x1 (M 13 x1.toNatClampNeg) (6 * x1) M) else none
def j_R_placePhis_141 (M : Sto) : Option (Int32 × Sto) :=
  some (0, M)
def j_R_placePhis_138 (g : Int32 → Sto → Option (Int32 × Sto)) (k : Sto → Option (Int32 × Sto)) (v1 : Int32) (M : Sto) : Option (Int32 × Sto) :=
  g v1 M
def j_R_placePhis_132 (g : Int32 → Int32 → Sto → Option (Int32 × Sto)) (k : Int32 → Sto → Option (Int32 × Sto)) (v1 v2 : Int32) (M : Sto) : Option (Int32 × Sto) :=
  g v1 (v2 + 1) M
def j_R_placePhis_126 (g : Int32 → Int32 → Int32 → Sto → Option (Int32 × Sto)) (k : Int32 → Int32 → Sto → Option (Int32 × Sto)) (v1 v2 v3 : Int32) (M : Sto) : Option (Int32 × Sto) :=
  g v1 v2 (v3 + 1) M
def j_R_placePhis_117 (g : Int32 → Int32 → Int32 → Sto → Option (Int32 × Sto)) (k : Int32 → Int32 → Sto → Option (Int32 × Sto)) (s0 v2 v3 v4 : Int32) (M : Sto) : Option (Int32 × Sto) :=
  if ok v3 10 then ((wr (up2 M 13 v3.toNatClampNeg v4) fun M5 => (j_R_placePhis_126 g k s0 v2 v3 M5))) else none
def j_R_placePhis_112 (g : Int32 → Int32 → Int32 → Sto → Option (Int32 × Sto)) (k : Int32 → Int32 → Sto → Option (Int32 × Sto)) (v2 v3 v4 : Int32) (M : Sto) : Option (Int32 × Sto) :=
  j_R_placePhis_117 g k 1 v2 v3 v4 M
def l_R_placePhis_41 (k : Int32 → Int32 → Sto → Option (Int32 × Sto)) : Nat → Int32 → Int32 → Int32 → Sto → Option (Int32 × Sto)
  | 0, _, _, _, _ => none
  | n + 1, v1, v2, v3, M =>
  if (M 0 1) ≤ v3 then (k v1 v2 M) else ((m_R_has (M 0 12) v2 M).bind fun o1 => if o1.1 = 0 then (j_R_placePhis_126 (l_R_placePhis_41 k n) k v1 v2 v3 o1.2) else ((m_R_has (o1.2 0 12) v3 o1.2).bind fun o2 => if o2.1 = 0 then (j_R_placePhis_126 (l_R_placePhis_41 k n) k v1 v2 v3 o2.2) else ((m_R_isInFrontier v2 v3 o2.2).bind fun o3 => if o3.1 = 0 then (j_R_placePhis_126 (l_R_placePhis_41 k n) k v1 v2 v3 o3.2) else (if ok v3 10 then ((m_R_defined v2 o3.2).bind fun o4 => if v1 = 0 then (if ok v3 10 then (if ((o3.2 13 v3.toNatClampNeg) ||| o4.1) = (o4.2 13 v3.toNatClampNeg) then (j_R_placePhis_117 (l_R_placePhis_41 k n) k 0 v2 v3 ((o3.2 13 v3.toNatClampNeg) ||| o4.1) o4.2) else (j_R_placePhis_112 (l_R_placePhis_41 k n) k v2 v3 ((o3.2 13 v3.toNatClampNeg) ||| o4.1) o4.2)) else none) else (j_R_placePhis_112 (l_R_placePhis_41 k n) k v2 v3 ((o3.2 13 v3.toNatClampNeg) ||| o4.1) o4.2)) else none))))
def l_R_placePhis_31 (k : Int32 → Sto → Option (Int32 × Sto)) : Nat → Int32 → Int32 → Sto → Option (Int32 × Sto)
  | 0, _, _, _ => none
  | n + 1, v1, v2, M =>
  if (M 0 1) ≤ v2 then (k v1 M) else (l_R_placePhis_41 (j_R_placePhis_132 (l_R_placePhis_31 k n) k) FU v1 v2 0 M)
def l_R_placePhis_23 (k : Sto → Option (Int32 × Sto)) : Nat → Int32 → Sto → Option (Int32 × Sto)
  | 0, _, _ => none
  | n + 1, v1, M =>
  if v1 = 0 then (k M) else (l_R_placePhis_31 (j_R_placePhis_138 (l_R_placePhis_23 k n) k) FU 0 0 M)
def j_R_placePhis_21 (M : Sto) : Option (Int32 × Sto) :=
  l_R_placePhis_23 (j_R_placePhis_141) FU 1 M
def l_R_placePhis_2 (k : Sto → Option (Int32 × Sto)) : Nat → Int32 → Sto → Option (Int32 × Sto)
  | 0, _, _ => none
  | n + 1, v1, M =>
  if 10 ≤ v1 then (k M) else (if ok v1 10 then ((wr (up2 M 13 v1.toNatClampNeg 0) fun M6 => ((l_R_placePhis_2 k n) (v1 + 1) M6))) else none)
def m_R_placePhis (M : Sto) : Option (Int32 × Sto) :=
  l_R_placePhis_2 (j_R_placePhis_21) FU 0 M
def m_R_named (x1 x2 : Int32) (M : Sto) : Option (Int32 × Sto) :=
  if ok (M 0 17) 130 then ((wr (up2 M 14 (M 0 17).toNatClampNeg x1) fun M1 => (if ok (M1 0 17) 130 then ((wr (up2 M1 15 (M1 0 17).toNatClampNeg x2) fun M2 => (wr (up2 M2 0 17 ((M2 0 17) + 1)) fun M3 => some ((M3 0 17) - 1, M3)))) else none))) else none
def j_R_nameBlock_271 (s0 s1 : Int32) (M : Sto) : Option (Int32 × Sto) :=
  if ok s1 10 then ((wr (up2 M 20 s1.toNatClampNeg s0) fun M1 => (some (0, M1)))) else none
def j_R_nameBlock_239 (v1 v2 : Int32) (M : Sto) : Option (Int32 × Sto) :=
  if ok v1 10 then (if (M 6 v1.toNatClampNeg) = 2 then (if ok v1 10 then (if ok (v2 + (M 7 v1.toNatClampNeg)) 60 then (j_R_nameBlock_271 (M 21 (v2 + (M 7 v1.toNatClampNeg)).toNatClampNeg) v1 M) else none) else none) else (j_R_nameBlock_271 (-1) v1 M)) else none
def j_R_nameBlock_233 (g : Int32 → Int32 → Int32 → Sto → Option (Int32 × Sto)) (k : Int32 → Int32 → Sto → Option (Int32 × Sto)) (v1 v2 v3 : Int32) (M : Sto) : Option (Int32 × Sto) :=
  g v1 v2 (v3 + 1) M
def j_R_nameBlock_205 (g : Int32 → Int32 → Int32 → Sto → Option (Int32 × Sto)) (k : Int32 → Int32 → Sto → Option (Int32 × Sto)) (s0 s1 v1 v2 v3 v4 : Int32) (M : Sto) : Option (Int32 × Sto) :=
  if ok s1 60 then ((wr (up2 M 17 s1.toNatClampNeg s0) fun M7 => ((m_R_setsOne v4 M7).bind fun o8 => if o8.1 = 0 then (j_R_nameBlock_233 g k v1 v2 v3 o8.2) else (if ok v3 60 then (if ok v3 60 then (if ok (v2 + (o8.2 3 v3.toNatClampNeg)) 60 then ((wr (up2 o8.2 21 (v2 + (o8.2 3 v3.toNatClampNeg)).toNatClampNeg (o8.2 17 v3.toNatClampNeg)) fun M9 => (j_R_nameBlock_233 g k v1 v2 v3 M9))) else none) else none) else none)))) else none
def j_R_nameBlock_181 (g : Int32 → Int32 → Int32 → Sto → Option (Int32 × Sto)) (k : Int32 → Int32 → Sto → Option (Int32 × Sto)) (s0 s1 v1 v2 v3 v4 : Int32) (M : Sto) : Option (Int32 × Sto) :=
  if ok s1 60 then ((wr (up2 M 19 s1.toNatClampNeg s0) fun M5 => ((m_R_setsOne v4 M5).bind fun o6 => if o6.1 = 0 then (j_R_nameBlock_205 g k (-1) v3 v1 v2 v3 v4 o6.2) else ((m_R_named v1 v3 o6.2).bind fun o10 => j_R_nameBlock_205 g k o10.1 v3 v1 v2 v3 v4 o10.2)))) else none
def j_R_nameBlock_150 (g : Int32 → Int32 → Int32 → Sto → Option (Int32 × Sto)) (k : Int32 → Int32 → Sto → Option (Int32 × Sto)) (s0 s1 v1 v2 v3 v4 : Int32) (M : Sto) : Option (Int32 × Sto) :=
  if ok s1 60 then ((wr (up2 M 18 s1.toNatClampNeg s0) fun M3 => ((m_R_usesSecond v4 M3).bind fun o4 => if o4.1 = 0 then (j_R_nameBlock_181 g k (-1) v3 v1 v2 v3 v4 o4.2) else (if ok v3 60 then (if ok (v2 + (o4.2 5 v3.toNatClampNeg)) 60 then (j_R_nameBlock_181 g k (o4.2 21 (v2 + (o4.2 5 v3.toNatClampNeg)).toNatClampNeg) v3 v1 v2 v3 v4 o4.2) else none) else none)))) else none
def l_R_nameBlock_100 (k : Int32 → Int32 → Sto → Option (Int32 × Sto)) : Nat → Int32 → Int32 → Int32 → Sto → Option (Int32 × Sto)
  | 0, _, _, _, _ => none
  | n + 1, v1, v2, v3, M =>
  if ok v1 10 then (if (v2 + (M 1 v1.toNatClampNeg)) ≤ v3 then (k v1 v2 M) else (if ok v3 60 then ((m_R_usesFirst (M 2 v3.toNatClampNeg) M).bind fun o2 => if o2.1 = 0 then (j_R_nameBlock_150 (l_R_nameBlock_100 k n) k (-1) v3 v1 v2 v3 (M 2 v3.toNatClampNeg) o2.2) else (if ok v3 60 then (if ok (v2 + (o2.2 4 v3.toNatClampNeg)) 60 then (j_R_nameBlock_150 (l_R_nameBlock_100 k n) k (o2.2 21 (v2 + (o2.2 4 v3.toNatClampNeg)).toNatClampNeg) v3 v1 v2 v3 (M 2 v3.toNatClampNeg) o2.2) else none) else none)) else none)) else none
def j_R_nameBlock_98 (v1 v2 : Int32) (M : Sto) : Option (Int32 × Sto) :=
  l_R_nameBlock_100 (j_R_nameBlock_239) FU v1 v2 v2 M
def j_R_nameBlock_92 (g : Int32 → Int32 → Int32 → Sto → Option (Int32 × Sto)) (k : Int32 → Int32 → Sto → Option (Int32 × Sto)) (v1 v2 v3 : Int32) (M : Sto) : Option (Int32 × Sto) :=
  g v1 v2 (v3 + 1) M
def j_R_nameBlock_44 (g : Int32 → Int32 → Int32 → Sto → Option (Int32 × Sto)) (k : Int32 → Int32 → Sto → Option (Int32 × Sto)) (s0 s1 v1 v2 v3 : Int32) (M : Sto) : Option (Int32 × Sto) :=
  if ok s1 60 then ((wr (up2 M 21 s1.toNatClampNeg s0) fun M11 => (if ok v1 10 then ((m_R_has (M11 13 v1.toNatClampNeg) v3 M11).bind fun o12 => if o12.1 = 0 then (j_R_nameBlock_92 g k v1 v2 v3 o12.2) else ((m_R_named v1 ((-1) - (v2 + v3)) o12.2).bind fun o13 => if ok (v2 + v3) 60 then ((wr (up2 o13.2 16 (v2 + v3).toNatClampNeg o13.1) fun M14 => (if ok (v2 + v3) 60 then (if ok (v2 + v3) 60 then ((wr (up2 M14 21 (v2 + v3).toNatClampNeg (M14 16 (v2 + v3).toNatClampNeg)) fun M15 => (j_R_nameBlock_92 g k v1 v2 v3 M15))) else none) else none))) else none)) else none))) else none
def l_R_nameBlock_7 (k : Int32 → Int32 → Sto → Option (Int32 × Sto)) : Nat → Int32 → Int32 → Int32 → Sto → Option (Int32 × Sto)
  | 0, _, _, _, _ => none
  | n + 1, v1, v2, v3, M =>
  if 6 ≤ v3 then (k v1 v2 M) else (if v1 = 0 then (j_R_nameBlock_44 (l_R_nameBlock_7 k n) k v3 (v2 + v3) v1 v2 v3 M) else (if ok v1 10 then (if ok ((6 * (M 12 v1.toNatClampNeg)) + v3) 60 then (j_R_nameBlock_44 (l_R_nameBlock_7 k n) k (M 21 ((6 * (M 12 v1.toNatClampNeg)) + v3).toNatClampNeg) (v2 + v3) v1 v2 v3 M) else none) else none))
def m_R_nameBlock (x1 : Int32) (M : Sto) : Option (Int32 × Sto) :=
  l_R_nameBlock_7 (j_R_nameBlock_98) FU x1 (6 * x1) 0 M
def j_R_nameAll_106 (M : Sto) : Option (Int32 × Sto) :=
  some (0, M)
def j_R_nameAll_103 (g : Int32 → Sto → Option (Int32 × Sto)) (k : Sto → Option (Int32 × Sto)) (v1 : Int32) (M : Sto) : Option (Int32 × Sto) :=
  g v1 M
def j_R_nameAll_97 (g : Int32 → Int32 → Int32 → Sto → Option (Int32 × Sto)) (k : Int32 → Sto → Option (Int32 × Sto)) (v1 v2 v3 : Int32) (M : Sto) : Option (Int32 × Sto) :=
  g v1 v2 (v3 + (-1)) M
def l_R_nameAll_62 (k : Int32 → Sto → Option (Int32 × Sto)) : Nat → Int32 → Int32 → Int32 → Sto → Option (Int32 × Sto)
  | 0, _, _, _, _ => none
  | n + 1, v1, v2, v3, M =>
  if v3 ≤ 0 then (k v1 M) else ((m_R_has (M 0 12) v3 M).bind fun o4 => if o4.1 = 0 then (j_R_nameAll_97 (l_R_nameAll_62 k n) k v1 v2 v3 o4.2) else (if ok v3 10 then (if (o4.2 12 v3.toNatClampNeg) = v2 then (if ok v1 12 then ((wr (up2 o4.2 22 v1.toNatClampNeg v3) fun M5 => (j_R_nameAll_97 (l_R_nameAll_62 k n) k (v1 + 1) v2 v3 M5))) else none) else (j_R_nameAll_97 (l_R_nameAll_62 k n) k v1 v2 v3 o4.2)) else none))
def l_R_nameAll_36 (k : Sto → Option (Int32 × Sto)) : Nat → Int32 → Sto → Option (Int32 × Sto)
  | 0, _, _ => none
  | n + 1, v1, M =>
  if v1 ≤ 0 then (k M) else (if ok (v1 + (-1)) 12 then ((m_R_nameBlock (M 22 (v1 + (-1)).toNatClampNeg) M).bind fun o3 => l_R_nameAll_62 (j_R_nameAll_103 (l_R_nameAll_36 k n) k) FU (v1 + (-1)) (M 22 (v1 + (-1)).toNatClampNeg) ((o3.2 0 1) - 1) o3.2) else none)
def j_R_nameAll_27 (M : Sto) : Option (Int32 × Sto) :=
  if ok 0 12 then ((wr (up2 M 22 (0 : Int32).toNatClampNeg 0) fun M2 => (l_R_nameAll_36 (j_R_nameAll_106) FU 1 M2))) else none
def l_R_nameAll_8 (k : Sto → Option (Int32 × Sto)) : Nat → Int32 → Sto → Option (Int32 × Sto)
  | 0, _, _ => none
  | n + 1, v1, M =>
  if 6 ≤ v1 then (k M) else (if ok v1 130 then ((wr (up2 M 14 v1.toNatClampNeg (-1)) fun M6 => ((l_R_nameAll_8 k n) (v1 + 1) M6))) else none)
def m_R_nameAll (M : Sto) : Option (Int32 × Sto) :=
  wr (up2 M 0 17 6) fun M1 => l_R_nameAll_8 (j_R_nameAll_27) FU 0 M1
def j_R_reckon_50 (s0 : Int32) (M : Sto) : Option (Int32 × Sto) :=
  some (s0, M)
def m_R_reckon (x1 x2 x3 : Int32) (M : Sto) : Option (Int32 × Sto) :=
  if x1 = 2 then (some (x2 + x3, M)) else (if x1 = 3 then (some (x2 - x3, M)) else (if x1 = 4 then (some (x2 * x3, M)) else (if x3 ≤ x2 then (j_R_reckon_50 0 M) else (j_R_reckon_50 1 M))))
def j_R_becomes_54 (s0 s1 v4 : Int32) (M : Sto) : Option (Int32 × Sto) :=
  if ok s1 130 then ((wr (up2 M 25 s1.toNatClampNeg s0) fun M2 => (if bz v4 then some (v4, M2) else none))) else none
def j_R_becomes_30 (s0 v1 v2 v3 : Int32) (M : Sto) : Option (Int32 × Sto) :=
  if ok v1 130 then ((wr (up2 M 24 v1.toNatClampNeg v2) fun M1 => (if v2 = 1 then (j_R_becomes_54 v3 v1 s0 M1) else (j_R_becomes_54 0 v1 s0 M1)))) else none
def j_R_becomes_25 (v1 v2 v3 : Int32) (M : Sto) : Option (Int32 × Sto) :=
  j_R_becomes_30 1 v1 v2 v3 M
def j_R_becomes_29 (v1 v2 v3 : Int32) (M : Sto) : Option (Int32 × Sto) :=
  j_R_becomes_30 0 v1 v2 v3 M
def m_R_becomes (x1 x2 x3 : Int32) (M : Sto) : Option (Int32 × Sto) :=
  if ok x1 130 then (if (M 24 x1.toNatClampNeg) = x2 then (if x2 = 1 then (if ok x1 130 then (if (M 25 x1.toNatClampNeg) = x3 then (j_R_becomes_29 x1 x2 x3 M) else (j_R_becomes_25 x1 x2 x3 M)) else none) else (j_R_becomes_29 x1 x2 x3 M)) else (j_R_becomes_25 x1 x2 x3 M)) else none
def j_R_meet_155 (v1 v4 v5 : Int32) (M : Sto) : Option (Int32 × Sto) :=
  (m_R_becomes v1 v4 v5 M).bind fun o1 => if bz o1.1 then some (o1.1, o1.2) else none
def j_R_meet_149 (g : Int32 → Int32 → Int32 → Int32 → Int32 → Int32 → Sto → Option (Int32 × Sto)) (k : Int32 → Int32 → Int32 → Sto → Option (Int32 × Sto)) (v1 v2 v3 v4 v5 v6 : Int32) (M : Sto) : Option (Int32 × Sto) :=
  g v1 v2 v3 v4 v5 (v6 + 1) M
def j_R_meet_115 (g : Int32 → Int32 → Int32 → Int32 → Int32 → Int32 → Sto → Option (Int32 × Sto)) (k : Int32 → Int32 → Int32 → Sto → Option (Int32 × Sto)) (v1 v2 v3 v5 v6 : Int32) (M : Sto) : Option (Int32 × Sto) :=
  j_R_meet_149 g k v1 v2 v3 2 v5 v6 M
def j_R_meet_121 (g : Int32 → Int32 → Int32 → Int32 → Int32 → Int32 → Sto → Option (Int32 × Sto)) (k : Int32 → Int32 → Int32 → Sto → Option (Int32 × Sto)) (v1 v2 v3 v4 v5 v6 v7 : Int32) (M : Sto) : Option (Int32 × Sto) :=
  if v4 = 0 then (if ok v7 130 then (if (M 24 v7.toNatClampNeg) = 1 then (if ok v7 130 then (j_R_meet_149 g k v1 v2 v3 1 (M 25 v7.toNatClampNeg) v6 M) else none) else (j_R_meet_149 g k v1 v2 v3 v4 v5 v6 M)) else none) else (j_R_meet_149 g k v1 v2 v3 v4 v5 v6 M)
def l_R_meet_9 (k : Int32 → Int32 → Int32 → Sto → Option (Int32 × Sto)) : Nat → Int32 → Int32 → Int32 → Int32 → Int32 → Int32 → Sto → Option (Int32 × Sto)
  | 0, _, _, _, _, _, _, _ => none
  | n + 1, v1, v2, v3, v4, v5, v6, M =>
  if (M 0 1) ≤ v6 then (k v1 v4 v5 M) else (if ok v2 10 then ((m_R_has (M 11 v2.toNatClampNeg) v6 M).bind fun o2 => if o2.1 = 0 then (j_R_meet_149 (l_R_meet_9 k n) k v1 v2 v3 v4 v5 v6 o2.2) else ((m_R_has (o2.2 0 27) v6 o2.2).bind fun o3 => if o3.1 = 0 then (j_R_meet_149 (l_R_meet_9 k n) k v1 v2 v3 v4 v5 v6 o3.2) else (if ok v6 10 then ((m_R_has (o3.2 23 v6.toNatClampNeg) v2 o3.2).bind fun o4 => if o4.1 = 0 then (j_R_meet_149 (l_R_meet_9 k n) k v1 v2 v3 v4 v5 v6 o4.2) else (if ok ((6 * v6) + v3) 60 then (if ok (o4.2 21 ((6 * v6) + v3).toNatClampNeg) 130 then (if (o4.2 24 (o4.2 21 ((6 * v6) + v3).toNatClampNeg).toNatClampNeg) = 2 then (j_R_meet_115 (l_R_meet_9 k n) k v1 v2 v3 v5 v6 o4.2) else (if v4 = 1 then (if ok (o4.2 21 ((6 * v6) + v3).toNatClampNeg) 130 then (if (o4.2 24 (o4.2 21 ((6 * v6) + v3).toNatClampNeg).toNatClampNeg) = 1 then (if ok (o4.2 21 ((6 * v6) + v3).toNatClampNeg) 130 then (if (o4.2 25 (o4.2 21 ((6 * v6) + v3).toNatClampNeg).toNatClampNeg) = v5 then (j_R_meet_121 (l_R_meet_9 k n) k v1 v2 v3 v4 v5 v6 (o4.2 21 ((6 * v6) + v3).toNatClampNeg) o4.2) else (j_R_meet_115 (l_R_meet_9 k n) k v1 v2 v3 v5 v6 o4.2)) else none) else (j_R_meet_121 (l_R_meet_9 k n) k v1 v2 v3 v4 v5 v6 (o4.2 21 ((6 * v6) + v3).toNatClampNeg) o4.2)) else none) else (j_R_meet_121 (l_R_meet_9 k n) k v1 v2 v3 v4 v5 v6 (o4.2 21 ((6 * v6) + v3).toNatClampNeg) o4.2))) else none) else none)) else none))) else none)
def m_R_meet (x1 x2 x3 : Int32) (M : Sto) : Option (Int32 × Sto) :=
  l_R_meet_9 (j_R_meet_155) FU x1 x2 x3 0 0 0 M
def j_R_knows_114 (v2 : Int32) (M : Sto) : Option (Int32 × Sto) :=
  (m_R_becomes v2 2 0 M).bind fun o1 => if bz o1.1 then some (o1.1, o1.2) else none
def j_R_knows_177 (s0 : Int32) (M : Sto) : Option (Int32 × Sto) :=
  if bz s0 then some (s0, M) else none
def j_R_knows_176 (M : Sto) : Option (Int32 × Sto) :=
  j_R_knows_177 0 M
def m_R_knows (x1 : Int32) (M : Sto) : Option (Int32 × Sto) :=
  if ok x1 60 then (if ok x1 60 then (if 0 ≤ (M 17 x1.toNatClampNeg) then (if (M 2 x1.toNatClampNeg) = 0 then (if ok x1 60 then ((m_R_becomes (M 17 x1.toNatClampNeg) 1 (M 4 x1.toNatClampNeg) M).bind fun o6 => if bz o6.1 then some (o6.1, o6.2) else none) else none) else (if (M 2 x1.toNatClampNeg) = 6 then ((m_R_becomes (M 17 x1.toNatClampNeg) 2 0 M).bind fun o5 => if bz o5.1 then some (o5.1, o5.2) else none) else (if ok x1 60 then (if (M 2 x1.toNatClampNeg) = 1 then (if ok (M 18 x1.toNatClampNeg) 130 then (if ok (M 18 x1.toNatClampNeg) 130 then ((m_R_becomes (M 17 x1.toNatClampNeg) (M 24 (M 18 x1.toNatClampNeg).toNatClampNeg) (M 25 (M 18 x1.toNatClampNeg).toNatClampNeg) M).bind fun o4 => if bz o4.1 then some (o4.1, o4.2) else none) else none) else none) else (if ok x1 60 then (if ok (M 18 x1.toNatClampNeg) 130 then (if (M 24 (M 18 x1.toNatClampNeg).toNatClampNeg) = 2 then (j_R_knows_114 (M 17 x1.toNatClampNeg) M) else (if ok (M 19 x1.toNatClampNeg) 130 then (if (M 24 (M 19 x1.toNatClampNeg).toNatClampNeg) = 2 then (j_R_knows_114 (M 17 x1.toNatClampNeg) M) else (if ok (M 18 x1.toNatClampNeg) 130 then (if (M 24 (M 18 x1.toNatClampNeg).toNatClampNeg) = 1 then (if ok (M 19 x1.toNatClampNeg) 130 then (if (M 24 (M 19 x1.toNatClampNeg).toNatClampNeg) = 1 then (if ok (M 18 x1.toNatClampNeg) 130 then (if ok (M 19 x1.toNatClampNeg) 130 then ((m_R_reckon (M 2 x1.toNatClampNeg) (M 25 (M 18 x1.toNatClampNeg).toNatClampNeg) (M 25 (M 19 x1.toNatClampNeg).toNatClampNeg) M).bind fun o2 => (m_R_becomes (M 17 x1.toNatClampNeg) 1 o2.1 o2.2).bind fun o3 => if o3.1 = 0 then (j_R_knows_176 o3.2) else (j_R_knows_177 1 o3.2)) else none) else none) else (j_R_knows_176 M)) else none) else (j_R_knows_176 M)) else none)) else none)) else none) else none)) else none))) else (if bz 0 then some (0, M) else none)) else none) else none
def j_R_ways_78 (s0 : Int32) (M : Sto) : Option (Int32 × Sto) :=
  some (s0, M)
def j_R_ways_77 (s0 s1 : Int32) (M : Sto) : Option (Int32 × Sto) :=
  j_R_ways_78 (s1 <<< (s0 &&& 31)) M
def m_R_ways (x1 : Int32) (M : Sto) : Option (Int32 × Sto) :=
  if ok x1 10 then (if 2 ≤ (M 6 x1.toNatClampNeg) then (if ok x1 10 then (if ok (M 20 x1.toNatClampNeg) 130 then (if (M 24 (M 20 x1.toNatClampNeg).toNatClampNeg) = 0 then (some (0, M)) else (if ok (M 20 x1.toNatClampNeg) 130 then (if (M 24 (M 20 x1.toNatClampNeg).toNatClampNeg) = 2 then ((m_R_leadsTo x1 M).bind fun o1 => j_R_ways_78 o1.1 o1.2) else (if ok (M 20 x1.toNatClampNeg) 130 then (if (M 25 (M 20 x1.toNatClampNeg).toNatClampNeg) = 0 then (if ok x1 10 then (j_R_ways_77 (M 9 x1.toNatClampNeg) 1 M) else none) else (if ok x1 10 then (j_R_ways_77 (M 8 x1.toNatClampNeg) 1 M) else none)) else none)) else none)) else none) else none) else ((m_R_leadsTo x1 M).bind fun o2 => some (o2.1, o2.2))) else none
def j_R_pass_173 (v1 : Int32) (M : Sto) : Option (Int32 × Sto) :=
  if bz v1 then some (v1, M) else none
def j_R_pass_167 (g : Int32 → Int32 → Sto → Option (Int32 × Sto)) (k : Int32 → Sto → Option (Int32 × Sto)) (v1 v2 : Int32) (M : Sto) : Option (Int32 × Sto) :=
  g v1 (v2 + 1) M
def j_R_pass_149 (g : Int32 → Int32 → Sto → Option (Int32 × Sto)) (k : Int32 → Sto → Option (Int32 × Sto)) (s0 v2 v3 : Int32) (M : Sto) : Option (Int32 × Sto) :=
  if ok v2 10 then ((wr (up2 M 23 v2.toNatClampNeg v3) fun M3 => (wr (up2 M3 0 27 ((M3 0 27) ||| v3)) fun M4 => j_R_pass_167 g k s0 v2 M4))) else none
def j_R_pass_144 (g : Int32 → Int32 → Sto → Option (Int32 × Sto)) (k : Int32 → Sto → Option (Int32 × Sto)) (v2 v3 : Int32) (M : Sto) : Option (Int32 × Sto) :=
  j_R_pass_149 g k 1 v2 v3 M
def j_R_pass_111 (g : Int32 → Int32 → Sto → Option (Int32 × Sto)) (k : Int32 → Sto → Option (Int32 × Sto)) (v1 v2 : Int32) (M : Sto) : Option (Int32 × Sto) :=
  (m_R_ways v2 M).bind fun o2 => if v1 = 0 then (if ok v2 10 then (if o2.1 = (o2.2 23 v2.toNatClampNeg) then (if ((o2.2 0 27) ||| o2.1) = (o2.2 0 27) then (j_R_pass_149 g k 0 v2 o2.1 o2.2) else (j_R_pass_144 g k v2 o2.1 o2.2)) else (j_R_pass_144 g k v2 o2.1 o2.2)) else none) else (j_R_pass_144 g k v2 o2.1 o2.2)
def j_R_pass_105 (g : Int32 → Int32 → Int32 → Sto → Option (Int32 × Sto)) (k : Int32 → Int32 → Sto → Option (Int32 × Sto)) (v1 v2 v3 : Int32) (M : Sto) : Option (Int32 × Sto) :=
  g v1 v2 (v3 + 1) M
def l_R_pass_80 (k : Int32 → Int32 → Sto → Option (Int32 × Sto)) : Nat → Int32 → Int32 → Int32 → Sto → Option (Int32 × Sto)
  | 0, _, _, _, _ => none
  | n + 1, v1, v2, v3, M =>
  if ok v2 10 then (if ((6 * v2) + (M 1 v2.toNatClampNeg)) ≤ v3 then (k v1 v2 M) else ((m_R_knows v3 M).bind fun o5 => if o5.1 = 0 then (j_R_pass_105 (l_R_pass_80 k n) k v1 v2 v3 o5.2) else (j_R_pass_105 (l_R_pass_80 k n) k 1 v2 v3 o5.2))) else none
def j_R_pass_75 (g : Int32 → Int32 → Sto → Option (Int32 × Sto)) (k : Int32 → Sto → Option (Int32 × Sto)) (v1 v2 : Int32) (M : Sto) : Option (Int32 × Sto) :=
  l_R_pass_80 (j_R_pass_111 g k) FU v1 v2 (6 * v2) M
def j_R_pass_69 (g : Int32 → Int32 → Int32 → Sto → Option (Int32 × Sto)) (k : Int32 → Int32 → Sto → Option (Int32 × Sto)) (v1 v2 v3 : Int32) (M : Sto) : Option (Int32 × Sto) :=
  g v1 v2 (v3 + 1) M
def l_R_pass_28 (k : Int32 → Int32 → Sto → Option (Int32 × Sto)) : Nat → Int32 → Int32 → Int32 → Sto → Option (Int32 × Sto)
  | 0, _, _, _, _ => none
  | n + 1, v1, v2, v3, M =>
  if 6 ≤ v3 then (k v1 v2 M) else (if ok v2 10 then ((m_R_has (M 13 v2.toNatClampNeg) v3 M).bind fun o6 => if o6.1 = 0 then (j_R_pass_69 (l_R_pass_28 k n) k v1 v2 v3 o6.2) else (if ok ((6 * v2) + v3) 60 then ((m_R_meet (o6.2 16 ((6 * v2) + v3).toNatClampNeg) v2 v3 o6.2).bind fun o7 => if o7.1 = 0 then (j_R_pass_69 (l_R_pass_28 k n) k v1 v2 v3 o7.2) else (j_R_pass_69 (l_R_pass_28 k n) k 1 v2 v3 o7.2)) else none)) else none)
def l_R_pass_4 (k : Int32 → Sto → Option (Int32 × Sto)) : Nat → Int32 → Int32 → Sto → Option (Int32 × Sto)
  | 0, _, _, _ => none
  | n + 1, v1, v2, M =>
  if (M 0 1) ≤ v2 then (k v1 M) else ((m_R_has (M 0 27) v2 M).bind fun o1 => if o1.1 = 0 then (j_R_pass_167 (l_R_pass_4 k n) k v1 v2 o1.2) else (l_R_pass_28 (j_R_pass_75 (l_R_pass_4 k n) k) FU v1 v2 0 o1.2))
def m_R_pass (M : Sto) : Option (Int32 × Sto) :=
  l_R_pass_4 (j_R_pass_173) FU 0 0 M
def j_R_findKnown_86 (M : Sto) : Option (Int32 × Sto) :=
  some (0, M)
def l_R_findKnown_74 (k : Sto → Option (Int32 × Sto)) : Nat → Int32 → Sto → Option (Int32 × Sto)
  | 0, _, _ => none
  | n + 1, v1, M =>
  if v1 = 0 then (k M) else ((m_R_pass M).bind fun o2 => (l_R_findKnown_74 k n) o2.1 o2.2)
def j_R_findKnown_72 (M : Sto) : Option (Int32 × Sto) :=
  l_R_findKnown_74 (j_R_findKnown_86) FU 1 M
def j_R_findKnown_51 (g : Int32 → Sto → Option (Int32 × Sto)) (k : Sto → Option (Int32 × Sto)) (s0 s1 v1 : Int32) (M : Sto) : Option (Int32 × Sto) :=
  if ok s1 130 then ((wr (up2 M 24 s1.toNatClampNeg s0) fun M3 => (if ok v1 130 then ((wr (up2 M3 25 v1.toNatClampNeg 0) fun M4 => (if ok v1 130 then (if bz 0 then ((wr (up2 M4 26 v1.toNatClampNeg 0) fun M5 => (g (v1 + 1) M5))) else none) else none))) else none))) else none
def l_R_findKnown_28 (k : Sto → Option (Int32 × Sto)) : Nat → Int32 → Sto → Option (Int32 × Sto)
  | 0, _, _ => none
  | n + 1, v1, M =>
  if 130 ≤ v1 then (k M) else (if 6 ≤ v1 then (j_R_findKnown_51 (l_R_findKnown_28 k n) k 0 v1 v1 M) else (j_R_findKnown_51 (l_R_findKnown_28 k n) k 1 v1 v1 M))
def j_R_findKnown_26 (M : Sto) : Option (Int32 × Sto) :=
  l_R_findKnown_28 (j_R_findKnown_72) FU 0 M
def l_R_findKnown_7 (k : Sto → Option (Int32 × Sto)) : Nat → Int32 → Sto → Option (Int32 × Sto)
  | 0, _, _ => none
  | n + 1, v1, M =>
  if 10 ≤ v1 then (k M) else (if ok v1 10 then ((wr (up2 M 23 v1.toNatClampNeg 0) fun M6 => ((l_R_findKnown_7 k n) (v1 + 1) M6))) else none)
def m_R_findKnown (M : Sto) : Option (Int32 × Sto) :=
  wr (up2 M 0 27 1) fun M1 => l_R_findKnown_7 (j_R_findKnown_26) FU 0 M1
def j_R_needs_30 (v2 : Int32) (M : Sto) : Option (Int32 × Sto) :=
  if bz v2 then some (v2, M) else none
def j_R_needs_18 (s0 v1 : Int32) (M : Sto) : Option (Int32 × Sto) :=
  if s0 = 0 then (j_R_needs_30 s0 M) else (if ok v1 130 then (if bz 1 then ((wr (up2 M 26 v1.toNatClampNeg 1) fun M1 => (j_R_needs_30 s0 M1))) else none) else none)
def j_R_needs_17 (v1 : Int32) (M : Sto) : Option (Int32 × Sto) :=
  j_R_needs_18 0 v1 M
def m_R_needs (x1 : Int32) (M : Sto) : Option (Int32 × Sto) :=
  if x1 < 0 then (j_R_needs_17 x1 M) else (if ok x1 130 then (if (M 26 x1.toNatClampNeg) = 0 then (j_R_needs_18 1 x1 M) else (j_R_needs_17 x1 M)) else none)
def j_R_needsParts_25 (M : Sto) : Option (Int32 × Sto) :=
  if bz 0 then some (0, M) else none
def j_R_needsParts_172 (v3 : Int32) (M : Sto) : Option (Int32 × Sto) :=
  if bz v3 then some (v3, M) else none
def j_R_needsParts_166 (g : Int32 → Int32 → Int32 → Int32 → Sto → Option (Int32 × Sto)) (k : Int32 → Sto → Option (Int32 × Sto)) (v3 v4 v5 v6 : Int32) (M : Sto) : Option (Int32 × Sto) :=
  g v3 v4 v5 (v6 + 1) M
def l_R_needsParts_93 (k : Int32 → Sto → Option (Int32 × Sto)) : Nat → Int32 → Int32 → Int32 → Int32 → Sto → Option (Int32 × Sto)
  | 0, _, _, _, _, _ => none
  | n + 1, v3, v4, v5, v6, M =>
  if (M 0 1) ≤ v6 then (k v3 M) else (if ok v4 10 then ((m_R_has (M 11 v4.toNatClampNeg) v6 M).bind fun o1 => if o1.1 = 0 then (j_R_needsParts_166 (l_R_needsParts_93 k n) k v3 v4 v5 v6 o1.2) else ((m_R_has (o1.2 0 27) v6 o1.2).bind fun o2 => if o2.1 = 0 then (j_R_needsParts_166 (l_R_needsParts_93 k n) k v3 v4 v5 v6 o2.2) else (if ok v6 10 then ((m_R_has (o2.2 23 v6.toNatClampNeg) v4 o2.2).bind fun o3 => if o3.1 = 0 then (j_R_needsParts_166 (l_R_needsParts_93 k n) k v3 v4 v5 v6 o3.2) else (if ok ((6 * v6) + v5) 60 then ((m_R_needs (o3.2 21 ((6 * v6) + v5).toNatClampNeg) o3.2).bind fun o4 => if o4.1 = 0 then (j_R_needsParts_166 (l_R_needsParts_93 k n) k v3 v4 v5 v6 o4.2) else (j_R_needsParts_166 (l_R_needsParts_93 k n) k 1 v4 v5 v6 o4.2)) else none)) else none))) else none)
def j_R_needsParts_73 (s0 : Int32) (M : Sto) : Option (Int32 × Sto) :=
  if bz s0 then some (s0, M) else none
def j_R_needsParts_68 (M : Sto) : Option (Int32 × Sto) :=
  j_R_needsParts_73 1 M
def m_R_needsParts (x1 : Int32) (M : Sto) : Option (Int32 × Sto) :=
  if x1 < 6 then (j_R_needsParts_25 M) else (if ok x1 130 then (if (M 26 x1.toNatClampNeg) = 0 then (j_R_needsParts_25 M) else (if ok x1 130 then (if (M 24 x1.toNatClampNeg) = 1 then (j_R_needsParts_25 M) else (if ok x1 130 then (if (M 15 x1.toNatClampNeg) < 0 then (if (6 : Int32) = 0 then none else if (6 : Int32) = 0 then none else l_R_needsParts_93 (j_R_needsParts_172) FU 0 (((-1) - (M 15 x1.toNatClampNeg)) / 6) (((-1) - (M 15 x1.toNatClampNeg)) - ((-1) - (M 15 x1.toNatClampNeg)) / 6 * 6) 0 M) else (if ok (M 15 x1.toNatClampNeg) 60 then ((m_R_needs (M 18 (M 15 x1.toNatClampNeg).toNatClampNeg) M).bind fun o5 => if ok (M 15 x1.toNatClampNeg) 60 then ((m_R_needs (o5.2 19 (M 15 x1.toNatClampNeg).toNatClampNeg) o5.2).bind fun o6 => if o6.1 = 0 then (if o5.1 = 0 then (j_R_needsParts_73 0 o6.2) else (j_R_needsParts_68 o6.2)) else (j_R_needsParts_68 o6.2)) else none) else none)) else none)) else none)) else none)
def j_R_findNeeded_182 (M : Sto) : Option (Int32 × Sto) :=
  some (0, M)
def j_R_findNeeded_179 (g : Int32 → Sto → Option (Int32 × Sto)) (k : Sto → Option (Int32 × Sto)) (v1 : Int32) (M : Sto) : Option (Int32 × Sto) :=
  g v1 M
def j_R_findNeeded_172 (g : Int32 → Int32 → Sto → Option (Int32 × Sto)) (k : Int32 → Sto → Option (Int32 × Sto)) (s0 v2 : Int32) (M : Sto) : Option (Int32 × Sto) :=
  g s0 (v2 + 1) M
def j_R_findNeeded_167 (g : Int32 → Int32 → Sto → Option (Int32 × Sto)) (k : Int32 → Sto → Option (Int32 × Sto)) (v2 : Int32) (M : Sto) : Option (Int32 × Sto) :=
  j_R_findNeeded_172 g k 1 v2 M
def l_R_findNeeded_147 (k : Int32 → Sto → Option (Int32 × Sto)) : Nat → Int32 → Int32 → Sto → Option (Int32 × Sto)
  | 0, _, _, _ => none
  | n + 1, v1, v2, M =>
  if (M 0 17) ≤ v2 then (k v1 M) else ((m_R_needsParts v2 M).bind fun o1 => if o1.1 = 0 then (if v1 = 0 then (j_R_findNeeded_172 (l_R_findNeeded_147 k n) k 0 v2 o1.2) else (j_R_findNeeded_167 (l_R_findNeeded_147 k n) k v2 o1.2)) else (j_R_findNeeded_167 (l_R_findNeeded_147 k n) k v2 o1.2))
def l_R_findNeeded_138 (k : Sto → Option (Int32 × Sto)) : Nat → Int32 → Sto → Option (Int32 × Sto)
  | 0, _, _ => none
  | n + 1, v1, M =>
  if v1 = 0 then (k M) else (l_R_findNeeded_147 (j_R_findNeeded_179 (l_R_findNeeded_138 k n) k) FU 0 6 M)
def j_R_findNeeded_136 (M : Sto) : Option (Int32 × Sto) :=
  l_R_findNeeded_138 (j_R_findNeeded_182) FU 1 M
def j_R_findNeeded_130 (g : Int32 → Sto → Option (Int32 × Sto)) (k : Sto → Option (Int32 × Sto)) (v1 : Int32) (M : Sto) : Option (Int32 × Sto) :=
  g (v1 + 1) M
def j_R_findNeeded_94 (g : Int32 → Sto → Option (Int32 × Sto)) (k : Sto → Option (Int32 × Sto)) (v1 : Int32) (M : Sto) : Option (Int32 × Sto) :=
  if ok v1 10 then (if (M 6 v1.toNatClampNeg) = 2 then (if ok v1 10 then (if ok (M 20 v1.toNatClampNeg) 130 then (if (M 24 (M 20 v1.toNatClampNeg).toNatClampNeg) = 2 then (if ok v1 10 then ((m_R_needs (M 20 v1.toNatClampNeg) M).bind fun o3 => j_R_findNeeded_130 g k v1 o3.2) else none) else (j_R_findNeeded_130 g k v1 M)) else none) else none) else (j_R_findNeeded_130 g k v1 M)) else none
def j_R_findNeeded_88 (g : Int32 → Int32 → Sto → Option (Int32 × Sto)) (k : Int32 → Sto → Option (Int32 × Sto)) (v1 v2 : Int32) (M : Sto) : Option (Int32 × Sto) :=
  g v1 (v2 + 1) M
def j_R_findNeeded_66 (g : Int32 → Int32 → Sto → Option (Int32 × Sto)) (k : Int32 → Sto → Option (Int32 × Sto)) (v1 v2 : Int32) (M : Sto) : Option (Int32 × Sto) :=
  if ok v2 60 then (if (M 2 v2.toNatClampNeg) = 6 then (if ok v2 60 then ((m_R_needs (M 17 v2.toNatClampNeg) M).bind fun o4 => j_R_findNeeded_88 g k v1 v2 o4.2) else none) else (j_R_findNeeded_88 g k v1 v2 M)) else none
def l_R_findNeeded_29 (k : Int32 → Sto → Option (Int32 × Sto)) : Nat → Int32 → Int32 → Sto → Option (Int32 × Sto)
  | 0, _, _, _ => none
  | n + 1, v1, v2, M =>
  if ok v1 10 then (if ((6 * v1) + (M 1 v1.toNatClampNeg)) ≤ v2 then (k v1 M) else (if ok v2 60 then (if (M 2 v2.toNatClampNeg) = 7 then (if ok v2 60 then ((m_R_needs (M 18 v2.toNatClampNeg) M).bind fun o5 => j_R_findNeeded_66 (l_R_findNeeded_29 k n) k v1 v2 o5.2) else none) else (j_R_findNeeded_66 (l_R_findNeeded_29 k n) k v1 v2 M)) else none)) else none
def l_R_findNeeded_2 (k : Sto → Option (Int32 × Sto)) : Nat → Int32 → Sto → Option (Int32 × Sto)
  | 0, _, _ => none
  | n + 1, v1, M =>
  if (M 0 1) ≤ v1 then (k M) else ((m_R_has (M 0 27) v1 M).bind fun o2 => if o2.1 = 0 then (j_R_findNeeded_130 (l_R_findNeeded_2 k n) k v1 o2.2) else (l_R_findNeeded_29 (j_R_findNeeded_94 (l_R_findNeeded_2 k n) k) FU v1 (6 * v1) o2.2))
def m_R_findNeeded (M : Sto) : Option (Int32 × Sto) :=
  l_R_findNeeded_2 (j_R_findNeeded_136) FU 0 M
def j_R_build_13 (s0 : Int32) (M : Sto) : Option (Int32 × Sto) :=
  (m_R_fails s0 1 M).bind fun o1 => if o1.1 = 0 then ((m_R_reaches o1.2).bind fun o2 => (m_R_dominates o2.2).bind fun o3 => (m_R_placePhis o3.2).bind fun o4 => (m_R_nameAll o4.2).bind fun o5 => (m_R_findKnown o5.2).bind fun o6 => (m_R_findNeeded o6.2).bind fun o7 => if bz 1 then (wr (up2 o7.2 0 11 1) fun M8 => some (M8 0 17, M8)) else none) else (some (0, o1.2))
def m_R_build (M : Sto) : Option (Int32 × Sto) :=
  if (M 0 1) = 0 then (j_R_build_13 1 M) else (j_R_build_13 0 M)
def j_R_look_50 (M : Sto) : Option (Int32 × Sto) :=
  some (0, M)
def j_R_look_173 (s0 : Int32) (M : Sto) : Option (Int32 × Sto) :=
  some (s0, M)
def j_R_look_151 (s0 : Int32) (M : Sto) : Option (Int32 × Sto) :=
  some (s0, M)
def j_R_look_150 (M : Sto) : Option (Int32 × Sto) :=
  j_R_look_151 0 M
def j_R_look_130 (s0 : Int32) (M : Sto) : Option (Int32 × Sto) :=
  some (s0, M)
def j_R_look_105 (s0 : Int32) (M : Sto) : Option (Int32 × Sto) :=
  some (s0, M)
def j_R_look_43 (s0 v1 v2 : Int32) (M : Sto) : Option (Int32 × Sto) :=
  (m_R_fails s0 2 M).bind fun o3 => if o3.1 = 0 then ((m_R_has (o3.2 0 12) v1 o3.2).bind fun o4 => if v2 = 0 then (if o4.1 = 0 then (j_R_look_105 0 o4.2) else (j_R_look_105 1 o4.2)) else (if v2 = 1 then (if ok v1 10 then (some (o4.2 12 v1.toNatClampNeg, o4.2)) else none) else (if v2 = 2 then (if o4.1 = 0 then (j_R_look_130 0 o4.2) else (if ok v1 10 then ((m_R_ones (o4.2 13 v1.toNatClampNeg) o4.2).bind fun o6 => j_R_look_130 o6.1 o6.2) else none)) else (if v2 = 3 then (if o4.1 = 0 then (j_R_look_150 o4.2) else ((m_R_has (o4.2 0 27) v1 o4.2).bind fun o5 => if o5.1 = 0 then (j_R_look_150 o5.2) else (j_R_look_151 1 o5.2))) else (if v2 = 4 then (if ok v1 10 then (some (o4.2 1 v1.toNatClampNeg, o4.2)) else none) else (if o4.1 = 0 then (j_R_look_173 (-1) o4.2) else (if ok v1 10 then (j_R_look_173 (o4.2 20 v1.toNatClampNeg) o4.2) else none))))))) else (j_R_look_50 o3.2)
def j_R_look_23 (s0 v1 v2 : Int32) (M : Sto) : Option (Int32 × Sto) :=
  (m_R_fails s0 1 M).bind fun o2 => if o2.1 = 0 then (if (o2.2 0 11) = 0 then (j_R_look_43 1 v1 v2 o2.2) else (j_R_look_43 0 v1 v2 o2.2)) else (j_R_look_50 o2.2)
def j_R_look_18 (v1 v2 : Int32) (M : Sto) : Option (Int32 × Sto) :=
  j_R_look_23 1 v1 v2 M
def m_R_look (x1 x2 : Int32) (M : Sto) : Option (Int32 × Sto) :=
  (m_R_noBlock x1 M).bind fun o1 => if o1.1 = 0 then (if x2 < 0 then (j_R_look_18 x1 x2 o1.2) else (if x2 ≤ 5 then (j_R_look_23 0 x1 x2 o1.2) else (j_R_look_18 x1 x2 o1.2))) else (j_R_look_18 x1 x2 o1.2)
def j_R_phiOf_23 (M : Sto) : Option (Int32 × Sto) :=
  some ((-1), M)
def j_R_phiOf_67 (M : Sto) : Option (Int32 × Sto) :=
  some ((-1), M)
def j_R_phiOf_61 (g : Int32 → Int32 → Int32 → Sto → Option (Int32 × Sto)) (k : Sto → Option (Int32 × Sto)) (v1 v3 v4 : Int32) (M : Sto) : Option (Int32 × Sto) :=
  g v1 v3 (v4 + 1) M
def l_R_phiOf_30 (k : Sto → Option (Int32 × Sto)) : Nat → Int32 → Int32 → Int32 → Sto → Option (Int32 × Sto)
  | 0, _, _, _, _ => none
  | n + 1, v1, v3, v4, M =>
  if 6 ≤ v4 then (k M) else (if ok v1 10 then ((m_R_has (M 13 v1.toNatClampNeg) v4 M).bind fun o3 => if o3.1 = 0 then (j_R_phiOf_61 (l_R_phiOf_30 k n) k v1 v3 v4 o3.2) else (if v3 = 0 then (some (v4, o3.2)) else (j_R_phiOf_61 (l_R_phiOf_30 k n) k v1 (v3 + (-1)) v4 o3.2))) else none)
def m_R_phiOf (x1 x2 : Int32) (M : Sto) : Option (Int32 × Sto) :=
  (m_R_noBlock x1 M).bind fun o1 => if o1.1 = 0 then ((m_R_has (o1.2 0 12) x1 o1.2).bind fun o2 => if o2.1 = 0 then (j_R_phiOf_23 o2.2) else (if 0 ≤ x2 then (l_R_phiOf_30 (j_R_phiOf_67) FU x1 x2 0 o2.2) else (j_R_phiOf_23 o2.2))) else (j_R_phiOf_23 o1.2)
def j_R_phi_128 (s0 : Int32) (M : Sto) : Option (Int32 × Sto) :=
  some (s0, M)
def j_R_phi_71 (s0 v1 v3 v4 : Int32) (M : Sto) : Option (Int32 × Sto) :=
  (m_R_fails s0 1 M).bind fun o3 => if o3.1 = 0 then (if v3 = (-2) then (j_R_phi_128 v4 o3.2) else (if v3 = (-1) then (if ok ((6 * v1) + v4) 60 then (j_R_phi_128 (o3.2 16 ((6 * v1) + v4).toNatClampNeg) o3.2) else none) else (if ok ((6 * v3) + v4) 60 then (j_R_phi_128 (o3.2 21 ((6 * v3) + v4).toNatClampNeg) o3.2) else none))) else (some (0, o3.2))
def j_R_phi_66 (v1 v3 v4 : Int32) (M : Sto) : Option (Int32 × Sto) :=
  j_R_phi_71 1 v1 v3 v4 M
def j_R_phi_70 (v1 v3 v4 : Int32) (M : Sto) : Option (Int32 × Sto) :=
  j_R_phi_71 0 v1 v3 v4 M
def j_R_phi_13 (s0 v1 v2 v3 : Int32) (M : Sto) : Option (Int32 × Sto) :=
  (m_R_fails s0 2 M).bind fun o1 => if o1.1 = 0 then ((m_R_phiOf v1 v2 o1.2).bind fun o2 => if o2.1 < 0 then (j_R_phi_66 v1 v3 o2.1 o2.2) else (if v3 < (-2) then (j_R_phi_66 v1 v3 o2.1 o2.2) else (if (o2.2 0 1) ≤ v3 then (j_R_phi_66 v1 v3 o2.1 o2.2) else (if v3 < 0 then (j_R_phi_70 v1 v3 o2.1 o2.2) else (if ok v1 10 then ((m_R_has (o2.2 11 v1.toNatClampNeg) v3 o2.2).bind fun o4 => if o4.1 = 0 then (j_R_phi_66 v1 v3 o2.1 o4.2) else (j_R_phi_70 v1 v3 o2.1 o4.2)) else none))))) else (some (0, o1.2))
def m_R_phi (x1 x2 x3 : Int32) (M : Sto) : Option (Int32 × Sto) :=
  if (M 0 11) = 0 then (j_R_phi_13 1 x1 x2 x3 M) else (j_R_phi_13 0 x1 x2 x3 M)
def j_R_uses_127 (s0 : Int32) (M : Sto) : Option (Int32 × Sto) :=
  some (s0, M)
def j_R_uses_69 (s0 v1 v2 v3 : Int32) (M : Sto) : Option (Int32 × Sto) :=
  (m_R_fails s0 1 M).bind fun o3 => if o3.1 = 0 then (if v3 = 0 then (if ok ((6 * v1) + v2) 60 then (j_R_uses_127 (o3.2 17 ((6 * v1) + v2).toNatClampNeg) o3.2) else none) else (if v3 = 1 then (if ok ((6 * v1) + v2) 60 then (j_R_uses_127 (o3.2 18 ((6 * v1) + v2).toNatClampNeg) o3.2) else none) else (if ok ((6 * v1) + v2) 60 then (j_R_uses_127 (o3.2 19 ((6 * v1) + v2).toNatClampNeg) o3.2) else none))) else (some (0, o3.2))
def j_R_uses_64 (v1 v2 v3 : Int32) (M : Sto) : Option (Int32 × Sto) :=
  j_R_uses_69 1 v1 v2 v3 M
def j_R_uses_13 (s0 v1 v2 v3 : Int32) (M : Sto) : Option (Int32 × Sto) :=
  (m_R_fails s0 2 M).bind fun o1 => if o1.1 = 0 then ((m_R_noBlock v1 o1.2).bind fun o2 => if o2.1 = 0 then ((m_R_has (o2.2 0 12) v1 o2.2).bind fun o4 => if o4.1 = 0 then (j_R_uses_64 v1 v2 v3 o4.2) else (if v2 < 0 then (j_R_uses_64 v1 v2 v3 o4.2) else (if ok v1 10 then (if (o4.2 1 v1.toNatClampNeg) ≤ v2 then (j_R_uses_64 v1 v2 v3 o4.2) else (if v3 < 0 then (j_R_uses_64 v1 v2 v3 o4.2) else (if v3 ≤ 2 then (j_R_uses_69 0 v1 v2 v3 o4.2) else (j_R_uses_64 v1 v2 v3 o4.2)))) else none))) else (j_R_uses_64 v1 v2 v3 o2.2)) else (some (0, o1.2))
def m_R_uses (x1 x2 x3 : Int32) (M : Sto) : Option (Int32 × Sto) :=
  if (M 0 11) = 0 then (j_R_uses_13 1 x1 x2 x3 M) else (j_R_uses_13 0 x1 x2 x3 M)
def j_R_name_113 (s0 : Int32) (M : Sto) : Option (Int32 × Sto) :=
  some (s0, M)
def j_R_name_49 (s0 v1 v2 : Int32) (M : Sto) : Option (Int32 × Sto) :=
  (m_R_fails s0 1 M).bind fun o2 => if o2.1 = 0 then (if v2 = 0 then (if ok v1 130 then (j_R_name_113 (o2.2 24 v1.toNatClampNeg) o2.2) else none) else (if v2 = 1 then (if ok v1 130 then (j_R_name_113 (o2.2 25 v1.toNatClampNeg) o2.2) else none) else (if v2 = 2 then (if ok v1 130 then (if (o2.2 26 v1.toNatClampNeg) = 0 then (j_R_name_113 0 o2.2) else (j_R_name_113 1 o2.2)) else none) else (if ok v1 130 then (j_R_name_113 (o2.2 14 v1.toNatClampNeg) o2.2) else none)))) else (some (0, o2.2))
def j_R_name_44 (v1 v2 : Int32) (M : Sto) : Option (Int32 × Sto) :=
  j_R_name_49 1 v1 v2 M
def j_R_name_13 (s0 v1 v2 : Int32) (M : Sto) : Option (Int32 × Sto) :=
  (m_R_fails s0 2 M).bind fun o1 => if o1.1 = 0 then (if v1 < 0 then (j_R_name_44 v1 v2 o1.2) else (if (o1.2 0 17) ≤ v1 then (j_R_name_44 v1 v2 o1.2) else (if v2 < 0 then (j_R_name_44 v1 v2 o1.2) else (if v2 ≤ 3 then (j_R_name_49 0 v1 v2 o1.2) else (j_R_name_44 v1 v2 o1.2))))) else (some (0, o1.2))
def m_R_name (x1 x2 : Int32) (M : Sto) : Option (Int32 × Sto) :=
  if (M 0 11) = 0 then (j_R_name_13 1 x1 x2 M) else (j_R_name_13 0 x1 x2 M)
def m_R_give (x1 : Int32) (M : Sto) : Option (Int32 × Sto) :=
  wr (up2 M 0 0 0) fun M1 => if (M1 0 32) = 16 then (if bz 0 then some (0, M1) else none) else (if ok (M1 0 32) 16 then ((wr (up2 M1 27 (M1 0 32).toNatClampNeg x1) fun M2 => (wr (up2 M2 0 32 ((M2 0 32) + 1)) fun M3 => if bz 1 then some (1, M3) else none))) else none)
def m_R_take (M : Sto) : Option (Int32 × Sto) :=
  wr (up2 M 0 0 0) fun M1 => wr (up2 M1 0 32 0) fun M2 => some (0, M2)
def j_R_tell_19 (M : Sto) : Option (Int32 × Sto) :=
  wr (up2 M 0 35 ((M 0 35) + 1)) fun M1 => some (0, M1)
def m_R_tell (x1 : Int32) (M : Sto) : Option (Int32 × Sto) :=
  if 40 ≤ (M 0 35) then (j_R_tell_19 M) else (if ok (M 0 35) 40 then ((wr (up2 M 28 (M 0 35).toNatClampNeg x1) fun M2 => (j_R_tell_19 M2))) else none)
def j_R_ask_36 (s0 : Int32) (M : Sto) : Option (Int32 × Sto) :=
  some (s0, M)
def m_R_ask (M : Sto) : Option (Int32 × Sto) :=
  wr (up2 M 0 34 ((M 0 34) + 1)) fun M1 => if (M1 0 32) < (M1 0 34) then (j_R_ask_36 0 M1) else (if ok ((M1 0 34) - 1) 16 then (j_R_ask_36 (M1 27 ((M1 0 34) - 1).toNatClampNeg) M1) else none)
def j_R_plainValue_67 (s0 : Int32) (M : Sto) : Option (Int32 × Sto) :=
  some (s0, M)
def m_R_plainValue (x1 : Int32) (M : Sto) : Option (Int32 × Sto) :=
  if ok x1 60 then (if (M 2 x1.toNatClampNeg) = 0 then (if ok x1 60 then (some (M 4 x1.toNatClampNeg, M)) else none) else (if (M 2 x1.toNatClampNeg) = 6 then ((m_R_ask M).bind fun o2 => some (o2.1, o2.2)) else (if ok x1 60 then (if ok (M 4 x1.toNatClampNeg) 130 then (if (M 2 x1.toNatClampNeg) = 1 then (j_R_plainValue_67 (M 29 (M 4 x1.toNatClampNeg).toNatClampNeg) M) else (if ok x1 60 then (if ok (M 5 x1.toNatClampNeg) 130 then ((m_R_reckon (M 2 x1.toNatClampNeg) (M 29 (M 4 x1.toNatClampNeg).toNatClampNeg) (M 29 (M 5 x1.toNatClampNeg).toNatClampNeg) M).bind fun o1 => j_R_plainValue_67 o1.1 o1.2) else none) else none)) else none) else none))) else none
def j_R_plainBlock_81 (M : Sto) : Option (Int32 × Sto) :=
  some (0, M)
def j_R_plainBlock_75 (g : Int32 → Int32 → Sto → Option (Int32 × Sto)) (k : Sto → Option (Int32 × Sto)) (v1 v2 : Int32) (M : Sto) : Option (Int32 × Sto) :=
  g v1 (v2 + 1) M
def l_R_plainBlock_5 (k : Sto → Option (Int32 × Sto)) : Nat → Int32 → Int32 → Sto → Option (Int32 × Sto)
  | 0, _, _, _ => none
  | n + 1, v1, v2, M =>
  if ok v1 10 then (if ((6 * v1) + (M 1 v1.toNatClampNeg)) ≤ v2 then (k M) else (wr (up2 M 0 38 ((M 0 38) + 1)) fun M1 => if ok v2 60 then (if (M1 2 v2.toNatClampNeg) = 7 then (if ok v2 60 then (if ok (M1 4 v2.toNatClampNeg) 130 then ((m_R_tell (M1 29 (M1 4 v2.toNatClampNeg).toNatClampNeg) M1).bind fun o4 => j_R_plainBlock_75 (l_R_plainBlock_5 k n) k v1 v2 o4.2) else none) else none) else (if ok v2 60 then ((m_R_plainValue v2 M1).bind fun o2 => if ok (M1 3 v2.toNatClampNeg) 130 then ((wr (up2 o2.2 29 (M1 3 v2.toNatClampNeg).toNatClampNeg o2.1) fun M3 => (j_R_plainBlock_75 (l_R_plainBlock_5 k n) k v1 v2 M3))) else none) else none)) else none)) else none
def m_R_plainBlock (x1 : Int32) (M : Sto) : Option (Int32 × Sto) :=
  l_R_plainBlock_5 (j_R_plainBlock_81) FU x1 (6 * x1) M
def j_R_value_25 (s0 : Int32) (M : Sto) : Option (Int32 × Sto) :=
  some (s0, M)
def m_R_value (x1 : Int32) (M : Sto) : Option (Int32 × Sto) :=
  if ok x1 130 then (if (M 24 x1.toNatClampNeg) = 1 then (if ok x1 130 then (j_R_value_25 (M 25 x1.toNatClampNeg) M) else none) else (if ok x1 130 then (j_R_value_25 (M 29 x1.toNatClampNeg) M) else none)) else none
def j_R_formedBlock_287 (M : Sto) : Option (Int32 × Sto) :=
  some (0, M)
def j_R_formedBlock_281 (g : Int32 → Int32 → Sto → Option (Int32 × Sto)) (k : Sto → Option (Int32 × Sto)) (v1 v3 : Int32) (M : Sto) : Option (Int32 × Sto) :=
  g v1 (v3 + 1) M
def j_R_formedBlock_280 (g : Int32 → Int32 → Sto → Option (Int32 × Sto)) (k : Sto → Option (Int32 × Sto)) (s0 s1 v1 v3 : Int32) (M : Sto) : Option (Int32 × Sto) :=
  if ok s1 130 then ((wr (up2 M 29 s1.toNatClampNeg s0) fun M5 => (j_R_formedBlock_281 g k v1 v3 M5))) else none
def j_R_formedBlock_229 (g : Int32 → Int32 → Sto → Option (Int32 × Sto)) (k : Sto → Option (Int32 × Sto)) (s0 v1 v3 v4 v5 : Int32) (M : Sto) : Option (Int32 × Sto) :=
  if v5 = 6 then ((m_R_ask M).bind fun o6 => j_R_formedBlock_280 g k o6.1 v4 v1 v3 o6.2) else (if v5 = 1 then (j_R_formedBlock_280 g k s0 v4 v1 v3 M) else (if ok v3 60 then ((m_R_value (M 19 v3.toNatClampNeg) M).bind fun o3 => (m_R_reckon v5 s0 o3.1 o3.2).bind fun o4 => j_R_formedBlock_280 g k o4.1 v4 v1 v3 o4.2) else none))
def l_R_formedBlock_106 (k : Sto → Option (Int32 × Sto)) : Nat → Int32 → Int32 → Sto → Option (Int32 × Sto)
  | 0, _, _, _ => none
  | n + 1, v1, v3, M =>
  if ok v1 10 then (if ((6 * v1) + (M 1 v1.toNatClampNeg)) ≤ v3 then (k M) else (if ok v3 60 then (if ok v3 60 then (if (M 2 v3.toNatClampNeg) = 7 then (wr (up2 M 0 38 ((M 0 38) + 1)) fun M7 => if ok v3 60 then ((m_R_value (M7 18 v3.toNatClampNeg) M7).bind fun o8 => (m_R_tell o8.1 o8.2).bind fun o9 => j_R_formedBlock_281 (l_R_formedBlock_106 k n) k v1 v3 o9.2) else none) else (if ok (M 17 v3.toNatClampNeg) 130 then (if (M 26 (M 17 v3.toNatClampNeg).toNatClampNeg) = 0 then (j_R_formedBlock_281 (l_R_formedBlock_106 k n) k v1 v3 M) else (if ok (M 17 v3.toNatClampNeg) 130 then (if (M 24 (M 17 v3.toNatClampNeg).toNatClampNeg) = 1 then (j_R_formedBlock_281 (l_R_formedBlock_106 k n) k v1 v3 M) else (wr (up2 M 0 38 ((M 0 38) + 1)) fun M1 => if ok v3 60 then (if ok v3 60 then (if 0 ≤ (M1 18 v3.toNatClampNeg) then (if ok v3 60 then ((m_R_value (M1 18 v3.toNatClampNeg) M1).bind fun o2 => j_R_formedBlock_229 (l_R_formedBlock_106 k n) k o2.1 v1 v3 (M 17 v3.toNatClampNeg) (M1 2 v3.toNatClampNeg) o2.2) else none) else (j_R_formedBlock_229 (l_R_formedBlock_106 k n) k 0 v1 v3 (M 17 v3.toNatClampNeg) (M1 2 v3.toNatClampNeg) M1)) else none) else none)) else none)) else none)) else none) else none)) else none
def j_R_formedBlock_101 (v1 : Int32) (M : Sto) : Option (Int32 × Sto) :=
  l_R_formedBlock_106 (j_R_formedBlock_287) FU v1 (6 * v1) M
def j_R_formedBlock_95 (g : Int32 → Int32 → Sto → Option (Int32 × Sto)) (k : Int32 → Sto → Option (Int32 × Sto)) (v1 v3 : Int32) (M : Sto) : Option (Int32 × Sto) :=
  g v1 (v3 + 1) M
def l_R_formedBlock_54 (k : Int32 → Sto → Option (Int32 × Sto)) : Nat → Int32 → Int32 → Sto → Option (Int32 × Sto)
  | 0, _, _, _ => none
  | n + 1, v1, v3, M =>
  if 6 ≤ v3 then (k v1 M) else (if ok v1 10 then ((m_R_has (M 13 v1.toNatClampNeg) v3 M).bind fun o10 => if o10.1 = 0 then (j_R_formedBlock_95 (l_R_formedBlock_54 k n) k v1 v3 o10.2) else (if ok ((6 * v1) + v3) 60 then (if ok v3 6 then (if ok (o10.2 16 ((6 * v1) + v3).toNatClampNeg) 130 then ((wr (up2 o10.2 29 (o10.2 16 ((6 * v1) + v3).toNatClampNeg).toNatClampNeg (o10.2 30 v3.toNatClampNeg)) fun M11 => (j_R_formedBlock_95 (l_R_formedBlock_54 k n) k v1 v3 M11))) else none) else none) else none)) else none)
def j_R_formedBlock_52 (v1 : Int32) (M : Sto) : Option (Int32 × Sto) :=
  l_R_formedBlock_54 (j_R_formedBlock_101) FU v1 0 M
def j_R_formedBlock_45 (g : Int32 → Int32 → Int32 → Sto → Option (Int32 × Sto)) (k : Int32 → Sto → Option (Int32 × Sto)) (s0 s1 v1 v2 v3 : Int32) (M : Sto) : Option (Int32 × Sto) :=
  if ok s1 6 then ((wr (up2 M 30 s1.toNatClampNeg s0) fun M13 => (g v1 v2 (v3 + 1) M13))) else none
def l_R_formedBlock_2 (k : Int32 → Sto → Option (Int32 × Sto)) : Nat → Int32 → Int32 → Int32 → Sto → Option (Int32 × Sto)
  | 0, _, _, _, _ => none
  | n + 1, v1, v2, v3, M =>
  if 6 ≤ v3 then (k v1 M) else (if ok v1 10 then ((m_R_has (M 13 v1.toNatClampNeg) v3 M).bind fun o12 => if o12.1 = 0 then (j_R_formedBlock_45 (l_R_formedBlock_2 k n) k 0 v3 v1 v2 v3 o12.2) else (if ok ((6 * v2) + v3) 60 then ((m_R_value (o12.2 21 ((6 * v2) + v3).toNatClampNeg) o12.2).bind fun o14 => j_R_formedBlock_45 (l_R_formedBlock_2 k n) k o14.1 v3 v1 v2 v3 o14.2) else none)) else none)
def m_R_formedBlock (x1 x2 : Int32) (M : Sto) : Option (Int32 × Sto) :=
  l_R_formedBlock_2 (j_R_formedBlock_52) FU x1 x2 0 M
def j_R_behind_76 (s0 : Int32) (M : Sto) : Option (Int32 × Sto) :=
  some (s0, M)
def j_R_behind_56 (s0 v1 : Int32) (M : Sto) : Option (Int32 × Sto) :=
  if s0 = 0 then (if ok v1 10 then (j_R_behind_76 (M 9 v1.toNatClampNeg) M) else none) else (if ok v1 10 then (j_R_behind_76 (M 8 v1.toNatClampNeg) M) else none)
def m_R_behind (x1 x2 : Int32) (M : Sto) : Option (Int32 × Sto) :=
  if ok x1 10 then (if (M 6 x1.toNatClampNeg) = 0 then (some ((-1), M)) else (if ok x1 10 then (if (M 6 x1.toNatClampNeg) = 1 then (if ok x1 10 then (some (M 8 x1.toNatClampNeg, M)) else none) else (if x2 = 0 then (if ok x1 10 then ((m_R_value (M 20 x1.toNatClampNeg) M).bind fun o1 => j_R_behind_56 o1.1 x1 o1.2) else none) else (if ok x1 10 then (if ok (M 7 x1.toNatClampNeg) 130 then (j_R_behind_56 (M 29 (M 7 x1.toNatClampNeg).toNatClampNeg) x1 M) else none) else none))) else none)) else none
def j_R_run_44 (M : Sto) : Option (Int32 × Sto) :=
  some (0, M)
def j_R_run_156 (s0 : Int32) (M : Sto) : Option (Int32 × Sto) :=
  some (s0, M)
def j_R_run_147 (v3 : Int32) (M : Sto) : Option (Int32 × Sto) :=
  if 0 ≤ v3 then (j_R_run_156 1 M) else (j_R_run_156 0 M)
def j_R_run_134 (g : Int32 → Int32 → Int32 → Int32 → Sto → Option (Int32 × Sto)) (k : Int32 → Sto → Option (Int32 × Sto)) (v1 v2 v3 : Int32) (M : Sto) : Option (Int32 × Sto) :=
  (m_R_behind v3 v1 M).bind fun o9 => g v1 v2 o9.1 v3 o9.2
def l_R_run_93 (k : Int32 → Sto → Option (Int32 × Sto)) : Nat → Int32 → Int32 → Int32 → Int32 → Sto → Option (Int32 × Sto)
  | 0, _, _, _, _, _ => none
  | n + 1, v1, v2, v3, v4, M =>
  if v3 < 0 then (k v3 M) else (if v2 ≤ (M 0 37) then (k v3 M) else (wr (up2 M 0 37 ((M 0 37) + 1)) fun M7 => if v1 = 0 then ((m_R_formedBlock v3 v4 M7).bind fun o8 => j_R_run_134 (l_R_run_93 k n) k v1 v2 v3 o8.2) else ((m_R_plainBlock v3 M7).bind fun o10 => j_R_run_134 (l_R_run_93 k n) k v1 v2 v3 o10.2)))
def j_R_run_88 (v1 v2 : Int32) (M : Sto) : Option (Int32 × Sto) :=
  l_R_run_93 (j_R_run_147) FU v1 v2 0 0 M
def l_R_run_68 (k : Int32 → Int32 → Sto → Option (Int32 × Sto)) : Nat → Int32 → Int32 → Int32 → Sto → Option (Int32 × Sto)
  | 0, _, _, _, _ => none
  | n + 1, v1, v2, v3, M =>
  if 130 ≤ v3 then (k v1 v2 M) else (if ok v3 130 then ((wr (up2 M 29 v3.toNatClampNeg 0) fun M11 => ((l_R_run_68 k n) v1 v2 (v3 + 1) M11))) else none)
def j_R_run_37 (s0 v1 v2 : Int32) (M : Sto) : Option (Int32 × Sto) :=
  (m_R_fails s0 2 M).bind fun o2 => if o2.1 = 0 then (wr (up2 o2.2 0 35 0) fun M3 => wr (up2 M3 0 37 0) fun M4 => wr (up2 M4 0 38 0) fun M5 => wr (up2 M5 0 34 0) fun M6 => l_R_run_68 (j_R_run_88) FU v1 v2 0 M6) else (j_R_run_44 o2.2)
def j_R_run_17 (s0 v1 v2 : Int32) (M : Sto) : Option (Int32 × Sto) :=
  (m_R_fails s0 1 M).bind fun o1 => if o1.1 = 0 then (if (o1.2 0 11) = 0 then (j_R_run_37 1 v1 v2 o1.2) else (j_R_run_37 0 v1 v2 o1.2)) else (j_R_run_44 o1.2)
def j_R_run_12 (v1 v2 : Int32) (M : Sto) : Option (Int32 × Sto) :=
  j_R_run_17 1 v1 v2 M
def m_R_run (x1 x2 : Int32) (M : Sto) : Option (Int32 × Sto) :=
  if x2 < 0 then (j_R_run_12 x1 x2 M) else (if x2 ≤ 200 then (j_R_run_17 0 x1 x2 M) else (j_R_run_12 x1 x2 M))
def m_R_told (M : Sto) : Option (Int32 × Sto) :=
  wr (up2 M 0 0 0) fun M1 => some (M1 0 35, M1)
def j_R_heard_41 (s0 : Int32) (M : Sto) : Option (Int32 × Sto) :=
  some (s0, M)
def j_R_heard_24 (s0 v1 : Int32) (M : Sto) : Option (Int32 × Sto) :=
  (m_R_fails s0 1 M).bind fun o1 => if o1.1 = 0 then (if ok v1 40 then (j_R_heard_41 (o1.2 28 v1.toNatClampNeg) o1.2) else none) else (j_R_heard_41 0 o1.2)
def j_R_heard_19 (v1 : Int32) (M : Sto) : Option (Int32 × Sto) :=
  j_R_heard_24 1 v1 M
def m_R_heard (x1 : Int32) (M : Sto) : Option (Int32 × Sto) :=
  if x1 < 0 then (j_R_heard_19 x1 M) else (if (M 0 35) ≤ x1 then (j_R_heard_19 x1 M) else (if x1 < 40 then (j_R_heard_24 0 x1 M) else (j_R_heard_19 x1 M)))
def j_R_spent_41 (s0 : Int32) (M : Sto) : Option (Int32 × Sto) :=
  some (s0, M)
def m_R_spent (x1 : Int32) (M : Sto) : Option (Int32 × Sto) :=
  wr (up2 M 0 0 0) fun M1 => if x1 = 0 then (j_R_spent_41 (M1 0 37) M1) else (if x1 = 1 then (j_R_spent_41 (M1 0 38) M1) else (if x1 = 2 then (j_R_spent_41 (M1 0 34) M1) else (j_R_spent_41 (-1) M1)))
