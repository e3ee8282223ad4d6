set_option maxHeartbeats 4000000 in
set_option maxRecDepth 100000 in
theorem law_known {s : State} {b : Nat} (hts : ∀ w ∈ lw_tbl, w.before #[Value.ref b] s = true) (hgv : (Jvm.Cond.and given_1 narrow_1).before #[Value.ref b] s = true) : ∃ (D : va_G) (ct : Nat → ClassId), va_K D vCl (tyZ ct) s ∧ Kx s := by
  have hw : ∀ w ∈ wT, w.before #[Value.ref b] s = true := fun w h => hts w (wT_tbl w h)
  have hs := flat_of_before _ hgv
  obtain ⟨cN, iN, kN⟩ := u_known hw inN (hw _ wd_18)
  obtain ⟨cP, iP, kP⟩ := u_known hw inP (hw _ wd_26)
  obtain ⟨cS, iS, kS⟩ := u_known hw inS (hw _ wd_95)
  obtain ⟨cG, iG, kG⟩ := u_known hw inG (hw _ wd_138)
  obtain ⟨cK, iK, kK⟩ := u_known hw inK (hw _ wd_219)
  obtain ⟨cD, iD, kD⟩ := u_known hw inD (hw _ wd_257)
  obtain ⟨cA, iA, kA⟩ := u_known hw inA (hw _ wd_285)
  obtain ⟨cR, iR, kR⟩ := u_known hw inR (hw _ wd_823)
  obtain ⟨eI, fI, gI, xI, yI, zI⟩ := Cond.arrayClass_spec (hw _ wd_93)
  obtain ⟨eB, fB, gB, xB, yB, zB⟩ := Cond.arrayClass_spec (hw _ wd_283)
  obtain ⟨eJ, fJ, gJ, xJ, yJ, zJ⟩ := Cond.arrayClass_spec (hw _ wd_1162)
  obtain ⟨gY, eY, fY, uY, iY, yY, zY, xY⟩ := ow_over (hts _ wz_32)
  have hcur : s.vm.findClass "NameForge" = some cN := kN.2.1
  have key : ∀ (k : Nat) (tx : String), (Cond.stringRef "NameForge" k tx).before #[Value.ref b] s = true → ∃ a : Nat, vk_R "NameForge" k tx a s := by
    intro k tx h
    obtain ⟨-, -, -, sa, -, -, -, -, -, hev⟩ := Cond.stringRef_spec hcur h
    exact ⟨sa, vk_R.of h hev⟩
  refine ⟨(fun c => match c with | 0 => cN | 1 => cP | 2 => cS | 3 => cG | 4 => cK | 5 => cD | 6 => cA | _ => cR, fun c => match c with | 0 => iN | 1 => iP | 2 => iS | 3 => iG | 4 => iK | 5 => iD | 6 => iA | _ => iR), (fun k => match k with | 0 => eI | 1 => eB | 2 => eJ | _ => eY), ⟨?_, ?_⟩, ?_⟩
  · intro c q hq
    match c, hq with
    | 0, hq => cases hq; exact kN
    | 1, hq => cases hq; exact kP
    | 2, hq => cases hq; exact kS
    | 3, hq => cases hq; exact kG
    | 4, hq => cases hq; exact kK
    | 5, hq => cases hq; exact kD
    | 6, hq => cases hq; exact kA
    | 7, hq => cases hq; exact kR
  · intro k q hq
    match k, hq with
    | 0, hq => cases hq; exact ⟨fun n z => ⟨fun k h => (by cases h), fI, yI, gI, zI⟩, xI⟩
    | 1, hq => cases hq; exact ⟨fun n z => ⟨fun k h => (by cases h), fB, yB, gB, zB⟩, xB⟩
    | 2, hq => cases hq; exact ⟨fun n z => ⟨fun k h => (by cases h), fJ, yJ, gJ, zJ⟩, xJ⟩
    | 3, hq => cases hq; exact ⟨fun n z => ⟨fun k h => (by cases h), fY, yY, gY, zY⟩, xY⟩
  · refine ⟨hts _ wz_32, fun x hx => ?_, st_Z.of (hts _ wz_420) (hs _ (by decide +kernel)), st_Z.of (hts _ wz_422) (hs _ (by decide +kernel)), fun x hx => ?_, fun x hx => ?_, fun x hx => ?_, fun x hx => ?_⟩
    · simp only [strs, List.mem_cons, List.not_mem_nil, or_false] at hx
      rcases hx with rfl | rfl | rfl | rfl | rfl | rfl | rfl | rfl | rfl | rfl | rfl | rfl | rfl | rfl
      · exact key _ _ (hts _ wz_434)
      · exact key _ _ (hts _ wz_505)
      · exact key _ _ (hts _ wz_512)
      · exact key _ _ (hts _ wz_529)
      · exact key _ _ (hts _ wz_538)
      · exact key _ _ (hts _ wz_546)
      · exact key _ _ (hts _ wz_554)
      · exact key _ _ (hts _ wz_705)
      · exact key _ _ (hts _ wz_712)
      · exact key _ _ (hts _ wz_735)
      · exact key _ _ (hts _ wz_747)
      · exact key _ _ (hts _ wz_755)
      · exact key _ _ (hts _ wz_763)
      · exact key _ _ (hts _ wz_821)
    · simp only [ncs, List.mem_cons, List.not_mem_nil, or_false] at hx
      rcases hx with rfl | rfl | rfl | rfl | rfl | rfl
      · exact nc_moved (Vm.Alike.refl _) (hs (.not (.castable "java/lang/IllegalArgumentException" "java/lang/IllegalStateException")) (by decide +kernel))
      · exact nc_moved (Vm.Alike.refl _) (hs (.not (.castable "java/lang/IllegalArgumentException" "java/util/NoSuchElementException")) (by decide +kernel))
      · exact nc_moved (Vm.Alike.refl _) (hs (.not (.castable "java/lang/IllegalStateException" "java/lang/IllegalArgumentException")) (by decide +kernel))
      · exact nc_moved (Vm.Alike.refl _) (hs (.not (.castable "java/lang/IllegalStateException" "java/util/NoSuchElementException")) (by decide +kernel))
      · exact nc_moved (Vm.Alike.refl _) (hs (.not (.castable "java/util/NoSuchElementException" "java/lang/IllegalArgumentException")) (by decide +kernel))
      · exact nc_moved (Vm.Alike.refl _) (hs (.not (.castable "java/util/NoSuchElementException" "java/lang/IllegalStateException")) (by decide +kernel))
    · simp only [nests, List.mem_cons, List.not_mem_nil, or_false] at hx
      rcases hx with rfl | rfl | rfl | rfl | rfl | rfl | rfl | rfl | rfl | rfl | rfl | rfl | rfl | rfl | rfl | rfl | rfl | rfl
      · exact va_Nw.of rfl (hts _ wz_27)
      · exact va_Nw.of rfl (hts _ wz_563)
      · exact va_Nw.of rfl (hts _ wz_566)
      · exact va_Nw.of rfl (hts _ wz_574)
      · exact va_Nw.of rfl (hts _ wz_599)
      · exact va_Nw.of rfl (hts _ wz_600)
      · exact va_Nw.of rfl (hts _ wz_612)
      · exact va_Nw.of rfl (hts _ wz_625)
      · exact va_Nw.of rfl (hts _ wz_626)
      · exact va_Nw.of rfl (hts _ wz_632)
      · exact va_Nw.of rfl (hts _ wz_633)
      · exact va_Nw.of rfl (hts _ wz_654)
      · exact va_Nw.of rfl (hts _ wz_670)
      · exact va_Nw.of rfl (hts _ wz_777)
      · exact va_Nw.of rfl (hts _ wz_778)
      · exact va_Nw.of rfl (hts _ wz_791)
      · exact va_Nw.of rfl (hts _ wz_792)
      · exact va_Nw.of rfl (hts _ wz_809)
    · simp only [cas, List.mem_cons, List.not_mem_nil, or_false] at hx
      rcases hx with rfl | rfl | rfl
      · exact va_Nw.of rfl (hts _ wz_395)
      · exact va_Nw.of rfl (hts _ wz_498)
      · exact va_Nw.of rfl (hts _ wz_698)
    · simp only [dcl, List.mem_cons, List.not_mem_nil, or_false] at hx
      rcases hx with rfl | rfl | rfl | rfl | rfl | rfl
      · exact va_Nw.of rfl (hts _ wz_396)
      · exact va_Nw.of rfl (hts _ wz_397)
      · exact va_Nw.of rfl (hts _ wz_398)
      · exact va_Nw.of rfl (hts _ wz_399)
      · exact va_Nw.of rfl (hts _ wz_400)
      · exact va_Nw.of rfl (hts _ wz_401)
