theorem ar_of {args : Array Value} {s : State} {ty : FieldType} (hp : ∀ C, ty ≠ .object C) (h : (Cond.arrayClass ty).before args s = true) : ∃ cA : ClassId, ArrOfT s cA ty ∧ va_RA s cA ty := by
  obtain ⟨cA, kA, comp, h1, h2, h3⟩ := Cond.arrayClass_spec (args := args) (first := s) (o := none) (s := s) (idx := []) h
  refine ⟨cA, fun n z => ⟨fun k h => (by cases h), kA, h2, comp, h3⟩, ?_⟩
  cases ty with
  | object C => exact absurd rfl (hp C)
  | _ => exact h1
theorem ao_of {args : Array Value} {s : State} {C : String} (h : (Cond.arrayOver (.object C)).before args s = true) : ∃ cA : ClassId, ArrOfT s cA (.object C) ∧ va_RA s cA (.object C) := by
  obtain ⟨comp, cA, kA, h1, h2, h3, h4, h5⟩ := Cond.arrayOver_spec (args := args) (first := s) (o := none) (s := s) (idx := []) h
  exact ⟨cA, fun n z => ⟨fun k h => (by cases h), kA, h3, comp, h4⟩, kA, comp, h3, h4, h1, h5⟩
theorem st_K {args : Array Value} {s : State} (hts : ∀ w ∈ lw_tbl, w.before args s = true) : ∃ (D : va_G) (cA : Nat → ClassId), va_K D vwCl [(cA 0, .byte), (cA 1, .int), (cA 2, .long), (cA 3, .short), (cA 4, .boolean), (cA 5, .object "DriftDesk$Flow"), (cA 6, .object "java/lang/Object")] s := by
  obtain ⟨c0, i0, k0⟩ := u_known (C := RJx4a65c) (T := TJx4a65c) (N := 3) (n := 3) hts li_wsJx4a65c0 (hts (.instantiable RJx4a65c 3) (lt_1 (List.mem_of_getElem? (i := 90) rfl)))
  obtain ⟨c1, i1, k1⟩ := u_known (C := RX0) (T := TX0) (N := 6) (n := 6) hts li_wsX00 (hts (.instantiable RX0 6) (lt_4 (List.mem_of_getElem? (i := 21) rfl)))
  obtain ⟨c2, i2, k2⟩ := u_known (C := RX1) (T := TX1) (N := 3) (n := 3) hts li_wsX10 (hts (.instantiable RX1 3) (lt_1 (List.mem_of_getElem? (i := 154) rfl)))
  obtain ⟨c3, i3, k3⟩ := u_known (C := RX3) (T := TX3) (N := 6) (n := 6) hts li_wsX30 (hts (.instantiable RX3 6) (lt_1 (List.mem_of_getElem? (i := 148) rfl)))
  obtain ⟨c4, i4, k4⟩ := u_known (C := RX4) (T := TX4) (N := 4) (n := 4) hts li_wsX40 (hts (.instantiable RX4 4) (lt_1 (List.mem_of_getElem? (i := 48) rfl)))
  obtain ⟨c5, i5, k5⟩ := u_known (C := RX5) (T := TX5) (N := 8) (n := 8) hts li_wsX50 (hts (.instantiable RX5 8) (lt_3 (List.mem_of_getElem? (i := 219) rfl)))
  obtain ⟨c6, i6, k6⟩ := u_known (C := RX6) (T := TX6) (N := 8) (n := 8) hts li_wsX60 (hts (.instantiable RX6 8) (lt_1 (List.mem_of_getElem? (i := 116) rfl)))
  obtain ⟨c7, i7, k7⟩ := u_known (C := RX7) (T := TX7) (N := 6) (n := 6) hts li_wsX70 (hts (.instantiable RX7 6) (lt_3 (List.mem_of_getElem? (i := 99) rfl)))
  obtain ⟨c8, i8, k8⟩ := u_known (C := RX8) (T := TX8) (N := 2) (n := 2) hts li_wsX80 (hts (.instantiable RX8 2) (lt_1 (List.mem_of_getElem? (i := 34) rfl)))
  obtain ⟨c9, i9, k9⟩ := u_known (C := RX9) (T := TX9) (N := 5) (n := 5) hts li_wsX90 (hts (.instantiable RX9 5) (lt_1 (List.mem_of_getElem? (i := 54) rfl)))
  obtain ⟨c10, i10, k10⟩ := u_known (C := RX10) (T := TX10) (N := 9) (n := 9) hts li_wsX100 (hts (.instantiable RX10 9) (lt_1 (List.mem_of_getElem? (i := 26) rfl)))
  obtain ⟨c11, i11, k11⟩ := u_known (C := RX11) (T := TX11) (N := 45) (n := 45) hts li_wsX110 (hts (.instantiable RX11 45) (lt_4 (List.mem_of_getElem? (i := 184) rfl)))
  obtain ⟨a0, r0, s0⟩ := ar_of (ty := .byte) (fun _ h => by cases h) (hts (.arrayClass .byte) (lt_1 (List.mem_of_getElem? (i := 46) rfl)))
  obtain ⟨a1, r1, s1⟩ := ar_of (ty := .int) (fun _ h => by cases h) (hts (.arrayClass .int) (lt_1 (List.mem_of_getElem? (i := 75) rfl)))
  obtain ⟨a2, r2, s2⟩ := ar_of (ty := .long) (fun _ h => by cases h) (hts (.arrayClass .long) (lt_1 (List.mem_of_getElem? (i := 146) rfl)))
  obtain ⟨a3, r3, s3⟩ := ar_of (ty := .short) (fun _ h => by cases h) (hts (.arrayClass .short) (lt_3 (List.mem_of_getElem? (i := 123) rfl)))
  obtain ⟨a4, r4, s4⟩ := ar_of (ty := .boolean) (fun _ h => by cases h) (hts (.arrayClass .boolean) (lt_1 (List.mem_of_getElem? (i := 169) rfl)))
  obtain ⟨a5, r5, s5⟩ := ao_of (hts (.arrayOver (.object "DriftDesk$Flow")) (lt_1 (List.mem_of_getElem? (i := 170) rfl)))
  obtain ⟨a6, r6, s6⟩ := ao_of (hts (.arrayOver (.object "java/lang/Object")) (lt_3 (List.mem_of_getElem? (i := 173) rfl)))
  refine ⟨(fun k => ([c0, c1, c2, c3, c4, c5, c6, c7, c8, c9, c10, c11] : List ClassId).getD k c0, fun k => ([i0, i1, i2, i3, i4, i5, i6, i7, i8, i9, i10, i11] : List (Nat → Nat)).getD k i0), fun k => ([a0, a1, a2, a3, a4, a5, a6] : List ClassId).getD k a0, fun k q hq => ?_, fun k q hq => ?_⟩
  · match k, hq with
    | 0, hq => cases hq; exact k0
    | 1, hq => cases hq; exact k1
    | 2, hq => cases hq; exact k2
    | 3, hq => cases hq; exact k3
    | 4, hq => cases hq; exact k4
    | 5, hq => cases hq; exact k5
    | 6, hq => cases hq; exact k6
    | 7, hq => cases hq; exact k7
    | 8, hq => cases hq; exact k8
    | 9, hq => cases hq; exact k9
    | 10, hq => cases hq; exact k10
    | 11, hq => cases hq; exact k11
    | k + 12, hq => simp [vwCl] at hq
  · match k, hq with
    | 0, hq => cases hq; exact ⟨r0, s0⟩
    | 1, hq => cases hq; exact ⟨r1, s1⟩
    | 2, hq => cases hq; exact ⟨r2, s2⟩
    | 3, hq => cases hq; exact ⟨r3, s3⟩
    | 4, hq => cases hq; exact ⟨r4, s4⟩
    | 5, hq => cases hq; exact ⟨r5, s5⟩
    | 6, hq => cases hq; exact ⟨r6, s6⟩
    | k + 7, hq => simp at hq
theorem nm_in : ∀ q ∈ nestM, Cond.methodLinkNest q.1 q.2.1 q.2.2.1 q.2.2.2 ∈ lw_tbl := List.forall_mem_cons.mpr ⟨lt_1 (List.mem_of_getElem? (i := 35) rfl), List.forall_mem_cons.mpr ⟨lt_1 (List.mem_of_getElem? (i := 117) rfl), List.forall_mem_cons.mpr ⟨lt_1 (List.mem_of_getElem? (i := 155) rfl), List.forall_mem_cons.mpr ⟨lt_2 (List.mem_of_getElem? (i := 162) rfl), List.forall_mem_cons.mpr ⟨lt_2 (List.mem_of_getElem? (i := 181) rfl), List.forall_mem_cons.mpr ⟨lt_2 (List.mem_of_getElem? (i := 188) rfl), List.forall_mem_cons.mpr ⟨lt_2 (List.mem_of_getElem? (i := 195) rfl), List.forall_mem_cons.mpr ⟨lt_2 (List.mem_of_getElem? (i := 202) rfl), List.forall_mem_cons.mpr ⟨lt_2 (List.mem_of_getElem? (i := 226) rfl), List.forall_mem_cons.mpr ⟨lt_3 (List.mem_of_getElem? (i := 30) rfl), List.forall_mem_cons.mpr ⟨lt_3 (List.mem_of_getElem? (i := 49) rfl), List.forall_mem_cons.mpr ⟨lt_3 (List.mem_of_getElem? (i := 52) rfl), List.forall_mem_cons.mpr ⟨lt_3 (List.mem_of_getElem? (i := 198) rfl), List.forall_mem_cons.mpr ⟨lt_3 (List.mem_of_getElem? (i := 223) rfl), List.forall_mem_cons.mpr ⟨lt_4 (List.mem_of_getElem? (i := 25) rfl), List.forall_mem_cons.mpr ⟨lt_4 (List.mem_of_getElem? (i := 95) rfl), List.forall_mem_cons.mpr ⟨lt_4 (List.mem_of_getElem? (i := 96) rfl), fun _ h => absurd h List.not_mem_nil⟩⟩⟩⟩⟩⟩⟩⟩⟩⟩⟩⟩⟩⟩⟩⟩⟩
theorem cs_in : ∀ q ∈ castC, Cond.castable q.1 q.2 ∈ lw_tbl := List.forall_mem_cons.mpr ⟨lt_6 (List.mem_of_getElem? (i := 96) rfl), List.forall_mem_cons.mpr ⟨lt_6 (List.mem_of_getElem? (i := 97) rfl), List.forall_mem_cons.mpr ⟨lt_6 (List.mem_of_getElem? (i := 98) rfl), List.forall_mem_cons.mpr ⟨lt_6 (List.mem_of_getElem? (i := 99) rfl), List.forall_mem_cons.mpr ⟨lt_6 (List.mem_of_getElem? (i := 100) rfl), List.forall_mem_cons.mpr ⟨lt_6 (List.mem_of_getElem? (i := 101) rfl), List.forall_mem_cons.mpr ⟨lt_6 (List.mem_of_getElem? (i := 102) rfl), List.forall_mem_cons.mpr ⟨lt_6 (List.mem_of_getElem? (i := 103) rfl), List.forall_mem_cons.mpr ⟨lt_6 (List.mem_of_getElem? (i := 104) rfl), List.forall_mem_cons.mpr ⟨lt_6 (List.mem_of_getElem? (i := 105) rfl), List.forall_mem_cons.mpr ⟨lt_6 (List.mem_of_getElem? (i := 106) rfl), List.forall_mem_cons.mpr ⟨lt_6 (List.mem_of_getElem? (i := 107) rfl), List.forall_mem_cons.mpr ⟨lt_6 (List.mem_of_getElem? (i := 108) rfl), List.forall_mem_cons.mpr ⟨lt_6 (List.mem_of_getElem? (i := 109) rfl), List.forall_mem_cons.mpr ⟨lt_6 (List.mem_of_getElem? (i := 110) rfl), List.forall_mem_cons.mpr ⟨lt_6 (List.mem_of_getElem? (i := 114) rfl), List.forall_mem_cons.mpr ⟨lt_6 (List.mem_of_getElem? (i := 115) rfl), List.forall_mem_cons.mpr ⟨lt_6 (List.mem_of_getElem? (i := 116) rfl), List.forall_mem_cons.mpr ⟨lt_6 (List.mem_of_getElem? (i := 117) rfl), List.forall_mem_cons.mpr ⟨lt_6 (List.mem_of_getElem? (i := 118) rfl), List.forall_mem_cons.mpr ⟨lt_6 (List.mem_of_getElem? (i := 119) rfl), List.forall_mem_cons.mpr ⟨lt_6 (List.mem_of_getElem? (i := 120) rfl), fun _ h => absurd h List.not_mem_nil⟩⟩⟩⟩⟩⟩⟩⟩⟩⟩⟩⟩⟩⟩⟩⟩⟩⟩⟩⟩⟩⟩
set_option maxRecDepth 20000 in
theorem nw_ex : ∀ i, i < 5 → Cond.exactly (Term.string RX4 (skI.getD i 0)) "java/lang/String" ∈ flatC (Jvm.Cond.and given_1 narrow_1) := by decide +kernel
set_option maxRecDepth 20000 in
theorem nw_co : ∀ i, i < 5 → Cond.eq (.field (Term.string RX4 (skI.getD i 0)) "java/lang/String" "coder" "B") (.int 0) ∈ flatC (Jvm.Cond.and given_1 narrow_1) := by decide +kernel
set_option maxRecDepth 20000 in
theorem nw_ar : ∀ i, i < 5 → Cond.arrayOf (Term.field (Term.string RX4 (skI.getD i 0)) "java/lang/String" "value" "[B") .byte ∈ flatC (Jvm.Cond.and given_1 narrow_1) := by decide +kernel
set_option maxRecDepth 20000 in
theorem nw_le : ∀ i, i < 5 → Cond.eq (.length (Term.field (Term.string RX4 (skI.getD i 0)) "java/lang/String" "value" "[B")) (.int (Int32.ofNat (skL.getD i 0))) ∈ flatC (Jvm.Cond.and given_1 narrow_1) := by decide +kernel
set_option maxRecDepth 20000 in
theorem nw_el : ∀ i, i < 5 → ∀ j, j < skL.getD i 0 → Cond.eq (.elem (Term.field (Term.string RX4 (skI.getD i 0)) "java/lang/String" "value" "[B") (.int (Int32.ofNat j))) (.int ((skB.getD i []).getD j 0)) ∈ flatC (Jvm.Cond.and given_1 narrow_1) := by decide +kernel
set_option maxRecDepth 20000 in
theorem nw_ne : ∀ i, i < 5 → ∀ j, j < 5 → i ≠ j → Cond.not (Cond.eq (Term.string RX4 (skI.getD i 0)) (Term.string RX4 (skI.getD j 0))) ∈ flatC (Jvm.Cond.and given_1 narrow_1) ∨ Cond.not (Cond.eq (Term.string RX4 (skI.getD j 0)) (Term.string RX4 (skI.getD i 0))) ∈ flatC (Jvm.Cond.and given_1 narrow_1) := by decide +kernel
set_option maxRecDepth 20000 in
theorem nw_aNUMBERS : Cond.arrayOf (Term.static RX4 "NUMBERS" "[I") .int ∈ flatC (Jvm.Cond.and given_1 narrow_1) := by decide +kernel
set_option maxRecDepth 20000 in
theorem nw_lNUMBERS : Cond.eq (.length (Term.static RX4 "NUMBERS" "[I")) (.int (Int32.ofNat 5)) ∈ flatC (Jvm.Cond.and given_1 narrow_1) := by decide +kernel
set_option maxRecDepth 20000 in
theorem nw_eNUMBERS : ∀ j, j < 5 → Cond.eq (.elem (Term.static RX4 "NUMBERS" "[I") (.int (Int32.ofNat j))) (.int (skNUMBERS.getD j 0)) ∈ flatC (Jvm.Cond.and given_1 narrow_1) := by decide +kernel
set_option maxRecDepth 20000 in
theorem nw_aTELLING : Cond.arrayOf (Term.static RX4 "TELLING" "[I") .int ∈ flatC (Jvm.Cond.and given_1 narrow_1) := by decide +kernel
set_option maxRecDepth 20000 in
theorem nw_lTELLING : Cond.eq (.length (Term.static RX4 "TELLING" "[I")) (.int (Int32.ofNat 5)) ∈ flatC (Jvm.Cond.and given_1 narrow_1) := by decide +kernel
set_option maxRecDepth 20000 in
theorem nw_eTELLING : ∀ j, j < 5 → Cond.eq (.elem (Term.static RX4 "TELLING" "[I") (.int (Int32.ofNat j))) (.int (skTELLING.getD j 0)) ∈ flatC (Jvm.Cond.and given_1 narrow_1) := by decide +kernel
set_option maxRecDepth 20000 in
theorem nw_aLEAST : Cond.arrayOf (Term.static RX4 "LEAST" "[I") .int ∈ flatC (Jvm.Cond.and given_1 narrow_1) := by decide +kernel
set_option maxRecDepth 20000 in
theorem nw_lLEAST : Cond.eq (.length (Term.static RX4 "LEAST" "[I")) (.int (Int32.ofNat 20)) ∈ flatC (Jvm.Cond.and given_1 narrow_1) := by decide +kernel
set_option maxRecDepth 20000 in
theorem nw_eLEAST : ∀ j, j < 20 → Cond.eq (.elem (Term.static RX4 "LEAST" "[I") (.int (Int32.ofNat j))) (.int (skLEAST.getD j 0)) ∈ flatC (Jvm.Cond.and given_1 narrow_1) := by decide +kernel
set_option maxRecDepth 20000 in
theorem nw_aMOST : Cond.arrayOf (Term.static RX4 "MOST" "[I") .int ∈ flatC (Jvm.Cond.and given_1 narrow_1) := by decide +kernel
set_option maxRecDepth 20000 in
theorem nw_lMOST : Cond.eq (.length (Term.static RX4 "MOST" "[I")) (.int (Int32.ofNat 20)) ∈ flatC (Jvm.Cond.and given_1 narrow_1) := by decide +kernel
set_option maxRecDepth 20000 in
theorem nw_eMOST : ∀ j, j < 20 → Cond.eq (.elem (Term.static RX4 "MOST" "[I") (.int (Int32.ofNat j))) (.int (skMOST.getD j 0)) ∈ flatC (Jvm.Cond.and given_1 narrow_1) := by decide +kernel
set_option maxRecDepth 20000 in
theorem nw_aEM : Cond.arrayOf (Term.static "java/util/ArrayList" "DEFAULTCAPACITY_EMPTY_ELEMENTDATA" "[Ljava/lang/Object;") (.object "java/lang/Object") ∈ flatC (Jvm.Cond.and given_1 narrow_1) := by decide +kernel
set_option maxRecDepth 20000 in
theorem nw_lEM : Cond.eq (.length (Term.static "java/util/ArrayList" "DEFAULTCAPACITY_EMPTY_ELEMENTDATA" "[Ljava/lang/Object;")) (.int (Int32.ofNat 0)) ∈ flatC (Jvm.Cond.and given_1 narrow_1) := by decide +kernel
set_option maxRecDepth 20000 in
theorem nw_cs : Cond.eq (.static "java/lang/String" "COMPACT_STRINGS" "Z") (.int 1) ∈ flatC (Jvm.Cond.and given_1 narrow_1) := by decide +kernel
set_option maxRecDepth 20000 in
theorem nw_si : Cond.isRef (.static "jdk/internal/util/Preconditions" "SIOOBE_FORMATTER" "Ljava/util/function/BiFunction;") ∈ flatC (Jvm.Cond.and given_1 narrow_1) := by decide +kernel
set_option maxRecDepth 20000 in
theorem nw_mi : Cond.isRef (.mirror "[Ljava/lang/Object;") ∈ flatC (Jvm.Cond.and given_1 narrow_1) := by decide +kernel
theorem st_En {b : Nat} {s : State} (hts : ∀ w ∈ lw_tbl, w.before #[Value.ref b] s = true) (hgv : (Jvm.Cond.and given_1 narrow_1).before #[Value.ref b] s = true) (D : va_G) (cA : Nat → ClassId) : ∃ G : Gh, G.1 = D ∧ G.2.1 = cA ∧ En G (fun q : Nat => s.heap.size ≤ q) s s.heap := by
  have hA : ∀ a : Nat, a < s.heap.size → ¬ (fun q : Nat => s.heap.size ≤ q) a := fun a h => Nat.not_le.mpr h
  have hs := flat_of_before _ hgv
  obtain ⟨adK, adV, hS, hV⟩ := vk_Sof (args := #[Value.ref b]) (s := s) (N := 5) (tm := fun i => (Term.string RX4 (skI.getD i 0))) (len := skL) (byt := skB) (A := (fun q : Nat => s.heap.size ≤ q)) (by decide) (fun i hi => hs _ (nw_ex i hi)) (fun i hi => hs _ (nw_co i hi)) (fun i hi => hs _ (nw_ar i hi)) (fun i hi => hs _ (nw_le i hi)) (fun i hi j hj => hs _ (nw_el i hi j hj)) (fun i j hi hj hn => (nw_ne i hi j hj hn).imp (hs _) (hs _)) hA
  obtain ⟨tNUMBERS, eNUMBERS, TNUMBERS⟩ := va_Tof (args := #[Value.ref b]) (s := s) (tm := (Term.static RX4 "NUMBERS" "[I")) (ty := .int) (N := 5) (f := fun j => .int (skNUMBERS.getD j 0)) (A := (fun q : Nat => s.heap.size ≤ q)) (by decide) (hs _ nw_aNUMBERS) (va_eqt (hs _ nw_lNUMBERS)) (fun j hj => va_eqt (hs _ (nw_eNUMBERS j hj))) hA
  have ZNUMBERS := va_Zref (A := (fun q : Nat => s.heap.size ≤ q)) (hts (.laysStatic RX4 "NUMBERS" "[I") (lt_2 (List.mem_of_getElem? (i := 149) rfl))) (hts (.initialized RX4) (lt_1 (List.mem_of_getElem? (i := 3) rfl))) eNUMBERS hA
  obtain ⟨tTELLING, eTELLING, TTELLING⟩ := va_Tof (args := #[Value.ref b]) (s := s) (tm := (Term.static RX4 "TELLING" "[I")) (ty := .int) (N := 5) (f := fun j => .int (skTELLING.getD j 0)) (A := (fun q : Nat => s.heap.size ≤ q)) (by decide) (hs _ nw_aTELLING) (va_eqt (hs _ nw_lTELLING)) (fun j hj => va_eqt (hs _ (nw_eTELLING j hj))) hA
  have ZTELLING := va_Zref (A := (fun q : Nat => s.heap.size ≤ q)) (hts (.laysStatic RX4 "TELLING" "[I") (lt_2 (List.mem_of_getElem? (i := 164) rfl))) (hts (.initialized RX4) (lt_1 (List.mem_of_getElem? (i := 3) rfl))) eTELLING hA
  obtain ⟨tLEAST, eLEAST, TLEAST⟩ := va_Tof (args := #[Value.ref b]) (s := s) (tm := (Term.static RX4 "LEAST" "[I")) (ty := .int) (N := 20) (f := fun j => .int (skLEAST.getD j 0)) (A := (fun q : Nat => s.heap.size ≤ q)) (by decide) (hs _ nw_aLEAST) (va_eqt (hs _ nw_lLEAST)) (fun j hj => va_eqt (hs _ (nw_eLEAST j hj))) hA
  have ZLEAST := va_Zref (A := (fun q : Nat => s.heap.size ≤ q)) (hts (.laysStatic RX4 "LEAST" "[I") (lt_2 (List.mem_of_getElem? (i := 159) rfl))) (hts (.initialized RX4) (lt_1 (List.mem_of_getElem? (i := 3) rfl))) eLEAST hA
  obtain ⟨tMOST, eMOST, TMOST⟩ := va_Tof (args := #[Value.ref b]) (s := s) (tm := (Term.static RX4 "MOST" "[I")) (ty := .int) (N := 20) (f := fun j => .int (skMOST.getD j 0)) (A := (fun q : Nat => s.heap.size ≤ q)) (by decide) (hs _ nw_aMOST) (va_eqt (hs _ nw_lMOST)) (fun j hj => va_eqt (hs _ (nw_eMOST j hj))) hA
  have ZMOST := va_Zref (A := (fun q : Nat => s.heap.size ≤ q)) (hts (.laysStatic RX4 "MOST" "[I") (lt_2 (List.mem_of_getElem? (i := 161) rfl))) (hts (.initialized RX4) (lt_1 (List.mem_of_getElem? (i := 3) rfl))) eMOST hA
  obtain ⟨tEM, eEM, TEM⟩ := va_Tof (args := #[Value.ref b]) (s := s) (tm := (Term.static "java/util/ArrayList" "DEFAULTCAPACITY_EMPTY_ELEMENTDATA" "[Ljava/lang/Object;")) (ty := .object "java/lang/Object") (N := 0) (f := fun _ => .null) (A := (fun q : Nat => s.heap.size ≤ q)) (by decide) (hs _ nw_aEM) (va_eqt (hs _ nw_lEM)) (fun j hj => absurd hj (Nat.not_lt_zero _)) hA
  have ZEM := va_Zref (A := (fun q : Nat => s.heap.size ≤ q)) (hts (.laysStatic "java/util/ArrayList" "DEFAULTCAPACITY_EMPTY_ELEMENTDATA" "[Ljava/lang/Object;") (lt_1 (List.mem_of_getElem? (i := 102) rfl))) (hts (.initialized "java/util/ArrayList") (lt_1 (List.mem_of_getElem? (i := 7) rfl))) eEM hA
  have ZCS := va_Zof (A := (fun q : Nat => s.heap.size ≤ q)) (hts (.laysStatic "java/lang/String" "COMPACT_STRINGS" "Z") (lt_2 (List.mem_of_getElem? (i := 101) rfl))) (hts (.initialized "java/lang/String") (lt_1 (List.mem_of_getElem? (i := 12) rfl))) (va_eqt (hs _ nw_cs)) hA
  have ZSI := va_Zqof (A := (fun q : Nat => s.heap.size ≤ q)) (hts (.laysStatic "jdk/internal/util/Preconditions" "SIOOBE_FORMATTER" "Ljava/util/function/BiFunction;") (lt_2 (List.mem_of_getElem? (i := 117) rfl))) (hts (.initialized "jdk/internal/util/Preconditions") (lt_1 (List.mem_of_getElem? (i := 14) rfl))) (hs _ nw_si) hA
  obtain ⟨mi, hMi⟩ := va_Mi.of (hs _ nw_mi)
  have hR : ∀ i : Nat, i < 5 → (Cond.stringRef RX4 (skI.getD i 0) (skT.getD i "")).before #[Value.ref b] s = true := al_s (al_s (al_s (al_s (al_s (al_0) (hts _ (lt_2 (List.mem_of_getElem? (i := 87) rfl)))) (hts _ (lt_2 (List.mem_of_getElem? (i := 140) rfl)))) (hts _ (lt_2 (List.mem_of_getElem? (i := 141) rfl)))) (hts _ (lt_2 (List.mem_of_getElem? (i := 142) rfl)))) (hts _ (lt_2 (List.mem_of_getElem? (i := 143) rfl)))
  refine ⟨(D, cA, adK, adV, fun k => ([tNUMBERS, tTELLING, tLEAST, tMOST, tEM, mi] : List Nat).getD k 0), rfl, rfl, ?_⟩
  exact ⟨fun q hq => va_Nw.of rfl (hts _ (nm_in q hq)), fun q hq => va_Nw.of rfl (hts _ (cs_in q hq)), ⟨va_Nw.of rfl (hts (.declares ⟨"DriftDesk$Proof", "weighing", "(LDriftDesk$Tale;LDriftDesk$Sea;)I"⟩) (lt_4 (List.mem_of_getElem? (i := 73) rfl))), va_Dc.of (hts (.declares ⟨"java/lang/Object", "getClass", "()Ljava/lang/Class;"⟩) (lt_6 (List.mem_of_getElem? (i := 113) rfl))), va_AO.of (hts (.arrayOver (.object "DriftDesk$Flow")) (lt_1 (List.mem_of_getElem? (i := 170) rfl))), va_AO.of (hts (.arrayOver (.object "java/lang/Object")) (lt_3 (List.mem_of_getElem? (i := 173) rfl))), hMi⟩, ⟨hS, fun i hi => vk_R.of (hR i hi) (hV i hi)⟩, ⟨ZNUMBERS, TNUMBERS⟩, ⟨ZTELLING, TTELLING⟩, ⟨ZLEAST, TLEAST⟩, ⟨ZMOST, TMOST⟩, ⟨ZEM, TEM⟩, ZCS, ZSI⟩
