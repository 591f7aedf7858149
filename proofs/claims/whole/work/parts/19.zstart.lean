/-! ===== the law's start ===== -/
theorem pws_tbl {w : Cond} (h : w ∈ PWS) : w ∈ lw_tbl := by rw [PWS_eq] at h; exact (List.mem_filter.mp h).1
theorem arr_known {ty : FieldType} {args : Array Value} {s : State} (h : (Cond.arrayClass ty).before args s = true) (hp : ∀ cI, s.vm.findClass ("[" ++ ty.toString) = some cI → va_RA s cI ty) : ∃ cI, ArrOfT s cI ty ∧ va_RA s cI ty := by
  obtain ⟨c, k, comp, h1, h2, h3⟩ := Cond.arrayClass_spec h
  exact ⟨c, fun n z => ⟨fun _ h => (by cases h), k, h2, comp, h3⟩, hp c h1⟩
theorem arr_knownA {ty : FieldType} {args : Array Value} {s : State} (h : (Cond.arrayOver (.array ty)).before args s = true) : ∃ cI, ArrOfT s cI (.array ty) ∧ va_RA s cI (.array ty) := by
  unfold Cond.before Cond.holds at h
  simp only [Cond.value] at h
  cases hc : s.vm.findClass (FieldType.array ty).toString with
  | none => rw [hc] at h; simp at h
  | some comp =>
    rw [hc, Option.bind_some] at h
    cases hx : (s.vm.classes.findIdx? fun (x : Class) => match x.kind with | .array component _ => component == comp | _ => false) with
    | none =>
      have h' := (congrArg (fun o : Option Nat => (o.bind (fun c => (s.vm.classes[c]?).map fun (k : Class) => match k.kind with | .array _ t9 => decide (t9 = FieldType.array ty) && decide (s.vm.findClass ("[" ++ (FieldType.array ty).toString) = some c) | _ => false) == some true)) hx).symm.trans h
      simp at h'
    | some c =>
      have h' := (congrArg (fun o : Option Nat => (o.bind (fun c => (s.vm.classes[c]?).map fun (k : Class) => match k.kind with | .array _ t9 => decide (t9 = FieldType.array ty) && decide (s.vm.findClass ("[" ++ (FieldType.array ty).toString) = some c) | _ => false) == some true)) hx).symm.trans h
      cases hk : s.vm.classes[c]? with
      | none => simp [hk] at h'
      | some k =>
        simp only [Option.bind_some, hk, Option.map_some, beq_iff_eq, Option.some.injEq] at h'
        cases hkk : k.kind with
        | array c2 t2 =>
          rw [hkk] at h'
          simp only [Bool.and_eq_true, decide_eq_true_eq] at h'
          obtain ⟨rfl, h2⟩ := h'
          exact ⟨c, fun n z => ⟨fun _ h => (by cases h), k, hk, c2, hkk⟩, h2⟩
        | _ => rw [hkk] at h'; simp at h'
theorem arr_knownO {C : String} {args : Array Value} {s : State} (h : (Cond.arrayOver (.object C)).before args s = true) : ∃ cI, ArrOfT s cI (.object C) ∧ va_RA s cI (.object C) := by
  obtain ⟨comp, c, k, h1, h2, h3, h4, h5⟩ := Cond.arrayOver_spec h
  exact ⟨c, fun n z => ⟨fun _ h => (by cases h), k, h3, comp, h4⟩, k, comp, h3, h4, h1, h5⟩
theorem str_known {args : Array Value} {s : State} {own tx : String} {k : Nat} (h1 : (Cond.stringRef own k tx).before args s = true) (h2 : (Cond.exactly (.string own k) "java/lang/String").before args s = true) : ∃ a, vk_R own k tx a s := by
  obtain ⟨a, c0, cell, k0, ha, -⟩ := Cond.exactly_spec h2
  exact ⟨a, vk_R.of h1 ha⟩
def ng : Cond := Jvm.Cond.and given_1 narrow_1
theorem fl_s85 : (Cond.exactly (.string "ReductionFinder" 85) "java/lang/String") ∈ flatC ng := by decide +kernel
theorem tb_s85 : lw_tbl[459]? = some (Cond.stringRef "ReductionFinder" 85 "a byte is not a character of a text") := by decide +kernel
theorem fl_s95 : (Cond.exactly (.string "ReductionFinder" 95) "java/lang/String") ∈ flatC ng := by decide +kernel
theorem tb_s95 : lw_tbl[495]? = some (Cond.stringRef "ReductionFinder" 95 "the buffer would have too many characters") := by decide +kernel
theorem fl_s109 : (Cond.exactly (.string "ReductionFinder" 109) "java/lang/String") ∈ flatC ng := by decide +kernel
theorem tb_s109 : lw_tbl[573]? = some (Cond.stringRef "ReductionFinder" 109 "the text has a fault") := by decide +kernel
theorem fl_s119 : (Cond.exactly (.string "ReductionFinder" 119) "java/lang/String") ∈ flatC ng := by decide +kernel
theorem tb_s119 : lw_tbl[603]? = some (Cond.stringRef "ReductionFinder" 119 "there are too many statements or nodes") := by decide +kernel
theorem fl_s132 : (Cond.exactly (.string "ReductionFinder" 132) "java/lang/String") ∈ flatC ng := by decide +kernel
theorem tb_s132 : lw_tbl[727]? = some (Cond.stringRef "ReductionFinder" 132 "there is no such mode") := by decide +kernel
theorem fl_s137 : (Cond.exactly (.string "ReductionFinder" 137) "java/lang/String") ∈ flatC ng := by decide +kernel
theorem tb_s137 : lw_tbl[735]? = some (Cond.stringRef "ReductionFinder" 137 "the number of iterations is out of range") := by decide +kernel
theorem fl_s256 : (Cond.exactly (.string "ReductionFinder" 256) "java/lang/String") ∈ flatC ng := by decide +kernel
theorem tb_s256 : lw_tbl[756]? = some (Cond.stringRef "ReductionFinder" 256 "there is no such array or index") := by decide +kernel
theorem fl_s146 : (Cond.exactly (.string "ReductionFinder" 146) "java/lang/String") ∈ flatC ng := by decide +kernel
theorem tb_s146 : lw_tbl[763]? = some (Cond.stringRef "ReductionFinder" 146 "the value is out of range") := by decide +kernel
theorem fl_s253 : (Cond.exactly (.string "ReductionFinder" 253) "java/lang/String") ∈ flatC ng := by decide +kernel
theorem tb_s253 : lw_tbl[790]? = some (Cond.stringRef "ReductionFinder" 253 "there is no such variable") := by decide +kernel
theorem fl_s260 : (Cond.exactly (.string "ReductionFinder" 260) "java/lang/String") ∈ flatC ng := by decide +kernel
theorem tb_s260 : lw_tbl[819]? = some (Cond.stringRef "ReductionFinder" 260 "the variable has no chain") := by decide +kernel
theorem fl_s263 : (Cond.exactly (.string "ReductionFinder" 263) "java/lang/String") ∈ flatC ng := by decide +kernel
theorem tb_s263 : lw_tbl[879]? = some (Cond.stringRef "ReductionFinder" 263 "no cursor is open") := by decide +kernel
theorem fl_s192 : (Cond.exactly (.string "ReductionFinder" 192) "java/lang/String") ∈ flatC ng := by decide +kernel
theorem tb_s192 : lw_tbl[897]? = some (Cond.stringRef "ReductionFinder" 192 "there is no further node") := by decide +kernel
theorem fl_s265 : (Cond.exactly (.string "ReductionFinder" 265) "java/lang/String") ∈ flatC ng := by decide +kernel
theorem tb_s265 : lw_tbl[921]? = some (Cond.stringRef "ReductionFinder" 265 "there is no such order") := by decide +kernel
theorem fl_s267 : (Cond.exactly (.string "ReductionFinder" 267) "java/lang/String") ∈ flatC ng := by decide +kernel
theorem tb_s267 : lw_tbl[922]? = some (Cond.stringRef "ReductionFinder" 267 "the width is out of range") := by decide +kernel
theorem fl_s272 : (Cond.exactly (.string "ReductionFinder" 272) "java/lang/String") ∈ flatC ng := by decide +kernel
theorem tb_s272 : lw_tbl[927]? = some (Cond.stringRef "ReductionFinder" 272 "a statement has an operator for ints only") := by decide +kernel
theorem fl_s274 : (Cond.exactly (.string "ReductionFinder" 274) "java/lang/String") ∈ flatC ng := by decide +kernel
theorem tb_s274 : lw_tbl[932]? = some (Cond.stringRef "ReductionFinder" 274 "the loop is not parallel") := by decide +kernel
theorem fl_s222 : (Cond.exactly (.string "ReductionFinder" 222) "java/lang/String") ∈ flatC ng := by decide +kernel
theorem tb_s222 : lw_tbl[1054]? = some (Cond.stringRef "ReductionFinder" 222 "no ints are kept as results") := by decide +kernel
theorem fl_s227 : (Cond.exactly (.string "ReductionFinder" 227) "java/lang/String") ∈ flatC ng := by decide +kernel
theorem tb_s227 : lw_tbl[1062]? = some (Cond.stringRef "ReductionFinder" 227 "no floats are kept as results") := by decide +kernel
theorem fl_s232 : (Cond.exactly (.string "ReductionFinder" 232) "java/lang/String") ∈ flatC ng := by decide +kernel
theorem tb_s232 : lw_tbl[1070]? = some (Cond.stringRef "ReductionFinder" 232 "no results of this mode are kept") := by decide +kernel
theorem fl_s249 : (Cond.exactly (.string "ReductionFinder" 249) "java/lang/String") ∈ flatC ng := by decide +kernel
theorem tb_s249 : lw_tbl[1087]? = some (Cond.stringRef "ReductionFinder" 249 "there is no snapshot") := by decide +kernel
theorem fl_n01 : (Cond.not (.castable "java/lang/IllegalArgumentException" "java/lang/IllegalStateException")) ∈ flatC ng := by decide +kernel
theorem fl_n02 : (Cond.not (.castable "java/lang/IllegalArgumentException" "java/lang/IndexOutOfBoundsException")) ∈ flatC ng := by decide +kernel
theorem fl_n03 : (Cond.not (.castable "java/lang/IllegalArgumentException" "java/lang/UnsupportedOperationException")) ∈ flatC ng := by decide +kernel
theorem fl_n04 : (Cond.not (.castable "java/lang/IllegalArgumentException" "java/util/NoSuchElementException")) ∈ flatC ng := by decide +kernel
theorem fl_n10 : (Cond.not (.castable "java/lang/IllegalStateException" "java/lang/IllegalArgumentException")) ∈ flatC ng := by decide +kernel
theorem fl_n12 : (Cond.not (.castable "java/lang/IllegalStateException" "java/lang/IndexOutOfBoundsException")) ∈ flatC ng := by decide +kernel
theorem fl_n13 : (Cond.not (.castable "java/lang/IllegalStateException" "java/lang/UnsupportedOperationException")) ∈ flatC ng := by decide +kernel
theorem fl_n14 : (Cond.not (.castable "java/lang/IllegalStateException" "java/util/NoSuchElementException")) ∈ flatC ng := by decide +kernel
theorem fl_n20 : (Cond.not (.castable "java/lang/IndexOutOfBoundsException" "java/lang/IllegalArgumentException")) ∈ flatC ng := by decide +kernel
theorem fl_n21 : (Cond.not (.castable "java/lang/IndexOutOfBoundsException" "java/lang/IllegalStateException")) ∈ flatC ng := by decide +kernel
theorem fl_n23 : (Cond.not (.castable "java/lang/IndexOutOfBoundsException" "java/lang/UnsupportedOperationException")) ∈ flatC ng := by decide +kernel
theorem fl_n24 : (Cond.not (.castable "java/lang/IndexOutOfBoundsException" "java/util/NoSuchElementException")) ∈ flatC ng := by decide +kernel
theorem fl_n30 : (Cond.not (.castable "java/lang/UnsupportedOperationException" "java/lang/IllegalArgumentException")) ∈ flatC ng := by decide +kernel
theorem fl_n31 : (Cond.not (.castable "java/lang/UnsupportedOperationException" "java/lang/IllegalStateException")) ∈ flatC ng := by decide +kernel
theorem fl_n32 : (Cond.not (.castable "java/lang/UnsupportedOperationException" "java/lang/IndexOutOfBoundsException")) ∈ flatC ng := by decide +kernel
theorem fl_n34 : (Cond.not (.castable "java/lang/UnsupportedOperationException" "java/util/NoSuchElementException")) ∈ flatC ng := by decide +kernel
theorem fl_n40 : (Cond.not (.castable "java/util/NoSuchElementException" "java/lang/IllegalArgumentException")) ∈ flatC ng := by decide +kernel
theorem fl_n41 : (Cond.not (.castable "java/util/NoSuchElementException" "java/lang/IllegalStateException")) ∈ flatC ng := by decide +kernel
theorem fl_n42 : (Cond.not (.castable "java/util/NoSuchElementException" "java/lang/IndexOutOfBoundsException")) ∈ flatC ng := by decide +kernel
theorem fl_n43 : (Cond.not (.castable "java/util/NoSuchElementException" "java/lang/UnsupportedOperationException")) ∈ flatC ng := by decide +kernel
theorem fl_z : (Cond.eq (.static "java/lang/Math" "negativeZeroFloatBits" "J") (.long (-2147483648))) ∈ flatC ng := by decide +kernel
theorem fl_u : (Cond.isRef (.static "java/lang/Throwable" "UNASSIGNED_STACK" "[Ljava/lang/StackTraceElement;")) ∈ flatC ng := by decide +kernel
theorem fl_v : (Cond.isRef (.static "java/lang/Throwable" "SUPPRESSED_SENTINEL" "Ljava/util/List;")) ∈ flatC ng := by decide +kernel
theorem amb_start {b : Nat} {s : State} (hts : ∀ w ∈ lw_tbl, w.before #[Value.ref b] s = true) (hgv : ng.before #[Value.ref b] s = true) : Amb (fun q => s.heap.size ≤ q) s s.heap := by
  have hs := flat_of_before _ hgv
  have hA : ∀ a : Nat, a < s.heap.size → ¬ (fun q => s.heap.size ≤ q) a := fun a ha => Nat.not_le.mpr ha
  refine ⟨?_, ?_, ?_, ?_, ?_⟩
  · exact vx_Zqof (hts (.laysStatic "java/lang/Throwable" "UNASSIGNED_STACK" "[Ljava/lang/StackTraceElement;") (List.mem_of_getElem? (i := 443) (by decide +kernel))) (hts (.initialized "java/lang/Throwable") (List.mem_of_getElem? (i := 87) (by decide +kernel))) (hs _ fl_u) hA
  · exact vx_Zqof (hts (.laysStatic "java/lang/Throwable" "SUPPRESSED_SENTINEL" "Ljava/util/List;") (List.mem_of_getElem? (i := 445) (by decide +kernel))) (hts (.initialized "java/lang/Throwable") (List.mem_of_getElem? (i := 87) (by decide +kernel))) (hs _ fl_v) hA
  · unfold STRS
    refine List.forall_mem_cons.mpr ⟨str_known (hts _ (List.mem_of_getElem? tb_s85)) (hs _ fl_s85), ?_⟩
    refine List.forall_mem_cons.mpr ⟨str_known (hts _ (List.mem_of_getElem? tb_s95)) (hs _ fl_s95), ?_⟩
    refine List.forall_mem_cons.mpr ⟨str_known (hts _ (List.mem_of_getElem? tb_s109)) (hs _ fl_s109), ?_⟩
    refine List.forall_mem_cons.mpr ⟨str_known (hts _ (List.mem_of_getElem? tb_s119)) (hs _ fl_s119), ?_⟩
    refine List.forall_mem_cons.mpr ⟨str_known (hts _ (List.mem_of_getElem? tb_s132)) (hs _ fl_s132), ?_⟩
    refine List.forall_mem_cons.mpr ⟨str_known (hts _ (List.mem_of_getElem? tb_s137)) (hs _ fl_s137), ?_⟩
    refine List.forall_mem_cons.mpr ⟨str_known (hts _ (List.mem_of_getElem? tb_s256)) (hs _ fl_s256), ?_⟩
    refine List.forall_mem_cons.mpr ⟨str_known (hts _ (List.mem_of_getElem? tb_s146)) (hs _ fl_s146), ?_⟩
    refine List.forall_mem_cons.mpr ⟨str_known (hts _ (List.mem_of_getElem? tb_s253)) (hs _ fl_s253), ?_⟩
    refine List.forall_mem_cons.mpr ⟨str_known (hts _ (List.mem_of_getElem? tb_s260)) (hs _ fl_s260), ?_⟩
    refine List.forall_mem_cons.mpr ⟨str_known (hts _ (List.mem_of_getElem? tb_s263)) (hs _ fl_s263), ?_⟩
    refine List.forall_mem_cons.mpr ⟨str_known (hts _ (List.mem_of_getElem? tb_s192)) (hs _ fl_s192), ?_⟩
    refine List.forall_mem_cons.mpr ⟨str_known (hts _ (List.mem_of_getElem? tb_s265)) (hs _ fl_s265), ?_⟩
    refine List.forall_mem_cons.mpr ⟨str_known (hts _ (List.mem_of_getElem? tb_s267)) (hs _ fl_s267), ?_⟩
    refine List.forall_mem_cons.mpr ⟨str_known (hts _ (List.mem_of_getElem? tb_s272)) (hs _ fl_s272), ?_⟩
    refine List.forall_mem_cons.mpr ⟨str_known (hts _ (List.mem_of_getElem? tb_s274)) (hs _ fl_s274), ?_⟩
    refine List.forall_mem_cons.mpr ⟨str_known (hts _ (List.mem_of_getElem? tb_s222)) (hs _ fl_s222), ?_⟩
    refine List.forall_mem_cons.mpr ⟨str_known (hts _ (List.mem_of_getElem? tb_s227)) (hs _ fl_s227), ?_⟩
    refine List.forall_mem_cons.mpr ⟨str_known (hts _ (List.mem_of_getElem? tb_s232)) (hs _ fl_s232), ?_⟩
    refine List.forall_mem_cons.mpr ⟨str_known (hts _ (List.mem_of_getElem? tb_s249)) (hs _ fl_s249), ?_⟩
    exact fun _ h => absurd h List.not_mem_nil
  · exact va_Zof (hts (.laysStatic "java/lang/Math" "negativeZeroFloatBits" "J") (List.mem_of_getElem? (i := 1474) (by decide +kernel))) (hts (.initialized "java/lang/Math") (List.mem_of_getElem? (i := 93) (by decide +kernel))) (va_eql (hs _ fl_z)) hA
  · intro i j hi hj hij
    have h1 : i = 0 ∨ i = 1 ∨ i = 2 ∨ i = 3 ∨ i = 4 := by omega
    have h2 : j = 0 ∨ j = 1 ∨ j = 2 ∨ j = 3 ∨ j = 4 := by omega
    rcases h1 with rfl | rfl | rfl | rfl | rfl <;> rcases h2 with rfl | rfl | rfl | rfl | rfl
    · exact absurd rfl hij
    · exact va_Nc.of (hs _ fl_n01)
    · exact va_Nc.of (hs _ fl_n02)
    · exact va_Nc.of (hs _ fl_n03)
    · exact va_Nc.of (hs _ fl_n04)
    · exact va_Nc.of (hs _ fl_n10)
    · exact absurd rfl hij
    · exact va_Nc.of (hs _ fl_n12)
    · exact va_Nc.of (hs _ fl_n13)
    · exact va_Nc.of (hs _ fl_n14)
    · exact va_Nc.of (hs _ fl_n20)
    · exact va_Nc.of (hs _ fl_n21)
    · exact absurd rfl hij
    · exact va_Nc.of (hs _ fl_n23)
    · exact va_Nc.of (hs _ fl_n24)
    · exact va_Nc.of (hs _ fl_n30)
    · exact va_Nc.of (hs _ fl_n31)
    · exact va_Nc.of (hs _ fl_n32)
    · exact absurd rfl hij
    · exact va_Nc.of (hs _ fl_n34)
    · exact va_Nc.of (hs _ fl_n40)
    · exact va_Nc.of (hs _ fl_n41)
    · exact va_Nc.of (hs _ fl_n42)
    · exact va_Nc.of (hs _ fl_n43)
    · exact absurd rfl hij
theorem known_start {b : Nat} {s : State} (hts : ∀ w ∈ lw_tbl, w.before #[Value.ref b] s = true) : ∃ (D : va_G) (cA : Nat → ClassId), va_K D pcl (ptys cA) s := by
  have htp : ∀ w ∈ PWS, w.before #[Value.ref b] s = true := fun w h => hts w (pws_tbl h)
  obtain ⟨c0, iS0, hk0⟩ := u_known (C := RX0) (T := TX0) (N := 3) (n := 3) htp okX0.2.1 (hts (.instantiable RX0 3) (List.mem_of_getElem? (i := 162) (by decide +kernel)))
  obtain ⟨c1, iS1, hk1⟩ := u_known (C := RX1) (T := TX1) (N := 4) (n := 4) htp okX1.2.1 (hts (.instantiable RX1 4) (List.mem_of_getElem? (i := 180) (by decide +kernel)))
  obtain ⟨c2, iS2, hk2⟩ := u_known (C := RX2) (T := TX2) (N := 5) (n := 5) htp okX2.2.1 (hts (.instantiable RX2 5) (List.mem_of_getElem? (i := 235) (by decide +kernel)))
  obtain ⟨c3, iS3, hk3⟩ := u_known (C := RX3) (T := TX3) (N := 1) (n := 1) htp okX3.2.1 (hts (.instantiable RX3 1) (List.mem_of_getElem? (i := 149) (by decide +kernel)))
  obtain ⟨c4, iS4, hk4⟩ := u_known (C := RX4) (T := TX4) (N := 5) (n := 5) htp okX4.2.1 (hts (.instantiable RX4 5) (List.mem_of_getElem? (i := 208) (by decide +kernel)))
  obtain ⟨c6, iS6, hk6⟩ := u_known (C := RX6) (T := TX6) (N := 16) (n := 16) htp okX6.2.1 (hts (.instantiable RX6 16) (List.mem_of_getElem? (i := 254) (by decide +kernel)))
  obtain ⟨c7, iS7, hk7⟩ := u_known (C := RX7) (T := TX7) (N := 8) (n := 8) htp okX7.2.1 (hts (.instantiable RX7 8) (List.mem_of_getElem? (i := 109) (by decide +kernel)))
  obtain ⟨c9, iS9, hk9⟩ := u_known (C := RX9) (T := TX9) (N := 14) (n := 14) htp okX9.2.1 (hts (.instantiable RX9 14) (List.mem_of_getElem? (i := 101) (by decide +kernel)))
  obtain ⟨c10, iS10, hk10⟩ := u_known (C := RX10) (T := TX10) (N := 36) (n := 36) htp okX10.2.1 (hts (.instantiable RX10 36) (List.mem_of_getElem? (i := 1089) (by decide +kernel)))
  obtain ⟨a100, ha100⟩ := arr_known (ty := .int) (hts (.arrayClass .int) (List.mem_of_getElem? (i := 147) (by decide +kernel))) (fun _ h => h)
  obtain ⟨a101, ha101⟩ := arr_known (ty := .long) (hts (.arrayClass .long) (List.mem_of_getElem? (i := 1545) (by decide +kernel))) (fun _ h => h)
  obtain ⟨a102, ha102⟩ := arr_known (ty := .char) (hts (.arrayClass .char) (List.mem_of_getElem? (i := 146) (by decide +kernel))) (fun _ h => h)
  obtain ⟨a103, ha103⟩ := arr_known (ty := .boolean) (hts (.arrayClass .boolean) (List.mem_of_getElem? (i := 326) (by decide +kernel))) (fun _ h => h)
  obtain ⟨a104, ha104⟩ := arr_known (ty := .float) (hts (.arrayClass .float) (List.mem_of_getElem? (i := 253) (by decide +kernel))) (fun _ h => h)
  obtain ⟨a105, ha105⟩ := arr_known (ty := .double) (hts (.arrayClass .double) (List.mem_of_getElem? (i := 1546) (by decide +kernel))) (fun _ h => h)
  obtain ⟨a106, ha106⟩ := arr_knownA (ty := .int) (hts (.arrayOver (.array .int)) (List.mem_of_getElem? (i := 186) (by decide +kernel)))
  obtain ⟨a107, ha107⟩ := arr_knownA (ty := .float) (hts (.arrayOver (.array .float)) (List.mem_of_getElem? (i := 241) (by decide +kernel)))
  obtain ⟨a108, ha108⟩ := arr_knownO (C := "ReductionFinder$Program") (hts (.arrayOver (.object "ReductionFinder$Program")) (List.mem_of_getElem? (i := 178) (by decide +kernel)))
  refine ⟨(fun k => if k = 0 then c0 else if k = 1 then c1 else if k = 2 then c2 else if k = 3 then c3 else if k = 4 then c4 else if k = 5 then c0 else if k = 6 then c6 else if k = 7 then c7 else if k = 8 then c0 else if k = 9 then c9 else c10, fun k => if k = 0 then iS0 else if k = 1 then iS1 else if k = 2 then iS2 else if k = 3 then iS3 else if k = 4 then iS4 else if k = 5 then iS0 else if k = 6 then iS6 else if k = 7 then iS7 else if k = 8 then iS0 else if k = 9 then iS9 else iS10), fun t => if t = 100 then a100 else if t = 101 then a101 else if t = 102 then a102 else if t = 103 then a103 else if t = 104 then a104 else if t = 105 then a105 else if t = 106 then a106 else if t = 107 then a107 else a108, ?_, ?_⟩
  · intro k q hq
    match k, hq with
    | 0, hq => cases hq; exact hk0
    | 1, hq => cases hq; exact hk1
    | 2, hq => cases hq; exact hk2
    | 3, hq => cases hq; exact hk3
    | 4, hq => cases hq; exact hk4
    | 5, hq => cases hq; exact hk0
    | 6, hq => cases hq; exact hk6
    | 7, hq => cases hq; exact hk7
    | 8, hq => cases hq; exact hk0
    | 9, hq => cases hq; exact hk9
    | 10, hq => cases hq; exact hk10
    | k + 11, hq => simp [pcl] at hq
  · intro k q hq
    match k, hq with
    | 0, hq => cases hq; exact ha100
    | 1, hq => cases hq; exact ha101
    | 2, hq => cases hq; exact ha102
    | 3, hq => cases hq; exact ha103
    | 4, hq => cases hq; exact ha104
    | 5, hq => cases hq; exact ha105
    | 6, hq => cases hq; exact ha106
    | 7, hq => cases hq; exact ha107
    | 8, hq => cases hq; exact ha108
    | k + 9, hq => simp [ptys] at hq
def M00 : PM := (fun _ _ => 0, fun _ _ => 0, fun _ _ => none, fun _ _ => 0, fun _ _ => 0)
theorem law_start {p : Program} {e : Env} {s : State} {m : MethodId} {below : List Frame} {meth : Method} {c : Code} (l : Launch) (hflags : l.flags = flags0) {b L : Nat} {xs : Nat → Int32} (C0 : lw_At p s m meth c b L xs)
    (hb : ∀ J : KT, (∀ (k : Nat) (stops : Nat → Bool) (pc : Nat) (lv : LV) (st : List Value) (nn : NN) (M : PM), lk (tL_law b L xs) pc (wpN (tL_law b L xs) stops k J) lv st nn M → J pc lv st nn M) → J 0 (entA 0 [.ref (1000000 + b)]) [] (0, 0, 0) M00) :
    W p l e room_1 s m #[Value.ref b] below meth c s.heap [] 0 0 (lw_Z below #[Value.ref b] s) (entryFrame m ([Value.ref b] : List Value).toArray 9) := by
  obtain ⟨hx, hcc, hr, hml, hown, hts, hX, hbl, hlocks, hgv⟩ := C0
  obtain ⟨D, cA, hK⟩ := known_start hts
  have ham := amb_start hts hgv
  have hst : l.stackTraces = false := by unfold Launch.stackTraces; rw [hflags]; decide
  have hF : Fx p s m #[Value.ref b] meth c D cA (fun q => s.heap.size ≤ q) 9 code R_law := ⟨hx, hcc, hml, hown, fun w h => hts w (pws_tbl h), hK, fun _ h => h, hlocks⟩
  have hRk : Rk 2000 601024 7293034 room_1 := ⟨Nat.le_of_ble_eq_true rfl, Nat.le_of_ble_eq_true rfl, Nat.le_refl _, Nat.le_refl _⟩
  have hsn : ∀ q ∈ tL_law b L xs, Snd (jL p l e s m below meth c D cA (fun _ => 0) b) q.1 q.2 := by
    unfold tL_law
    exact fmA (sL0 hF hst ham hX hbl hr hRk) (fmA (sL1 hF hst ham hX hbl hr hRk) (fmA (sL2 hF hst ham hX hbl hr hRk) (fmA (sL3 hF hst ham hX hbl hr hRk) (fmA (sL4 hF hst ham hX hbl hr hRk) (fmA (sL5 hF hst ham hX hbl hr hRk) (fmA (sL6 hF hst ham hX hbl hr hRk) (fmA (sL7 hF hst ham hX hbl hr hRk) (fmA (sL8 hF hst ham hX hbl hr hRk) (fmA (sL9 hF hst ham hX hbl hr hRk) (fmA (sL10 hF hst ham hX hbl hr hRk) (fmA (sL11 hF hst ham hX hbl hr hRk) (fmA (sL12 hF hst ham hX hbl hr hRk) (fmA (sL13 hF hst ham hX hbl hr hRk) (fmA (sL14 hF hst ham hX hbl hr hRk) (sL15 hF hst ham hX hbl hr hRk)))))))))))))))
  have hJ := hb (jL p l e s m below meth c D cA (fun _ => 0) b) (fun k stops pc lv st nn M h => lk_snd hsn pc _ lv st nn M (fun pc lv st nn M h9 => wpN_snd hsn k pc lv st nn M h9) h)
  rw [lg_entry_eq]
  have hle := lv_entry ([Value.ref b] : List Value) (n := 9) (Nat.le_of_ble_eq_true rfl)
  refine hJ (fun _ => 0) s.heap [] _ (fun k q hq => ?_) ⟨fun i j x y hi => ?_, fun k q hq => ?_⟩ va_S.rf (lvok_sub hle (fun j v hv => ?_)) ⟨fun _ _ => rfl, Nat.le_refl _, by decide, fun _ => rfl⟩
  · simp [pw] at hq
  · simp [pw] at hi
  · simp [pw] at hq
  · unfold entA at hv
    by_cases hj : j = 0
    · subst hj
      rw [if_pos rfl] at hv
      cases hv
      refine ⟨by decide, ?_⟩
      show (0, Value.ref (adr (fun _ => 0) (1000000 + b))) ∈ _
      rw [adr_raw]
      exact List.mem_cons_self
    · rw [if_neg hj] at hv
      cases hv
