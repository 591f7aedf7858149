theorem qw1467 : (Jvm.Cond.methodLink "ReductionFinderModel" (244 : Nat) ({ cls := "java/lang/Math", name := "min", desc := "(FF)F" } : Jvm.MethodName)) ∈ PWS := pws_mem 1467 (by decide +kernel) rfl
theorem qw1468 : (Jvm.Cond.static ({ cls := "java/lang/Math", name := "min", desc := "(FF)F" } : Jvm.MethodName)) ∈ PWS := pws_mem 1468 (by decide +kernel) rfl
theorem qw1469 : (Jvm.Cond.code ({ cls := "java/lang/Math", name := "min", desc := "(FF)F" } : Jvm.MethodName) prog_21_method_71_code (2 : Nat) (Option.some Jvm.ClassFile.FieldType.float)) ∈ PWS := pws_mem 1469 (by decide +kernel) rfl
theorem qw1475 : (Jvm.Cond.methodLink "ReductionFinderModel" (248 : Nat) ({ cls := "java/lang/Math", name := "max", desc := "(FF)F" } : Jvm.MethodName)) ∈ PWS := pws_mem 1475 (by decide +kernel) rfl
theorem qw1476 : (Jvm.Cond.static ({ cls := "java/lang/Math", name := "max", desc := "(FF)F" } : Jvm.MethodName)) ∈ PWS := pws_mem 1476 (by decide +kernel) rfl
theorem qw1477 : (Jvm.Cond.code ({ cls := "java/lang/Math", name := "max", desc := "(FF)F" } : Jvm.MethodName) prog_21_method_67_code (2 : Nat) (Option.some Jvm.ClassFile.FieldType.float)) ∈ PWS := pws_mem 1477 (by decide +kernel) rfl
theorem qw1515 : (Jvm.Cond.methodLink "ReductionFinderModel" (306 : Nat) ({ cls := "java/lang/Math", name := "abs", desc := "(D)D" } : Jvm.MethodName)) ∈ PWS := pws_mem 1515 (by decide +kernel) rfl
theorem qw1516 : (Jvm.Cond.static ({ cls := "java/lang/Math", name := "abs", desc := "(D)D" } : Jvm.MethodName)) ∈ PWS := pws_mem 1516 (by decide +kernel) rfl
theorem qw1517 : (Jvm.Cond.code ({ cls := "java/lang/Math", name := "abs", desc := "(D)D" } : Jvm.MethodName) prog_21_method_64_code (2 : Nat) (Option.some Jvm.ClassFile.FieldType.double)) ∈ PWS := pws_mem 1517 (by decide +kernel) rfl
theorem lsw_n (x : Int32) : (∃ q ∈ ([(301, 36), (305, 38), (306, 41)] : List (Int32 × Nat)), x = q.1 ∧ ((1 : Nat) : Int) + Op.lookupswitch.offset (#[(301, 35), (305, 37), (306, 40)] : Array (Int × Int)).toList 43 x.toInt = (q.2 : Int)) ∨ ((∀ q ∈ ([(301, 36), (305, 38), (306, 41)] : List (Int32 × Nat)), ¬ x = q.1) ∧ Op.lookupswitch.offset (#[(301, 35), (305, 37), (306, 40)] : Array (Int × Int)).toList 43 x.toInt = 43) := by
  by_cases h1 : x = 301
  · subst h1; exact Or.inl ⟨(301, 36), by simp, rfl, by decide⟩
  by_cases h2 : x = 305
  · subst h2; exact Or.inl ⟨(305, 38), by simp, rfl, by decide⟩
  by_cases h3 : x = 306
  · subst h3; exact Or.inl ⟨(306, 41), by simp, rfl, by decide⟩
  refine Or.inr ⟨by simp [h1, h2, h3], ?_⟩
  have e1 : ¬ x.toInt = 301 := fun h => h1 (Int32.toInt_inj.mp h)
  have e2 : ¬ x.toInt = 305 := fun h => h2 (Int32.toInt_inj.mp h)
  have e3 : ¬ x.toInt = 306 := fun h => h3 (Int32.toInt_inj.mp h)
  simp [Op.lookupswitch.offset, e1, e2, e3, Ne.symm e1, Ne.symm e2, Ne.symm e3, eq_comm]
def tX10_floatBy (d mc ms : Nat) (P : PO) : List (Nat × OP) := [(0, oIld 0 1), (1, oSw [(0, 44), (1, 51), (2, 70), (3, 70), (4, 70), (5, 58), (6, 64)] 70), (44, oFld 1 45), (45, oFld 2 46), (46, oF2 FP.fadd 47), (47, oCallS d mc ms P 0 0 yX10_bounded (Cond.code yX10_bounded cX10_bounded 1 (some .float)) 1 50), (50, oRetF mc ms P), (51, oFld 1 52), (52, oFld 2 53), (53, oF2 FP.fmul 54), (54, oCallS d mc ms P 0 0 yX10_bounded (Cond.code yX10_bounded cX10_bounded 1 (some .float)) 1 57), (57, oRetF mc ms P), (58, oFld 1 59), (59, oFld 2 60), (60, oFmm false mc ms 63), (63, oRetF mc ms P), (64, oFld 1 65), (65, oFld 2 66), (66, oFmm true mc ms 69), (69, oRetF mc ms P), (70, oFld 1 71), (71, oFld 2 72), (72, oF2 FP.fsub 73), (73, oCallS d mc ms P 0 0 yX10_bounded (Cond.code yX10_bounded cX10_bounded 1 (some .float)) 1 76), (76, oRetF mc ms P)]
set_option maxRecDepth 20000 in
theorem sX10_floatBy {p : Program} {l : Launch} {e : Env} {s : State} {m : MethodId} {args : Array Value} {below : List Frame} {meth : Method} {c : Code} {D : va_G} {cA : Nat → ClassId} {ad0 : Nat → Nat} {n0 sz d mc ms : Nat} {P : PO} (hM : FM p l s m args meth c D cA 3 ad0 n0 sz cX10_floatBy RX10 (some .float) [] yX10_floatBy.name) : ∀ q ∈ tX10_floatBy d mc ms P, Snd (jM p l e s m args below meth c D cA 3 ad0 n0 sz (d + 1) mc ms P) q.1 q.2 := by
  have hF := hM.1
  have hts := hF.2.2.2.2.1
  unfold tX10_floatBy
  refine fmS (snd_iloadn hF (k := 0) rfl (by decide +kernel)) ?_
  refine fmS (snd_tsw hF (lo := 0) (hi := 6) (dflt := 69) (offs := #[43, 50, 69, 69, 69, 57, 63]) (len := 43) (by decide +kernel) (by decide +kernel)) ?_
  refine fmS (snd_floadn hF (k := 1) rfl (by decide +kernel)) ?_
  refine fmS (snd_floadn hF (k := 2) rfl (by decide +kernel)) ?_
  refine fmS (snd_fadd hF (by decide +kernel)) ?_
  refine fmS (snd_callS hM k_X10_bounded qw1462 qw1463 (by decide +kernel)) ?_
  refine fmS (snd_retF hM (by decide +kernel)) ?_
  refine fmS (snd_floadn hF (k := 1) rfl (by decide +kernel)) ?_
  refine fmS (snd_floadn hF (k := 2) rfl (by decide +kernel)) ?_
  refine fmS (snd_fmul hF (by decide +kernel)) ?_
  refine fmS (snd_callS hM k_X10_bounded qw1462 qw1463 (by decide +kernel)) ?_
  refine fmS (snd_retF hM (by decide +kernel)) ?_
  refine fmS (snd_floadn hF (k := 1) rfl (by decide +kernel)) ?_
  refine fmS (snd_floadn hF (k := 2) rfl (by decide +kernel)) ?_
  refine fmS (snd_fmin hM qw1467 qw1468 qw93 qw1469 (by decide +kernel)) ?_
  refine fmS (snd_retF hM (by decide +kernel)) ?_
  refine fmS (snd_floadn hF (k := 1) rfl (by decide +kernel)) ?_
  refine fmS (snd_floadn hF (k := 2) rfl (by decide +kernel)) ?_
  refine fmS (snd_fmax hM qw1475 qw1476 qw93 qw1477 (by decide +kernel)) ?_
  refine fmS (snd_retF hM (by decide +kernel)) ?_
  refine fmS (snd_floadn hF (k := 1) rfl (by decide +kernel)) ?_
  refine fmS (snd_floadn hF (k := 2) rfl (by decide +kernel)) ?_
  refine fmS (snd_fsub hF (by decide +kernel)) ?_
  refine fmS (snd_callS hM k_X10_bounded qw1462 qw1463 (by decide +kernel)) ?_
  refine fmS (snd_retF hM (by decide +kernel)) ?_
  exact fmE
theorem iX10_floatBy {d mc ms n : Nat} {av : List Value} {M : PM} {P : PO} (hw : wid av ≤ 3) (hb : ∀ J : KT, (∀ (k : Nat) (stops : Nat → Bool) (pc : Nat) (lv : LV) (st : List Value) (nn : NN) (M : PM), lk (tX10_floatBy d mc ms P) pc (wpN (tX10_floatBy d mc ms P) stops k J) lv st nn M → J pc lv st nn M) → J 0 (entA 0 av) [] (n, 0, 0) M) : CallOK (d + 1) mc ms yX10_floatBy (Cond.code yX10_floatBy cX10_floatBy 3 (some .float)) av n M P := call_intro (own := RX10) (by decide +kernel) rfl hw (fun _ _ _ _ _ _ _ _ _ _ _ _ _ hM => sX10_floatBy hM) hb
def tX10_difference (d mc ms : Nat) (P : PO) : List (Nat × OP) := [(0, oAld 0 1), (1, oPush (.int 0) 2), (2, oPi 10 0 5), (5, oIld 1 6), (6, oCallS d mc ms P 0 0 yX10_isVariable (Cond.code yX10_isVariable cX10_isVariable 1 (some .boolean)) 1 9), (9, oIf (fun x => x = 0) 12 19), (12, oAld 0 13), (13, oPush (.int 1) 14), (14, oCallV d mc ms P 0 0 yX10_raises (Cond.code yX10_raises cX10_raises 2 (some .int)) 1 10 17), (17, oIcv (fun x => .double (FP.i2d x)) 18), (18, oRetD mc ms P), (19, oAld 0 20), (20, oGi 10 29 23), (23, oIf (fun x => x < 0) 39 26), (26, oAld 0 27), (27, oGi 10 29 30), (30, oAld 0 31), (31, oGr 10 1 34), (34, oPush (.int 1) 35), (35, oAi 100 36), (36, oIc (fun x y => x = y) 46 39), (39, oAld 0 40), (40, oPush (.int 2) 41), (41, oCallV d mc ms P 0 0 yX10_raises (Cond.code yX10_raises cX10_raises 2 (some .int)) 1 10 44), (44, oIcv (fun x => .double (FP.i2d x)) 45), (45, oRetD mc ms P), (46, oAld 0 47), (47, oGr 10 1 50), (50, oPush (.int 1) 51), (51, oAi 100 52), (52, oPush (.int 1) 53), (53, oIc (fun x y => x = y) 56 70), (56, oAld 0 57), (57, oCallV d mc ms P 0 0 yX10_hasBits (Cond.code yX10_hasBits cX10_hasBits 3 (some .boolean)) 0 10 60), (60, oIf (fun x => x = 0) 70 63), (63, oAld 0 64), (64, oPush (.int 3) 65), (65, oCallV d mc ms P 0 0 yX10_raises (Cond.code yX10_raises cX10_raises 2 (some .int)) 1 10 68), (68, oIcv (fun x => .double (FP.i2d x)) 69), (69, oRetD mc ms P), (70, oAld 0 71), (71, oPush (.int 0) 72), (72, oPush (.int 0) 73), (73, oCallV d mc ms P 0 0 yX10_executes (Cond.code yX10_executes cX10_executes 5 none) 2 10 76), (76, oAld 0 77), (77, oGi 10 29 80), (80, oIf (fun x => x = 0) 83 93), (83, oAld 0 84), (84, oGr 10 32 87), (87, oIld 1 88), (88, oAi 100 89), (89, oIcv (fun x => .double (FP.i2d x)) 90), (90, oGoto 100), (93, oAld 0 94), (94, oGr 10 33 97), (97, oIld 1 98), (98, oAf 99), (99, oF2d 100), (100, oDst 2 101), (101, oAld 0 102), (102, oGi 10 29 105), (105, oIf (fun x => x = 0) 108 118), (108, oAld 0 109), (109, oGr 10 25 112), (112, oIld 1 113), (113, oAi 100 114), (114, oIcv (fun x => .double (FP.i2d x)) 115), (115, oGoto 125), (118, oAld 0 119), (119, oGr 10 26 122), (122, oIld 1 123), (123, oAf 124), (124, oF2d 125), (125, oDst 4 127), (127, oDld 2 128), (128, oDld 4 130), (130, oD2 FP.dsub 131), (131, oDabs mc ms 134), (134, oRetD mc ms P)]
set_option maxRecDepth 20000 in
theorem sX10_difference {p : Program} {l : Launch} {e : Env} {s : State} {m : MethodId} {args : Array Value} {below : List Frame} {meth : Method} {c : Code} {D : va_G} {cA : Nat → ClassId} {ad0 : Nat → Nat} {n0 sz d mc ms : Nat} {P : PO} (hM : FM p l s m args meth c D cA 6 ad0 n0 sz cX10_difference RX10 (some .double) [] yX10_difference.name) : ∀ q ∈ tX10_difference d mc ms P, Snd (jM p l e s m args below meth c D cA 6 ad0 n0 sz (d + 1) mc ms P) q.1 q.2 := by
  have hF := hM.1
  have hts := hF.2.2.2.2.1
  unfold tX10_difference
  refine fmS (snd_aloadn hF (k := 0) rfl (by decide +kernel)) ?_
  refine fmS (snd_iconst hF (n := 0) rfl (by decide +kernel)) ?_
  refine fmS (snd_puti hF okX10 (k := 0) (by decide) qw1104 rfl rfl rfl rfl (by decide +kernel)) ?_
  refine fmS (snd_iloadn hF (k := 1) rfl (by decide +kernel)) ?_
  refine fmS (snd_callS hM k_X10_isVariable qw1329 qw1330 (by decide +kernel)) ?_
  refine fmS (snd_if_ne hF (off := 10) (by decide) (by decide +kernel)) ?_
  refine fmS (snd_aloadn hF (k := 0) rfl (by decide +kernel)) ?_
  refine fmS (snd_iconst hF (n := 1) rfl (by decide +kernel)) ?_
  refine fmS (snd_callV hM k_X10_raises okX10 qw1221 qw1223 (hts _ qw35) (by decide +kernel)) ?_
  refine fmS (snd_i2d hF (by decide +kernel)) ?_
  refine fmS (snd_retD hM (by decide +kernel)) ?_
  refine fmS (snd_aloadn hF (k := 0) rfl (by decide +kernel)) ?_
  refine fmS (snd_geti hF okX10 (k := 29) (by decide) qw1133 rfl rfl (by decide +kernel)) ?_
  refine fmS (snd_if_lt hF (off := 16) (by decide) (by decide +kernel)) ?_
  refine fmS (snd_aloadn hF (k := 0) rfl (by decide +kernel)) ?_
  refine fmS (snd_geti hF okX10 (k := 29) (by decide) qw1133 rfl rfl (by decide +kernel)) ?_
  refine fmS (snd_aloadn hF (k := 0) rfl (by decide +kernel)) ?_
  refine fmS (snd_getr hF okX10 (k := 1) (by decide) qw1105 rfl rfl (by decide +kernel)) ?_
  refine fmS (snd_iconst hF (n := 1) rfl (by decide +kernel)) ?_
  refine fmS (snd_iaload hF (by decide +kernel)) ?_
  refine fmS (snd_icmp_eq hF (off := 10) (by decide) (by decide +kernel)) ?_
  refine fmS (snd_aloadn hF (k := 0) rfl (by decide +kernel)) ?_
  refine fmS (snd_iconst hF (n := 2) rfl (by decide +kernel)) ?_
  refine fmS (snd_callV hM k_X10_raises okX10 qw1221 qw1223 (hts _ qw35) (by decide +kernel)) ?_
  refine fmS (snd_i2d hF (by decide +kernel)) ?_
  refine fmS (snd_retD hM (by decide +kernel)) ?_
  refine fmS (snd_aloadn hF (k := 0) rfl (by decide +kernel)) ?_
  refine fmS (snd_getr hF okX10 (k := 1) (by decide) qw1105 rfl rfl (by decide +kernel)) ?_
  refine fmS (snd_iconst hF (n := 1) rfl (by decide +kernel)) ?_
  refine fmS (snd_iaload hF (by decide +kernel)) ?_
  refine fmS (snd_iconst hF (n := 1) rfl (by decide +kernel)) ?_
  refine fmS (snd_icmp_ne hF (off := 17) (by decide) (by decide +kernel)) ?_
  refine fmS (snd_aloadn hF (k := 0) rfl (by decide +kernel)) ?_
  refine fmS (snd_callV hM k_X10_hasBits okX10 qw1432 qw1434 (hts _ qw63) (by decide +kernel)) ?_
  refine fmS (snd_if_eq hF (off := 10) (by decide) (by decide +kernel)) ?_
  refine fmS (snd_aloadn hF (k := 0) rfl (by decide +kernel)) ?_
  refine fmS (snd_iconst hF (n := 3) rfl (by decide +kernel)) ?_
  refine fmS (snd_callV hM k_X10_raises okX10 qw1221 qw1223 (hts _ qw35) (by decide +kernel)) ?_
  refine fmS (snd_i2d hF (by decide +kernel)) ?_
  refine fmS (snd_retD hM (by decide +kernel)) ?_
  refine fmS (snd_aloadn hF (k := 0) rfl (by decide +kernel)) ?_
  refine fmS (snd_iconst hF (n := 0) rfl (by decide +kernel)) ?_
  refine fmS (snd_iconst hF (n := 0) rfl (by decide +kernel)) ?_
  refine fmS (snd_callV hM k_X10_executes okX10 qw1436 qw1438 (hts _ qw64) (by decide +kernel)) ?_
  refine fmS (snd_aloadn hF (k := 0) rfl (by decide +kernel)) ?_
  refine fmS (snd_geti hF okX10 (k := 29) (by decide) qw1133 rfl rfl (by decide +kernel)) ?_
  refine fmS (snd_if_ne hF (off := 13) (by decide) (by decide +kernel)) ?_
  refine fmS (snd_aloadn hF (k := 0) rfl (by decide +kernel)) ?_
  refine fmS (snd_getr hF okX10 (k := 32) (by decide) qw1136 rfl rfl (by decide +kernel)) ?_
  refine fmS (snd_iloadn hF (k := 1) rfl (by decide +kernel)) ?_
  refine fmS (snd_iaload hF (by decide +kernel)) ?_
  refine fmS (snd_i2d hF (by decide +kernel)) ?_
  refine fmS (snd_goto hF (off := 10) (by decide) (by decide +kernel)) ?_
  refine fmS (snd_aloadn hF (k := 0) rfl (by decide +kernel)) ?_
  refine fmS (snd_getr hF okX10 (k := 33) (by decide) qw1137 rfl rfl (by decide +kernel)) ?_
  refine fmS (snd_iloadn hF (k := 1) rfl (by decide +kernel)) ?_
  refine fmS (snd_faload hF (by decide +kernel)) ?_
  refine fmS (snd_f2d hF (by decide +kernel)) ?_
  refine fmS (snd_dstoren hF (k := 2) rfl (by decide) (by decide +kernel)) ?_
  refine fmS (snd_aloadn hF (k := 0) rfl (by decide +kernel)) ?_
  refine fmS (snd_geti hF okX10 (k := 29) (by decide) qw1133 rfl rfl (by decide +kernel)) ?_
  refine fmS (snd_if_ne hF (off := 13) (by decide) (by decide +kernel)) ?_
  refine fmS (snd_aloadn hF (k := 0) rfl (by decide +kernel)) ?_
  refine fmS (snd_getr hF okX10 (k := 25) (by decide) qw1129 rfl rfl (by decide +kernel)) ?_
  refine fmS (snd_iloadn hF (k := 1) rfl (by decide +kernel)) ?_
  refine fmS (snd_iaload hF (by decide +kernel)) ?_
  refine fmS (snd_i2d hF (by decide +kernel)) ?_
  refine fmS (snd_goto hF (off := 10) (by decide) (by decide +kernel)) ?_
  refine fmS (snd_aloadn hF (k := 0) rfl (by decide +kernel)) ?_
  refine fmS (snd_getr hF okX10 (k := 26) (by decide) qw1130 rfl rfl (by decide +kernel)) ?_
  refine fmS (snd_iloadn hF (k := 1) rfl (by decide +kernel)) ?_
  refine fmS (snd_faload hF (by decide +kernel)) ?_
  refine fmS (snd_f2d hF (by decide +kernel)) ?_
  refine fmS (snd_dstore hF (by decide) (by decide +kernel)) ?_
  refine fmS (snd_dloadn hF (k := 2) rfl (by decide +kernel)) ?_
  refine fmS (snd_dload hF (by decide +kernel)) ?_
  refine fmS (snd_dsub hF (by decide +kernel)) ?_
  refine fmS (snd_dabs hM qw1515 qw1516 qw93 qw1517 (by decide +kernel)) ?_
  refine fmS (snd_retD hM (by decide +kernel)) ?_
  exact fmE
theorem iX10_difference {d mc ms n : Nat} {av : List Value} {M : PM} {P : PO} (hw : wid av ≤ 6) (hb : ∀ J : KT, (∀ (k : Nat) (stops : Nat → Bool) (pc : Nat) (lv : LV) (st : List Value) (nn : NN) (M : PM), lk (tX10_difference d mc ms P) pc (wpN (tX10_difference d mc ms P) stops k J) lv st nn M → J pc lv st nn M) → J 0 (entA 0 av) [] (n, 0, 0) M) : CallOK (d + 1) mc ms yX10_difference (Cond.code yX10_difference cX10_difference 6 (some .double)) av n M P := call_intro (own := RX10) (by decide +kernel) rfl hw (fun _ _ _ _ _ _ _ _ _ _ _ _ _ hM => sX10_difference hM) hb
def tX2_neutralOf (d mc ms : Nat) (P : PO) : List (Nat × OP) := [(0, oIld 0 1), (1, oSw [(301, 36), (305, 38), (306, 41)] 44), (36, oPush (.float FP.fconst1) 37), (37, oRetF mc ms P), (38, oPush (.float 1900671690) 40), (40, oRetF mc ms P), (41, oPush (.float 4048155338) 43), (43, oRetF mc ms P), (44, oPush (.float FP.fconst0) 45), (45, oRetF mc ms P)]
set_option maxRecDepth 20000 in
theorem sX2_neutralOf {p : Program} {l : Launch} {e : Env} {s : State} {m : MethodId} {args : Array Value} {below : List Frame} {meth : Method} {c : Code} {D : va_G} {cA : Nat → ClassId} {ad0 : Nat → Nat} {n0 sz d mc ms : Nat} {P : PO} (hM : FM p l s m args meth c D cA 1 ad0 n0 sz cX2_neutralOf RX2 (some .float) [] yX2_neutralOf.name) : ∀ q ∈ tX2_neutralOf d mc ms P, Snd (jM p l e s m args below meth c D cA 1 ad0 n0 sz (d + 1) mc ms P) q.1 q.2 := by
  have hF := hM.1
  have hts := hF.2.2.2.2.1
  unfold tX2_neutralOf
  refine fmS (snd_iloadn hF (k := 0) rfl (by decide +kernel)) ?_
  refine fmS (snd_lsw hF (dflt := 43) (ps := #[(301, 35), (305, 37), (306, 40)]) (len := 35) (by decide +kernel) (by decide) (by decide) lsw_n) ?_
  refine fmS (snd_fconst1 hF (by decide +kernel)) ?_
  refine fmS (snd_retF hM (by decide +kernel)) ?_
  refine fmS (snd_ldcf hF qw685 (by decide +kernel)) ?_
  refine fmS (snd_retF hM (by decide +kernel)) ?_
  refine fmS (snd_ldcf hF qw686 (by decide +kernel)) ?_
  refine fmS (snd_retF hM (by decide +kernel)) ?_
  refine fmS (snd_fconst0 hF (by decide +kernel)) ?_
  refine fmS (snd_retF hM (by decide +kernel)) ?_
  exact fmE
theorem iX2_neutralOf {d mc ms n : Nat} {av : List Value} {M : PM} {P : PO} (hw : wid av ≤ 1) (hb : ∀ J : KT, (∀ (k : Nat) (stops : Nat → Bool) (pc : Nat) (lv : LV) (st : List Value) (nn : NN) (M : PM), lk (tX2_neutralOf d mc ms P) pc (wpN (tX2_neutralOf d mc ms P) stops k J) lv st nn M → J pc lv st nn M) → J 0 (entA 0 av) [] (n, 0, 0) M) : CallOK (d + 1) mc ms yX2_neutralOf (Cond.code yX2_neutralOf cX2_neutralOf 1 (some .float)) av n M P := call_intro (own := RX2) (by decide +kernel) rfl hw (fun _ _ _ _ _ _ _ _ _ _ _ _ _ hM => sX2_neutralOf hM) hb
section
variable {d mc ms : Nat} {P : PO}
theorem lX10_floatBy_0 : lk (tX10_floatBy d mc ms P) 0 = oIld 0 1 := rfl
theorem lX10_floatBy_1 : lk (tX10_floatBy d mc ms P) 1 = oSw [(0, 44), (1, 51), (2, 70), (3, 70), (4, 70), (5, 58), (6, 64)] 70 := rfl
theorem lX10_floatBy_44 : lk (tX10_floatBy d mc ms P) 44 = oFld 1 45 := rfl
theorem lX10_floatBy_45 : lk (tX10_floatBy d mc ms P) 45 = oFld 2 46 := rfl
theorem lX10_floatBy_46 : lk (tX10_floatBy d mc ms P) 46 = oF2 FP.fadd 47 := rfl
theorem lX10_floatBy_47 : lk (tX10_floatBy d mc ms P) 47 = oCallS d mc ms P 0 0 yX10_bounded (Cond.code yX10_bounded cX10_bounded 1 (some .float)) 1 50 := rfl
theorem lX10_floatBy_50 : lk (tX10_floatBy d mc ms P) 50 = oRetF mc ms P := rfl
theorem lX10_floatBy_51 : lk (tX10_floatBy d mc ms P) 51 = oFld 1 52 := rfl
theorem lX10_floatBy_52 : lk (tX10_floatBy d mc ms P) 52 = oFld 2 53 := rfl
theorem lX10_floatBy_53 : lk (tX10_floatBy d mc ms P) 53 = oF2 FP.fmul 54 := rfl
theorem lX10_floatBy_54 : lk (tX10_floatBy d mc ms P) 54 = oCallS d mc ms P 0 0 yX10_bounded (Cond.code yX10_bounded cX10_bounded 1 (some .float)) 1 57 := rfl
theorem lX10_floatBy_57 : lk (tX10_floatBy d mc ms P) 57 = oRetF mc ms P := rfl
theorem lX10_floatBy_58 : lk (tX10_floatBy d mc ms P) 58 = oFld 1 59 := rfl
theorem lX10_floatBy_59 : lk (tX10_floatBy d mc ms P) 59 = oFld 2 60 := rfl
theorem lX10_floatBy_60 : lk (tX10_floatBy d mc ms P) 60 = oFmm false mc ms 63 := rfl
theorem lX10_floatBy_63 : lk (tX10_floatBy d mc ms P) 63 = oRetF mc ms P := rfl
theorem lX10_floatBy_64 : lk (tX10_floatBy d mc ms P) 64 = oFld 1 65 := rfl
theorem lX10_floatBy_65 : lk (tX10_floatBy d mc ms P) 65 = oFld 2 66 := rfl
theorem lX10_floatBy_66 : lk (tX10_floatBy d mc ms P) 66 = oFmm true mc ms 69 := rfl
theorem lX10_floatBy_69 : lk (tX10_floatBy d mc ms P) 69 = oRetF mc ms P := rfl
theorem lX10_floatBy_70 : lk (tX10_floatBy d mc ms P) 70 = oFld 1 71 := rfl
theorem lX10_floatBy_71 : lk (tX10_floatBy d mc ms P) 71 = oFld 2 72 := rfl
theorem lX10_floatBy_72 : lk (tX10_floatBy d mc ms P) 72 = oF2 FP.fsub 73 := rfl
theorem lX10_floatBy_73 : lk (tX10_floatBy d mc ms P) 73 = oCallS d mc ms P 0 0 yX10_bounded (Cond.code yX10_bounded cX10_bounded 1 (some .float)) 1 76 := rfl
theorem lX10_floatBy_76 : lk (tX10_floatBy d mc ms P) 76 = oRetF mc ms P := rfl
theorem lX10_difference_0 : lk (tX10_difference d mc ms P) 0 = oAld 0 1 := rfl
theorem lX10_difference_1 : lk (tX10_difference d mc ms P) 1 = oPush (.int 0) 2 := rfl
theorem lX10_difference_2 : lk (tX10_difference d mc ms P) 2 = oPi 10 0 5 := rfl
theorem lX10_difference_5 : lk (tX10_difference d mc ms P) 5 = oIld 1 6 := rfl
theorem lX10_difference_6 : lk (tX10_difference d mc ms P) 6 = oCallS d mc ms P 0 0 yX10_isVariable (Cond.code yX10_isVariable cX10_isVariable 1 (some .boolean)) 1 9 := rfl
theorem lX10_difference_9 : lk (tX10_difference d mc ms P) 9 = oIf (fun x => x = 0) 12 19 := rfl
theorem lX10_difference_12 : lk (tX10_difference d mc ms P) 12 = oAld 0 13 := rfl
theorem lX10_difference_13 : lk (tX10_difference d mc ms P) 13 = oPush (.int 1) 14 := rfl
theorem lX10_difference_14 : lk (tX10_difference d mc ms P) 14 = oCallV d mc ms P 0 0 yX10_raises (Cond.code yX10_raises cX10_raises 2 (some .int)) 1 10 17 := rfl
theorem lX10_difference_17 : lk (tX10_difference d mc ms P) 17 = oIcv (fun x => .double (FP.i2d x)) 18 := rfl
theorem lX10_difference_18 : lk (tX10_difference d mc ms P) 18 = oRetD mc ms P := rfl
theorem lX10_difference_19 : lk (tX10_difference d mc ms P) 19 = oAld 0 20 := rfl
theorem lX10_difference_20 : lk (tX10_difference d mc ms P) 20 = oGi 10 29 23 := rfl
theorem lX10_difference_23 : lk (tX10_difference d mc ms P) 23 = oIf (fun x => x < 0) 39 26 := rfl
theorem lX10_difference_26 : lk (tX10_difference d mc ms P) 26 = oAld 0 27 := rfl
theorem lX10_difference_27 : lk (tX10_difference d mc ms P) 27 = oGi 10 29 30 := rfl
theorem lX10_difference_30 : lk (tX10_difference d mc ms P) 30 = oAld 0 31 := rfl
theorem lX10_difference_31 : lk (tX10_difference d mc ms P) 31 = oGr 10 1 34 := rfl
theorem lX10_difference_34 : lk (tX10_difference d mc ms P) 34 = oPush (.int 1) 35 := rfl
theorem lX10_difference_35 : lk (tX10_difference d mc ms P) 35 = oAi 100 36 := rfl
theorem lX10_difference_36 : lk (tX10_difference d mc ms P) 36 = oIc (fun x y => x = y) 46 39 := rfl
theorem lX10_difference_39 : lk (tX10_difference d mc ms P) 39 = oAld 0 40 := rfl
theorem lX10_difference_40 : lk (tX10_difference d mc ms P) 40 = oPush (.int 2) 41 := rfl
theorem lX10_difference_41 : lk (tX10_difference d mc ms P) 41 = oCallV d mc ms P 0 0 yX10_raises (Cond.code yX10_raises cX10_raises 2 (some .int)) 1 10 44 := rfl
theorem lX10_difference_44 : lk (tX10_difference d mc ms P) 44 = oIcv (fun x => .double (FP.i2d x)) 45 := rfl
theorem lX10_difference_45 : lk (tX10_difference d mc ms P) 45 = oRetD mc ms P := rfl
theorem lX10_difference_46 : lk (tX10_difference d mc ms P) 46 = oAld 0 47 := rfl
theorem lX10_difference_47 : lk (tX10_difference d mc ms P) 47 = oGr 10 1 50 := rfl
theorem lX10_difference_50 : lk (tX10_difference d mc ms P) 50 = oPush (.int 1) 51 := rfl
theorem lX10_difference_51 : lk (tX10_difference d mc ms P) 51 = oAi 100 52 := rfl
theorem lX10_difference_52 : lk (tX10_difference d mc ms P) 52 = oPush (.int 1) 53 := rfl
theorem lX10_difference_53 : lk (tX10_difference d mc ms P) 53 = oIc (fun x y => x = y) 56 70 := rfl
theorem lX10_difference_56 : lk (tX10_difference d mc ms P) 56 = oAld 0 57 := rfl
theorem lX10_difference_57 : lk (tX10_difference d mc ms P) 57 = oCallV d mc ms P 0 0 yX10_hasBits (Cond.code yX10_hasBits cX10_hasBits 3 (some .boolean)) 0 10 60 := rfl
theorem lX10_difference_60 : lk (tX10_difference d mc ms P) 60 = oIf (fun x => x = 0) 70 63 := rfl
theorem lX10_difference_63 : lk (tX10_difference d mc ms P) 63 = oAld 0 64 := rfl
theorem lX10_difference_64 : lk (tX10_difference d mc ms P) 64 = oPush (.int 3) 65 := rfl
theorem lX10_difference_65 : lk (tX10_difference d mc ms P) 65 = oCallV d mc ms P 0 0 yX10_raises (Cond.code yX10_raises cX10_raises 2 (some .int)) 1 10 68 := rfl
theorem lX10_difference_68 : lk (tX10_difference d mc ms P) 68 = oIcv (fun x => .double (FP.i2d x)) 69 := rfl
theorem lX10_difference_69 : lk (tX10_difference d mc ms P) 69 = oRetD mc ms P := rfl
theorem lX10_difference_70 : lk (tX10_difference d mc ms P) 70 = oAld 0 71 := rfl
theorem lX10_difference_71 : lk (tX10_difference d mc ms P) 71 = oPush (.int 0) 72 := rfl
theorem lX10_difference_72 : lk (tX10_difference d mc ms P) 72 = oPush (.int 0) 73 := rfl
theorem lX10_difference_73 : lk (tX10_difference d mc ms P) 73 = oCallV d mc ms P 0 0 yX10_executes (Cond.code yX10_executes cX10_executes 5 none) 2 10 76 := rfl
theorem lX10_difference_76 : lk (tX10_difference d mc ms P) 76 = oAld 0 77 := rfl
theorem lX10_difference_77 : lk (tX10_difference d mc ms P) 77 = oGi 10 29 80 := rfl
theorem lX10_difference_80 : lk (tX10_difference d mc ms P) 80 = oIf (fun x => x = 0) 83 93 := rfl
theorem lX10_difference_83 : lk (tX10_difference d mc ms P) 83 = oAld 0 84 := rfl
theorem lX10_difference_84 : lk (tX10_difference d mc ms P) 84 = oGr 10 32 87 := rfl
theorem lX10_difference_87 : lk (tX10_difference d mc ms P) 87 = oIld 1 88 := rfl
theorem lX10_difference_88 : lk (tX10_difference d mc ms P) 88 = oAi 100 89 := rfl
set_option maxRecDepth 20000 in
theorem lX10_difference_89 : lk (tX10_difference d mc ms P) 89 = oIcv (fun x => .double (FP.i2d x)) 90 := rfl
set_option maxRecDepth 20000 in
theorem lX10_difference_90 : lk (tX10_difference d mc ms P) 90 = oGoto 100 := rfl
set_option maxRecDepth 20000 in
theorem lX10_difference_93 : lk (tX10_difference d mc ms P) 93 = oAld 0 94 := rfl
set_option maxRecDepth 20000 in
theorem lX10_difference_94 : lk (tX10_difference d mc ms P) 94 = oGr 10 33 97 := rfl
set_option maxRecDepth 20000 in
theorem lX10_difference_97 : lk (tX10_difference d mc ms P) 97 = oIld 1 98 := rfl
set_option maxRecDepth 20000 in
theorem lX10_difference_98 : lk (tX10_difference d mc ms P) 98 = oAf 99 := rfl
set_option maxRecDepth 20000 in
theorem lX10_difference_99 : lk (tX10_difference d mc ms P) 99 = oF2d 100 := rfl
set_option maxRecDepth 20000 in
theorem lX10_difference_100 : lk (tX10_difference d mc ms P) 100 = oDst 2 101 := rfl
set_option maxRecDepth 20000 in
theorem lX10_difference_101 : lk (tX10_difference d mc ms P) 101 = oAld 0 102 := rfl
set_option maxRecDepth 20000 in
theorem lX10_difference_102 : lk (tX10_difference d mc ms P) 102 = oGi 10 29 105 := rfl
set_option maxRecDepth 20000 in
theorem lX10_difference_105 : lk (tX10_difference d mc ms P) 105 = oIf (fun x => x = 0) 108 118 := rfl
set_option maxRecDepth 20000 in
theorem lX10_difference_108 : lk (tX10_difference d mc ms P) 108 = oAld 0 109 := rfl
set_option maxRecDepth 20000 in
theorem lX10_difference_109 : lk (tX10_difference d mc ms P) 109 = oGr 10 25 112 := rfl
set_option maxRecDepth 20000 in
theorem lX10_difference_112 : lk (tX10_difference d mc ms P) 112 = oIld 1 113 := rfl
set_option maxRecDepth 20000 in
theorem lX10_difference_113 : lk (tX10_difference d mc ms P) 113 = oAi 100 114 := rfl
set_option maxRecDepth 20000 in
theorem lX10_difference_114 : lk (tX10_difference d mc ms P) 114 = oIcv (fun x => .double (FP.i2d x)) 115 := rfl
set_option maxRecDepth 20000 in
theorem lX10_difference_115 : lk (tX10_difference d mc ms P) 115 = oGoto 125 := rfl
set_option maxRecDepth 20000 in
theorem lX10_difference_118 : lk (tX10_difference d mc ms P) 118 = oAld 0 119 := rfl
set_option maxRecDepth 20000 in
theorem lX10_difference_119 : lk (tX10_difference d mc ms P) 119 = oGr 10 26 122 := rfl
set_option maxRecDepth 20000 in
theorem lX10_difference_122 : lk (tX10_difference d mc ms P) 122 = oIld 1 123 := rfl
set_option maxRecDepth 20000 in
theorem lX10_difference_123 : lk (tX10_difference d mc ms P) 123 = oAf 124 := rfl
set_option maxRecDepth 20000 in
theorem lX10_difference_124 : lk (tX10_difference d mc ms P) 124 = oF2d 125 := rfl
set_option maxRecDepth 20000 in
theorem lX10_difference_125 : lk (tX10_difference d mc ms P) 125 = oDst 4 127 := rfl
set_option maxRecDepth 20000 in
theorem lX10_difference_127 : lk (tX10_difference d mc ms P) 127 = oDld 2 128 := rfl
set_option maxRecDepth 20000 in
theorem lX10_difference_128 : lk (tX10_difference d mc ms P) 128 = oDld 4 130 := rfl
set_option maxRecDepth 20000 in
theorem lX10_difference_130 : lk (tX10_difference d mc ms P) 130 = oD2 FP.dsub 131 := rfl
set_option maxRecDepth 20000 in
theorem lX10_difference_131 : lk (tX10_difference d mc ms P) 131 = oDabs mc ms 134 := rfl
set_option maxRecDepth 20000 in
theorem lX10_difference_134 : lk (tX10_difference d mc ms P) 134 = oRetD mc ms P := rfl
theorem lX2_neutralOf_0 : lk (tX2_neutralOf d mc ms P) 0 = oIld 0 1 := rfl
theorem lX2_neutralOf_1 : lk (tX2_neutralOf d mc ms P) 1 = oSw [(301, 36), (305, 38), (306, 41)] 44 := rfl
theorem lX2_neutralOf_36 : lk (tX2_neutralOf d mc ms P) 36 = oPush (.float FP.fconst1) 37 := rfl
theorem lX2_neutralOf_37 : lk (tX2_neutralOf d mc ms P) 37 = oRetF mc ms P := rfl
theorem lX2_neutralOf_38 : lk (tX2_neutralOf d mc ms P) 38 = oPush (.float 1900671690) 40 := rfl
theorem lX2_neutralOf_40 : lk (tX2_neutralOf d mc ms P) 40 = oRetF mc ms P := rfl
theorem lX2_neutralOf_41 : lk (tX2_neutralOf d mc ms P) 41 = oPush (.float 4048155338) 43 := rfl
theorem lX2_neutralOf_43 : lk (tX2_neutralOf d mc ms P) 43 = oRetF mc ms P := rfl
theorem lX2_neutralOf_44 : lk (tX2_neutralOf d mc ms P) 44 = oPush (.float FP.fconst0) 45 := rfl
theorem lX2_neutralOf_45 : lk (tX2_neutralOf d mc ms P) 45 = oRetF mc ms P := rfl
end
