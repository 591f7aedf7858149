def tX5_rowNow (d mc ms : Nat) (P : PO) : List (Nat × OP) := [(0, oAld 0 1), (1, oGi2 2 4 1 4), (4, oRetI mc ms P)]
set_option maxRecDepth 20000 in
theorem sX5_rowNow {p : Program} {l : Launch} {e : Env} {s : State} {m : MethodId} {args : Array Value} {below : List Frame} {meth : Method} {c : Code} {D : va_G} {cA : Nat → ClassId} {ad0 : Nat → Nat} {n0 sz d mc ms : Nat} {P : PO} (hM : FM p l s m args meth c D cA 1 ad0 n0 sz cX5_rowNow RX5 (some .int) [] yX5_rowNow.name) : ∀ q ∈ tX5_rowNow d mc ms P, Snd (jM p l e s m args below meth c D cA 1 ad0 n0 sz (d + 1) mc ms P) q.1 q.2 := by
  have hF := hM.1
  have hts := hF.2.2.2.2.1
  unfold tX5_rowNow
  refine fmS (snd_aloadn hF (k := 0) rfl (by decide +kernel)) ?_
  refine fmS (snd_geti2 hF okX2 okX4 (k := 1) (by decide) (by decide) qw221 rfl rfl rfl rfl (by decide +kernel)) ?_
  refine fmS (snd_retI hM (by decide +kernel)) ?_
  exact fmE
theorem iX5_rowNow {d mc ms n : Nat} {av : List Value} {M : PM} {P : PO} (hw : wid av ≤ 1) (hb : ∀ J : KT, (∀ (k : Nat) (stops : Nat → Bool) (pc : Nat) (lv : LV) (st : List Value) (nn : NN) (M : PM), lk (tX5_rowNow d mc ms P) pc (wpN (tX5_rowNow d mc ms P) stops k J) lv st nn M → J pc lv st nn M) → J 0 (entA 0 av) [] (n, 0, 0) M) : CallOK (d + 1) mc ms yX5_rowNow (Cond.code yX5_rowNow cX5_rowNow 1 (some .int)) av n M P := call_intro (own := RX5) (by decide) rfl hw (fun _ _ _ _ _ _ _ _ _ _ _ _ _ hM => sX5_rowNow hM) hb
def tX5_constantOf (d mc ms : Nat) (P : PO) : List (Nat × OP) := [(0, oIld 1 1), (1, oPush (.int 200) 4), (4, oIc (fun x y => x < y) 18 7), (7, oIld 1 8), (8, oPush (.int 203) 11), (11, oIc (fun x y => y ≤ x) 18 14), (14, oPush (.int 1) 15), (15, oGoto 19), (18, oPush (.int 0) 19), (19, oIst 2 20), (20, oIld 2 21), (21, oIf (fun x => x = 0) 45 24), (24, oAld 0 25), (25, oGr2 2 4 0 28), (28, oGr 1 2 31), (31, oIld 1 32), (32, oPush (.int 200) 35), (35, oI2 (fun x y => x - y) 36), (36, oAr 106 37), (37, oAld 0 38), (38, oGi2 2 4 2 41), (41, oAi 100 42), (42, oGoto 46), (45, oIld 1 46), (46, oRetI mc ms P)]
set_option maxRecDepth 20000 in
theorem sX5_constantOf {p : Program} {l : Launch} {e : Env} {s : State} {m : MethodId} {args : Array Value} {below : List Frame} {meth : Method} {c : Code} {D : va_G} {cA : Nat → ClassId} {ad0 : Nat → Nat} {n0 sz d mc ms : Nat} {P : PO} (hM : FM p l s m args meth c D cA 3 ad0 n0 sz cX5_constantOf RX5 (some .int) [] yX5_constantOf.name) : ∀ q ∈ tX5_constantOf d mc ms P, Snd (jM p l e s m args below meth c D cA 3 ad0 n0 sz (d + 1) mc ms P) q.1 q.2 := by
  have hF := hM.1
  have hts := hF.2.2.2.2.1
  unfold tX5_constantOf
  refine fmS (snd_iloadn hF (k := 1) rfl (by decide +kernel)) ?_
  refine fmS (snd_sipush hF (n := 200) (by decide +kernel) (by decide +kernel)) ?_
  refine fmS (snd_icmp_lt hF (off := 14) (by decide) (by decide +kernel)) ?_
  refine fmS (snd_iloadn hF (k := 1) rfl (by decide +kernel)) ?_
  refine fmS (snd_sipush hF (n := 203) (by decide +kernel) (by decide +kernel)) ?_
  refine fmS (snd_icmp_ge hF (off := 7) (by decide) (by decide +kernel)) ?_
  refine fmS (snd_iconst hF (n := 1) rfl (by decide +kernel)) ?_
  refine fmS (snd_goto hF (off := 4) (by decide) (by decide +kernel)) ?_
  refine fmS (snd_iconst hF (n := 0) rfl (by decide +kernel)) ?_
  refine fmS (snd_istoren hF (k := 2) rfl (by decide) (by decide +kernel)) ?_
  refine fmS (snd_iloadn hF (k := 2) rfl (by decide +kernel)) ?_
  refine fmS (snd_if_eq hF (off := 24) (by decide) (by decide +kernel)) ?_
  refine fmS (snd_aloadn hF (k := 0) rfl (by decide +kernel)) ?_
  refine fmS (snd_getr2 hF okX2 okX4 (k := 0) (by decide) (by decide) qw220 rfl rfl rfl rfl (by decide +kernel)) ?_
  refine fmS (snd_getrN hF okX1 (k := 2) (by decide) qw194 rfl rfl (by decide +kernel)) ?_
  refine fmS (snd_iloadn hF (k := 1) rfl (by decide +kernel)) ?_
  refine fmS (snd_sipush hF (n := 200) (by decide +kernel) (by decide +kernel)) ?_
  refine fmS (snd_isub hF (by decide +kernel)) ?_
  refine fmS (snd_aaload106 hF (by decide +kernel)) ?_
  refine fmS (snd_aloadn hF (k := 0) rfl (by decide +kernel)) ?_
  refine fmS (snd_geti2 hF okX2 okX4 (k := 2) (by decide) (by decide) qw222 rfl rfl rfl rfl (by decide +kernel)) ?_
  refine fmS (snd_iaload hF (by decide +kernel)) ?_
  refine fmS (snd_goto hF (off := 4) (by decide) (by decide +kernel)) ?_
  refine fmS (snd_iloadn hF (k := 1) rfl (by decide +kernel)) ?_
  refine fmS (snd_retI hM (by decide +kernel)) ?_
  exact fmE
theorem iX5_constantOf {d mc ms n : Nat} {av : List Value} {M : PM} {P : PO} (hw : wid av ≤ 3) (hb : ∀ J : KT, (∀ (k : Nat) (stops : Nat → Bool) (pc : Nat) (lv : LV) (st : List Value) (nn : NN) (M : PM), lk (tX5_constantOf d mc ms P) pc (wpN (tX5_constantOf d mc ms P) stops k J) lv st nn M → J pc lv st nn M) → J 0 (entA 0 av) [] (n, 0, 0) M) : CallOK (d + 1) mc ms yX5_constantOf (Cond.code yX5_constantOf cX5_constantOf 3 (some .int)) av n M P := call_intro (own := RX5) (by decide) rfl hw (fun _ _ _ _ _ _ _ _ _ _ _ _ _ hM => sX5_constantOf hM) hb
def tX5_countChanged (d mc ms : Nat) (P : PO) : List (Nat × OP) := [(0, oPush (.int 0) 1), (1, oIst 1 2), (2, oPush (.int 0) 3), (3, oIst 2 4), (4, oIld 2 5), (5, oPush (.int 8) 7), (7, oIc (fun x y => y ≤ x) 40 10), (10, oAld 0 11), (11, oPush (.int 16) 13), (13, oIld 2 14), (14, oDisp 2 [(2, oCallV d mc ms P 0 0 yX2_valueOf (Cond.code yX2_valueOf cX2_valueOf 3 (some .double)) 2 2 17), (4, oCallV d mc ms P 0 0 yX4_valueOf (Cond.code yX4_valueOf cX4_valueOf 3 (some .double)) 2 4 17)]), (17, oAld 0 18), (18, oGr2 2 4 0 21), (21, oGr 1 3 24), (24, oIld 2 25), (25, oAi 100 26), (26, oIcv (fun x => .double (FP.i2d x)) 27), (27, oDcmp .l 28), (28, oIf (fun x => x = 0) 34 31), (31, oInc 1 1 34), (34, oInc 2 1 37), (37, oGoto 4), (40, oIld 1 41), (41, oRetI mc ms P)]
set_option maxRecDepth 20000 in
theorem sX5_countChanged {p : Program} {l : Launch} {e : Env} {s : State} {m : MethodId} {args : Array Value} {below : List Frame} {meth : Method} {c : Code} {D : va_G} {cA : Nat → ClassId} {ad0 : Nat → Nat} {n0 sz d mc ms : Nat} {P : PO} (hM : FM p l s m args meth c D cA 3 ad0 n0 sz cX5_countChanged RX5 (some .int) [] yX5_countChanged.name) : ∀ q ∈ tX5_countChanged d mc ms P, Snd (jM p l e s m args below meth c D cA 3 ad0 n0 sz (d + 1) mc ms P) q.1 q.2 := by
  have hF := hM.1
  have hts := hF.2.2.2.2.1
  unfold tX5_countChanged
  refine fmS (snd_iconst hF (n := 0) rfl (by decide +kernel)) ?_
  refine fmS (snd_istoren hF (k := 1) rfl (by decide) (by decide +kernel)) ?_
  refine fmS (snd_iconst hF (n := 0) rfl (by decide +kernel)) ?_
  refine fmS (snd_istoren hF (k := 2) rfl (by decide) (by decide +kernel)) ?_
  refine fmS (snd_iloadn hF (k := 2) rfl (by decide +kernel)) ?_
  refine fmS (snd_bipush hF (n := 8) (by decide +kernel) (by decide +kernel)) ?_
  refine fmS (snd_icmp_ge hF (off := 33) (by decide) (by decide +kernel)) ?_
  refine fmS (snd_aloadn hF (k := 0) rfl (by decide +kernel)) ?_
  refine fmS (snd_bipush hF (n := 16) (by decide +kernel) (by decide +kernel)) ?_
  refine fmS (snd_iloadn hF (k := 2) rfl (by decide +kernel)) ?_
  refine fmS (snd_disp ((fmD (snd_callU hM k_X2_valueOf okX2 (x := ⟨"ReductionFinder$Machine", "valueOf", "(II)D"⟩) (owner := "ReductionFinder$Machine") qw1038 qw1040 qw1039 qw1041 qw1042 (by decide) rfl (by decide +kernel)) (fmD (snd_callU hM k_X4_valueOf okX4 (x := ⟨"ReductionFinder$Machine", "valueOf", "(II)D"⟩) (owner := "ReductionFinder$Machine") qw1038 qw1040 qw1039 qw1044 qw1045 (by decide) rfl (by decide +kernel)) fmN)))) ?_
  refine fmS (snd_aloadn hF (k := 0) rfl (by decide +kernel)) ?_
  refine fmS (snd_getr2 hF okX2 okX4 (k := 0) (by decide) (by decide) qw220 rfl rfl rfl rfl (by decide +kernel)) ?_
  refine fmS (snd_getrN hF okX1 (k := 3) (by decide) qw196 rfl rfl (by decide +kernel)) ?_
  refine fmS (snd_iloadn hF (k := 2) rfl (by decide +kernel)) ?_
  refine fmS (snd_iaload hF (by decide +kernel)) ?_
  refine fmS (snd_i2d hF (by decide +kernel)) ?_
  refine fmS (snd_dcmp hF (by decide +kernel)) ?_
  refine fmS (snd_if_eq hF (off := 6) (by decide) (by decide +kernel)) ?_
  refine fmS (snd_iinc hF (n := 1) (by decide +kernel) (by decide) (by decide +kernel)) ?_
  refine fmS (snd_iinc hF (n := 1) (by decide +kernel) (by decide) (by decide +kernel)) ?_
  refine fmS (snd_goto hF (off := (-33)) (by decide) (by decide +kernel)) ?_
  refine fmS (snd_iloadn hF (k := 1) rfl (by decide +kernel)) ?_
  refine fmS (snd_retI hM (by decide +kernel)) ?_
  exact fmE
theorem iX5_countChanged {d mc ms n : Nat} {av : List Value} {M : PM} {P : PO} (hw : wid av ≤ 3) (hb : ∀ J : KT, (∀ (k : Nat) (stops : Nat → Bool) (pc : Nat) (lv : LV) (st : List Value) (nn : NN) (M : PM), lk (tX5_countChanged d mc ms P) pc (wpN (tX5_countChanged d mc ms P) stops k J) lv st nn M → J pc lv st nn M) → J 0 (entA 0 av) [] (n, 0, 0) M) : CallOK (d + 1) mc ms yX5_countChanged (Cond.code yX5_countChanged cX5_countChanged 3 (some .int)) av n M P := call_intro (own := RX5) (by decide) rfl hw (fun _ _ _ _ _ _ _ _ _ _ _ _ _ hM => sX5_countChanged hM) hb
def tX5_runOrder (d mc ms : Nat) (P : PO) : List (Nat × OP) := [(0, oIld 2 1), (1, oIf (fun x => x = 0) 14 4), (4, oAld 0 5), (5, oGr2 2 4 0 8), (8, oGi 1 1 11), (11, oIf (fun x => x = 0) 14 22), (14, oAld 0 15), (15, oAld 1 16), (16, oPush (.int 16) 18), (18, oDisp 2 [(2, oCallV d mc ms P 0 0 yX5_runSequence (Cond.code yX5_runSequence cX5_runSequence 4 none) 2 2 21), (4, oCallV d mc ms P 0 0 yX5_runSequence (Cond.code yX5_runSequence cX5_runSequence 4 none) 2 4 21)]), (21, oRetV mc ms P), (22, oIld 2 23), (23, oPush (.int 3) 24), (24, oIc (fun x y => x = y) 27 37), (27, oAld 0 28), (28, oGr2 2 4 0 31), (31, oGi 1 1 34), (34, oGoto 43), (37, oIld 3 38), (38, oPush (.int 8) 40), (40, oMm (fun x y => if y < x then y else x) mc ms 43), (43, oIst 4 45), (45, oPush (.int 0) 46), (46, oIst 5 48), (48, oIld 5 50), (50, oIld 4 52), (52, oIc (fun x y => y ≤ x) 71 55), (55, oAld 0 56), (56, oAld 1 57), (57, oIld 2 58), (58, oIld 5 60), (60, oIld 4 62), (62, oDisp 4 [(2, oCallV d mc ms P 0 0 yX5_runPart (Cond.code yX5_runPart cX5_runPart 10 none) 4 2 65), (4, oCallV d mc ms P 0 0 yX5_runPart (Cond.code yX5_runPart cX5_runPart 10 none) 4 4 65)]), (65, oInc 5 1 68), (68, oGoto 48), (71, oAld 0 72), (72, oPush (.int 16) 74), (74, oDisp 1 [(2, oCallV d mc ms P 0 0 yX5_beginRow (Cond.code yX5_beginRow cX5_beginRow 3 none) 1 2 77), (4, oCallV d mc ms P 0 0 yX5_beginRow (Cond.code yX5_beginRow cX5_beginRow 3 none) 1 4 77)]), (77, oAld 0 78), (78, oAld 1 79), (79, oPush (.int 16) 81), (81, oAld 0 82), (82, oGr2 2 4 0 85), (85, oGi 1 1 88), (88, oPush (.int 1) 89), (89, oI2 (fun x y => x - y) 90), (90, oDisp 3 [(2, oCallV d mc ms P 0 0 yX5_runIteration (Cond.code yX5_runIteration cX5_runIteration 5 none) 3 2 93), (4, oCallV d mc ms P 0 0 yX5_runIteration (Cond.code yX5_runIteration cX5_runIteration 5 none) 3 4 93)]), (93, oIld 2 94), (94, oPush (.int 3) 95), (95, oIc (fun x y => x = y) 98 114), (98, oAld 0 99), (99, oAld 1 100), (100, oIld 4 102), (102, oDisp 2 [(2, oCallV d mc ms P 0 0 yX5_joinTree (Cond.code yX5_joinTree cX5_joinTree 5 none) 2 2 105), (4, oCallV d mc ms P 0 0 yX5_joinTree (Cond.code yX5_joinTree cX5_joinTree 5 none) 2 4 105)]), (105, oAld 0 106), (106, oAld 1 107), (107, oPush (.int 1) 108), (108, oDisp 2 [(2, oCallV d mc ms P 0 0 yX5_joinParts (Cond.code yX5_joinParts cX5_joinParts 4 none) 2 2 111), (4, oCallV d mc ms P 0 0 yX5_joinParts (Cond.code yX5_joinParts cX5_joinParts 4 none) 2 4 111)]), (111, oGoto 121), (114, oAld 0 115), (115, oAld 1 116), (116, oIld 4 118), (118, oDisp 2 [(2, oCallV d mc ms P 0 0 yX5_joinParts (Cond.code yX5_joinParts cX5_joinParts 4 none) 2 2 121), (4, oCallV d mc ms P 0 0 yX5_joinParts (Cond.code yX5_joinParts cX5_joinParts 4 none) 2 4 121)]), (121, oRetV mc ms P)]
set_option maxRecDepth 20000 in
theorem sX5_runOrder {p : Program} {l : Launch} {e : Env} {s : State} {m : MethodId} {args : Array Value} {below : List Frame} {meth : Method} {c : Code} {D : va_G} {cA : Nat → ClassId} {ad0 : Nat → Nat} {n0 sz d mc ms : Nat} {P : PO} (hM : FM p l s m args meth c D cA 6 ad0 n0 sz cX5_runOrder RX5 none [] yX5_runOrder.name) : ∀ q ∈ tX5_runOrder d mc ms P, Snd (jM p l e s m args below meth c D cA 6 ad0 n0 sz (d + 1) mc ms P) q.1 q.2 := by
  have hF := hM.1
  have hts := hF.2.2.2.2.1
  unfold tX5_runOrder
  refine fmS (snd_iloadn hF (k := 2) rfl (by decide +kernel)) ?_
  refine fmS (snd_if_eq hF (off := 13) (by decide) (by decide +kernel)) ?_
  refine fmS (snd_aloadn hF (k := 0) rfl (by decide +kernel)) ?_
  refine fmS (snd_getr2 hF okX2 okX4 (k := 0) (by decide) (by decide) qw220 rfl rfl rfl rfl (by decide +kernel)) ?_
  refine fmS (snd_getiN hF okX1 (k := 1) (by decide) qw191 rfl rfl (by decide +kernel)) ?_
  refine fmS (snd_if_ne hF (off := 11) (by decide) (by decide +kernel)) ?_
  refine fmS (snd_aloadn hF (k := 0) rfl (by decide +kernel)) ?_
  refine fmS (snd_aloadn hF (k := 1) rfl (by decide +kernel)) ?_
  refine fmS (snd_bipush hF (n := 16) (by decide +kernel) (by decide +kernel)) ?_
  refine fmS (snd_disp ((fmD (snd_callV hM k_X5_runSequence okX2 qw941 qw943 (selP (C := RX2) (y0 := yX5_rowNow) (y := yX5_runSequence) (n := 5) rfl (by decide) (hts _ qw651) (hts _ qw235) (hts _ qw942) (hts _ qw943)) (by decide +kernel)) (fmD (snd_callV hM k_X5_runSequence okX4 qw941 qw943 (selP (C := RX4) (y0 := yX5_rowNow) (y := yX5_runSequence) (n := 5) rfl (by decide) (hts _ qw651) (hts _ qw208) (hts _ qw942) (hts _ qw943)) (by decide +kernel)) fmN)))) ?_
  refine fmS (snd_retV hM (by decide +kernel)) ?_
  refine fmS (snd_iloadn hF (k := 2) rfl (by decide +kernel)) ?_
  refine fmS (snd_iconst hF (n := 3) rfl (by decide +kernel)) ?_
  refine fmS (snd_icmp_ne hF (off := 13) (by decide) (by decide +kernel)) ?_
  refine fmS (snd_aloadn hF (k := 0) rfl (by decide +kernel)) ?_
  refine fmS (snd_getr2 hF okX2 okX4 (k := 0) (by decide) (by decide) qw220 rfl rfl rfl rfl (by decide +kernel)) ?_
  refine fmS (snd_getiN hF okX1 (k := 1) (by decide) qw191 rfl rfl (by decide +kernel)) ?_
  refine fmS (snd_goto hF (off := 9) (by decide) (by decide +kernel)) ?_
  refine fmS (snd_iloadn hF (k := 3) rfl (by decide +kernel)) ?_
  refine fmS (snd_bipush hF (n := 8) (by decide +kernel) (by decide +kernel)) ?_
  refine fmS (snd_mmin hM qw976 qw635 qw93 qw636 (by decide +kernel)) ?_
  refine fmS (snd_istore hF (by decide) (by decide +kernel)) ?_
  refine fmS (snd_iconst hF (n := 0) rfl (by decide +kernel)) ?_
  refine fmS (snd_istore hF (by decide) (by decide +kernel)) ?_
  refine fmS (snd_iload hF (by decide +kernel)) ?_
  refine fmS (snd_iload hF (by decide +kernel)) ?_
  refine fmS (snd_icmp_ge hF (off := 19) (by decide) (by decide +kernel)) ?_
  refine fmS (snd_aloadn hF (k := 0) rfl (by decide +kernel)) ?_
  refine fmS (snd_aloadn hF (k := 1) rfl (by decide +kernel)) ?_
  refine fmS (snd_iloadn hF (k := 2) rfl (by decide +kernel)) ?_
  refine fmS (snd_iload hF (by decide +kernel)) ?_
  refine fmS (snd_iload hF (by decide +kernel)) ?_
  refine fmS (snd_disp ((fmD (snd_callV hM k_X5_runPart okX2 qw977 qw979 (selP (C := RX2) (y0 := yX5_rowNow) (y := yX5_runPart) (n := 5) rfl (by decide) (hts _ qw651) (hts _ qw235) (hts _ qw978) (hts _ qw979)) (by decide +kernel)) (fmD (snd_callV hM k_X5_runPart okX4 qw977 qw979 (selP (C := RX4) (y0 := yX5_rowNow) (y := yX5_runPart) (n := 5) rfl (by decide) (hts _ qw651) (hts _ qw208) (hts _ qw978) (hts _ qw979)) (by decide +kernel)) fmN)))) ?_
  refine fmS (snd_iinc hF (n := 1) (by decide +kernel) (by decide) (by decide +kernel)) ?_
  refine fmS (snd_goto hF (off := (-20)) (by decide) (by decide +kernel)) ?_
  refine fmS (snd_aloadn hF (k := 0) rfl (by decide +kernel)) ?_
  refine fmS (snd_bipush hF (n := 16) (by decide +kernel) (by decide +kernel)) ?_
  refine fmS (snd_disp ((fmD (snd_callV hM k_X5_beginRow okX2 qw945 qw947 (selP (C := RX2) (y0 := yX5_rowNow) (y := yX5_beginRow) (n := 5) rfl (by decide) (hts _ qw651) (hts _ qw235) (hts _ qw946) (hts _ qw947)) (by decide +kernel)) (fmD (snd_callV hM k_X5_beginRow okX4 qw945 qw947 (selP (C := RX4) (y0 := yX5_rowNow) (y := yX5_beginRow) (n := 5) rfl (by decide) (hts _ qw651) (hts _ qw208) (hts _ qw946) (hts _ qw947)) (by decide +kernel)) fmN)))) ?_
  refine fmS (snd_aloadn hF (k := 0) rfl (by decide +kernel)) ?_
  refine fmS (snd_aloadn hF (k := 1) rfl (by decide +kernel)) ?_
  refine fmS (snd_bipush hF (n := 16) (by decide +kernel) (by decide +kernel)) ?_
  refine fmS (snd_aloadn hF (k := 0) rfl (by decide +kernel)) ?_
  refine fmS (snd_getr2 hF okX2 okX4 (k := 0) (by decide) (by decide) qw220 rfl rfl rfl rfl (by decide +kernel)) ?_
  refine fmS (snd_getiN hF okX1 (k := 1) (by decide) qw191 rfl rfl (by decide +kernel)) ?_
  refine fmS (snd_iconst hF (n := 1) rfl (by decide +kernel)) ?_
  refine fmS (snd_isub hF (by decide +kernel)) ?_
  refine fmS (snd_disp ((fmD (snd_callV hM k_X5_runIteration okX2 qw958 qw960 (selP (C := RX2) (y0 := yX5_rowNow) (y := yX5_runIteration) (n := 5) rfl (by decide) (hts _ qw651) (hts _ qw235) (hts _ qw959) (hts _ qw960)) (by decide +kernel)) (fmD (snd_callV hM k_X5_runIteration okX4 qw958 qw960 (selP (C := RX4) (y0 := yX5_rowNow) (y := yX5_runIteration) (n := 5) rfl (by decide) (hts _ qw651) (hts _ qw208) (hts _ qw959) (hts _ qw960)) (by decide +kernel)) fmN)))) ?_
  refine fmS (snd_iloadn hF (k := 2) rfl (by decide +kernel)) ?_
  refine fmS (snd_iconst hF (n := 3) rfl (by decide +kernel)) ?_
  refine fmS (snd_icmp_ne hF (off := 19) (by decide) (by decide +kernel)) ?_
  refine fmS (snd_aloadn hF (k := 0) rfl (by decide +kernel)) ?_
  refine fmS (snd_aloadn hF (k := 1) rfl (by decide +kernel)) ?_
  refine fmS (snd_iload hF (by decide +kernel)) ?_
  refine fmS (snd_disp ((fmD (snd_callV hM k_X5_joinTree okX2 qw1000 qw1002 (selP (C := RX2) (y0 := yX5_rowNow) (y := yX5_joinTree) (n := 5) rfl (by decide) (hts _ qw651) (hts _ qw235) (hts _ qw1001) (hts _ qw1002)) (by decide +kernel)) (fmD (snd_callV hM k_X5_joinTree okX4 qw1000 qw1002 (selP (C := RX4) (y0 := yX5_rowNow) (y := yX5_joinTree) (n := 5) rfl (by decide) (hts _ qw651) (hts _ qw208) (hts _ qw1001) (hts _ qw1002)) (by decide +kernel)) fmN)))) ?_
  refine fmS (snd_aloadn hF (k := 0) rfl (by decide +kernel)) ?_
  refine fmS (snd_aloadn hF (k := 1) rfl (by decide +kernel)) ?_
  refine fmS (snd_iconst hF (n := 1) rfl (by decide +kernel)) ?_
  refine fmS (snd_disp ((fmD (snd_callV hM k_X5_joinParts okX2 qw1030 qw1032 (selP (C := RX2) (y0 := yX5_rowNow) (y := yX5_joinParts) (n := 5) rfl (by decide) (hts _ qw651) (hts _ qw235) (hts _ qw1031) (hts _ qw1032)) (by decide +kernel)) (fmD (snd_callV hM k_X5_joinParts okX4 qw1030 qw1032 (selP (C := RX4) (y0 := yX5_rowNow) (y := yX5_joinParts) (n := 5) rfl (by decide) (hts _ qw651) (hts _ qw208) (hts _ qw1031) (hts _ qw1032)) (by decide +kernel)) fmN)))) ?_
  refine fmS (snd_goto hF (off := 10) (by decide) (by decide +kernel)) ?_
  refine fmS (snd_aloadn hF (k := 0) rfl (by decide +kernel)) ?_
  refine fmS (snd_aloadn hF (k := 1) rfl (by decide +kernel)) ?_
  refine fmS (snd_iload hF (by decide +kernel)) ?_
  refine fmS (snd_disp ((fmD (snd_callV hM k_X5_joinParts okX2 qw1030 qw1032 (selP (C := RX2) (y0 := yX5_rowNow) (y := yX5_joinParts) (n := 5) rfl (by decide) (hts _ qw651) (hts _ qw235) (hts _ qw1031) (hts _ qw1032)) (by decide +kernel)) (fmD (snd_callV hM k_X5_joinParts okX4 qw1030 qw1032 (selP (C := RX4) (y0 := yX5_rowNow) (y := yX5_joinParts) (n := 5) rfl (by decide) (hts _ qw651) (hts _ qw208) (hts _ qw1031) (hts _ qw1032)) (by decide +kernel)) fmN)))) ?_
  refine fmS (snd_retV hM (by decide +kernel)) ?_
  exact fmE
theorem iX5_runOrder {d mc ms n : Nat} {av : List Value} {M : PM} {P : PO} (hw : wid av ≤ 6) (hb : ∀ J : KT, (∀ (k : Nat) (stops : Nat → Bool) (pc : Nat) (lv : LV) (st : List Value) (nn : NN) (M : PM), lk (tX5_runOrder d mc ms P) pc (wpN (tX5_runOrder d mc ms P) stops k J) lv st nn M → J pc lv st nn M) → J 0 (entA 0 av) [] (n, 0, 0) M) : CallOK (d + 1) mc ms yX5_runOrder (Cond.code yX5_runOrder cX5_runOrder 6 none) av n M P := call_intro (own := RX5) (by decide) rfl hw (fun _ _ _ _ _ _ _ _ _ _ _ _ _ hM => sX5_runOrder hM) hb
def tX5_runSequence (d mc ms : Nat) (P : PO) : List (Nat × OP) := [(0, oAld 0 1), (1, oIld 2 2), (2, oDisp 1 [(2, oCallV d mc ms P 0 0 yX5_beginRow (Cond.code yX5_beginRow cX5_beginRow 3 none) 1 2 5), (4, oCallV d mc ms P 0 0 yX5_beginRow (Cond.code yX5_beginRow cX5_beginRow 3 none) 1 4 5)]), (5, oPush (.int 0) 6), (6, oIst 3 7), (7, oIld 3 8), (8, oAld 0 9), (9, oGr2 2 4 0 12), (12, oGi 1 1 15), (15, oIc (fun x y => y ≤ x) 31 18), (18, oAld 0 19), (19, oAld 1 20), (20, oIld 2 21), (21, oIld 3 22), (22, oDisp 3 [(2, oCallV d mc ms P 0 0 yX5_runIteration (Cond.code yX5_runIteration cX5_runIteration 5 none) 3 2 25), (4, oCallV d mc ms P 0 0 yX5_runIteration (Cond.code yX5_runIteration cX5_runIteration 5 none) 3 4 25)]), (25, oInc 3 1 28), (28, oGoto 7), (31, oRetV mc ms P)]
set_option maxRecDepth 20000 in
theorem sX5_runSequence {p : Program} {l : Launch} {e : Env} {s : State} {m : MethodId} {args : Array Value} {below : List Frame} {meth : Method} {c : Code} {D : va_G} {cA : Nat → ClassId} {ad0 : Nat → Nat} {n0 sz d mc ms : Nat} {P : PO} (hM : FM p l s m args meth c D cA 4 ad0 n0 sz cX5_runSequence RX5 none [] yX5_runSequence.name) : ∀ q ∈ tX5_runSequence d mc ms P, Snd (jM p l e s m args below meth c D cA 4 ad0 n0 sz (d + 1) mc ms P) q.1 q.2 := by
  have hF := hM.1
  have hts := hF.2.2.2.2.1
  unfold tX5_runSequence
  refine fmS (snd_aloadn hF (k := 0) rfl (by decide +kernel)) ?_
  refine fmS (snd_iloadn hF (k := 2) rfl (by decide +kernel)) ?_
  refine fmS (snd_disp ((fmD (snd_callV hM k_X5_beginRow okX2 qw945 qw947 (selP (C := RX2) (y0 := yX5_rowNow) (y := yX5_beginRow) (n := 5) rfl (by decide) (hts _ qw651) (hts _ qw235) (hts _ qw946) (hts _ qw947)) (by decide +kernel)) (fmD (snd_callV hM k_X5_beginRow okX4 qw945 qw947 (selP (C := RX4) (y0 := yX5_rowNow) (y := yX5_beginRow) (n := 5) rfl (by decide) (hts _ qw651) (hts _ qw208) (hts _ qw946) (hts _ qw947)) (by decide +kernel)) fmN)))) ?_
  refine fmS (snd_iconst hF (n := 0) rfl (by decide +kernel)) ?_
  refine fmS (snd_istoren hF (k := 3) rfl (by decide) (by decide +kernel)) ?_
  refine fmS (snd_iloadn hF (k := 3) rfl (by decide +kernel)) ?_
  refine fmS (snd_aloadn hF (k := 0) rfl (by decide +kernel)) ?_
  refine fmS (snd_getr2 hF okX2 okX4 (k := 0) (by decide) (by decide) qw220 rfl rfl rfl rfl (by decide +kernel)) ?_
  refine fmS (snd_getiN hF okX1 (k := 1) (by decide) qw191 rfl rfl (by decide +kernel)) ?_
  refine fmS (snd_icmp_ge hF (off := 16) (by decide) (by decide +kernel)) ?_
  refine fmS (snd_aloadn hF (k := 0) rfl (by decide +kernel)) ?_
  refine fmS (snd_aloadn hF (k := 1) rfl (by decide +kernel)) ?_
  refine fmS (snd_iloadn hF (k := 2) rfl (by decide +kernel)) ?_
  refine fmS (snd_iloadn hF (k := 3) rfl (by decide +kernel)) ?_
  refine fmS (snd_disp ((fmD (snd_callV hM k_X5_runIteration okX2 qw958 qw960 (selP (C := RX2) (y0 := yX5_rowNow) (y := yX5_runIteration) (n := 5) rfl (by decide) (hts _ qw651) (hts _ qw235) (hts _ qw959) (hts _ qw960)) (by decide +kernel)) (fmD (snd_callV hM k_X5_runIteration okX4 qw958 qw960 (selP (C := RX4) (y0 := yX5_rowNow) (y := yX5_runIteration) (n := 5) rfl (by decide) (hts _ qw651) (hts _ qw208) (hts _ qw959) (hts _ qw960)) (by decide +kernel)) fmN)))) ?_
  refine fmS (snd_iinc hF (n := 1) (by decide +kernel) (by decide) (by decide +kernel)) ?_
  refine fmS (snd_goto hF (off := (-21)) (by decide) (by decide +kernel)) ?_
  refine fmS (snd_retV hM (by decide +kernel)) ?_
  exact fmE
theorem iX5_runSequence {d mc ms n : Nat} {av : List Value} {M : PM} {P : PO} (hw : wid av ≤ 4) (hb : ∀ J : KT, (∀ (k : Nat) (stops : Nat → Bool) (pc : Nat) (lv : LV) (st : List Value) (nn : NN) (M : PM), lk (tX5_runSequence d mc ms P) pc (wpN (tX5_runSequence d mc ms P) stops k J) lv st nn M → J pc lv st nn M) → J 0 (entA 0 av) [] (n, 0, 0) M) : CallOK (d + 1) mc ms yX5_runSequence (Cond.code yX5_runSequence cX5_runSequence 4 none) av n M P := call_intro (own := RX5) (by decide) rfl hw (fun _ _ _ _ _ _ _ _ _ _ _ _ _ hM => sX5_runSequence hM) hb
def tX5_runPart (d mc ms : Nat) (P : PO) : List (Nat × OP) := [(0, oAld 0 1), (1, oIld 3 2), (2, oDisp 1 [(2, oCallV d mc ms P 0 0 yX5_beginRow (Cond.code yX5_beginRow cX5_beginRow 3 none) 1 2 5), (4, oCallV d mc ms P 0 0 yX5_beginRow (Cond.code yX5_beginRow cX5_beginRow 3 none) 1 4 5)]), (5, oPush (.int 0) 6), (6, oIst 5 8), (8, oIld 5 10), (10, oPush (.int 8) 12), (12, oIc (fun x y => y ≤ x) 50 15), (15, oAld 1 16), (16, oGr 6 11 19), (19, oIld 5 21), (21, oAi 100 22), (22, oPush (.int 2) 23), (23, oIc (fun x y => x = y) 26 44), (26, oAld 0 27), (27, oIld 3 28), (28, oIld 5 30), (30, oPush (.int 300) 33), (33, oAld 1 34), (34, oGr 6 12 37), (37, oIld 5 39), (39, oAi 100 40), (40, oI2 (fun x y => x + y) 41), (41, oDisp 3 [(2, oCallV d mc ms P 0 0 yX2_setNeutral (Cond.code yX2_setNeutral cX2_setNeutral 4 none) 3 2 44), (4, oCallV d mc ms P 0 0 yX4_setNeutral (Cond.code yX4_setNeutral cX4_setNeutral 4 none) 3 4 44)]), (44, oInc 5 1 47), (47, oGoto 8), (50, oAld 0 51), (51, oGr2 2 4 0 54), (54, oGi 1 1 57), (57, oIld 4 59), (59, oCallS d mc ms P 0 0 yX9_quotientUp (Cond.code yX9_quotientUp cX9_quotientUp 2 (some .int)) 2 62), (62, oIst 5 64), (64, oIld 2 65), (65, oPush (.int 2) 66), (66, oIc (fun x y => x = y) 69 76), (69, oIld 3 70), (70, oIld 5 72), (72, oI2 (fun x y => x * y) 73), (73, oGoto 77), (76, oIld 3 77), (77, oIst 6 79), (79, oIld 2 80), (80, oPush (.int 2) 81), (81, oIc (fun x y => x = y) 84 102), (84, oIld 6 86), (86, oIld 5 88), (88, oI2 (fun x y => x + y) 89), (89, oAld 0 90), (90, oGr2 2 4 0 93), (93, oGi 1 1 96), (96, oMm (fun x y => if y < x then y else x) mc ms 99), (99, oGoto 109), (102, oAld 0 103), (103, oGr2 2 4 0 106), (106, oGi 1 1 109), (109, oIst 7 111), (111, oIld 2 112), (112, oPush (.int 2) 113), (113, oIc (fun x y => x = y) 116 120), (116, oPush (.int 1) 117), (117, oGoto 126), (120, oIld 4 122), (122, oPush (.int 1) 123), (123, oMm (fun x y => if x < y then y else x) mc ms 126), (126, oIst 8 128), (128, oIld 6 130), (130, oIst 9 132), (132, oIld 9 134), (134, oIld 7 136), (136, oIc (fun x y => y ≤ x) 157 139), (139, oAld 0 140), (140, oAld 1 141), (141, oIld 3 142), (142, oIld 9 144), (144, oDisp 3 [(2, oCallV d mc ms P 0 0 yX5_runIteration (Cond.code yX5_runIteration cX5_runIteration 5 none) 3 2 147), (4, oCallV d mc ms P 0 0 yX5_runIteration (Cond.code yX5_runIteration cX5_runIteration 5 none) 3 4 147)]), (147, oIld 9 149), (149, oIld 8 151), (151, oI2 (fun x y => x + y) 152), (152, oIst 9 154), (154, oGoto 132), (157, oRetV mc ms P)]
set_option maxRecDepth 20000 in
theorem sX5_runPart {p : Program} {l : Launch} {e : Env} {s : State} {m : MethodId} {args : Array Value} {below : List Frame} {meth : Method} {c : Code} {D : va_G} {cA : Nat → ClassId} {ad0 : Nat → Nat} {n0 sz d mc ms : Nat} {P : PO} (hM : FM p l s m args meth c D cA 10 ad0 n0 sz cX5_runPart RX5 none [] yX5_runPart.name) : ∀ q ∈ tX5_runPart d mc ms P, Snd (jM p l e s m args below meth c D cA 10 ad0 n0 sz (d + 1) mc ms P) q.1 q.2 := by
  have hF := hM.1
  have hts := hF.2.2.2.2.1
  unfold tX5_runPart
  refine fmS (snd_aloadn hF (k := 0) rfl (by decide +kernel)) ?_
  refine fmS (snd_iloadn hF (k := 3) rfl (by decide +kernel)) ?_
  refine fmS (snd_disp ((fmD (snd_callV hM k_X5_beginRow okX2 qw945 qw947 (selP (C := RX2) (y0 := yX5_rowNow) (y := yX5_beginRow) (n := 5) rfl (by decide) (hts _ qw651) (hts _ qw235) (hts _ qw946) (hts _ qw947)) (by decide +kernel)) (fmD (snd_callV hM k_X5_beginRow okX4 qw945 qw947 (selP (C := RX4) (y0 := yX5_rowNow) (y := yX5_beginRow) (n := 5) rfl (by decide) (hts _ qw651) (hts _ qw208) (hts _ qw946) (hts _ qw947)) (by decide +kernel)) fmN)))) ?_
  refine fmS (snd_iconst hF (n := 0) rfl (by decide +kernel)) ?_
  refine fmS (snd_istore hF (by decide) (by decide +kernel)) ?_
  refine fmS (snd_iload hF (by decide +kernel)) ?_
  refine fmS (snd_bipush hF (n := 8) (by decide +kernel) (by decide +kernel)) ?_
  refine fmS (snd_icmp_ge hF (off := 38) (by decide) (by decide +kernel)) ?_
  refine fmS (snd_aloadn hF (k := 1) rfl (by decide +kernel)) ?_
  refine fmS (snd_getrN hF okX6 (k := 11) (by decide) qw283 rfl rfl (by decide +kernel)) ?_
  refine fmS (snd_iload hF (by decide +kernel)) ?_
  refine fmS (snd_iaload hF (by decide +kernel)) ?_
  refine fmS (snd_iconst hF (n := 2) rfl (by decide +kernel)) ?_
  refine fmS (snd_icmp_ne hF (off := 21) (by decide) (by decide +kernel)) ?_
  refine fmS (snd_aloadn hF (k := 0) rfl (by decide +kernel)) ?_
  refine fmS (snd_iloadn hF (k := 3) rfl (by decide +kernel)) ?_
  refine fmS (snd_iload hF (by decide +kernel)) ?_
  refine fmS (snd_sipush hF (n := 300) (by decide +kernel) (by decide +kernel)) ?_
  refine fmS (snd_aloadn hF (k := 1) rfl (by decide +kernel)) ?_
  refine fmS (snd_getrN hF okX6 (k := 12) (by decide) qw286 rfl rfl (by decide +kernel)) ?_
  refine fmS (snd_iload hF (by decide +kernel)) ?_
  refine fmS (snd_iaload hF (by decide +kernel)) ?_
  refine fmS (snd_iadd hF (by decide +kernel)) ?_
  refine fmS (snd_disp ((fmD (snd_callU hM k_X2_setNeutral okX2 (x := ⟨"ReductionFinder$Machine", "setNeutral", "(III)V"⟩) (owner := "ReductionFinder$Machine") qw981 qw983 qw982 qw984 qw985 (by decide) rfl (by decide +kernel)) (fmD (snd_callU hM k_X4_setNeutral okX4 (x := ⟨"ReductionFinder$Machine", "setNeutral", "(III)V"⟩) (owner := "ReductionFinder$Machine") qw981 qw983 qw982 qw990 qw991 (by decide) rfl (by decide +kernel)) fmN)))) ?_
  refine fmS (snd_iinc hF (n := 1) (by decide +kernel) (by decide) (by decide +kernel)) ?_
  refine fmS (snd_goto hF (off := (-39)) (by decide) (by decide +kernel)) ?_
  refine fmS (snd_aloadn hF (k := 0) rfl (by decide +kernel)) ?_
  refine fmS (snd_getr2 hF okX2 okX4 (k := 0) (by decide) (by decide) qw220 rfl rfl rfl rfl (by decide +kernel)) ?_
  refine fmS (snd_getiN hF okX1 (k := 1) (by decide) qw191 rfl rfl (by decide +kernel)) ?_
  refine fmS (snd_iload hF (by decide +kernel)) ?_
  refine fmS (snd_callSN hM k_X9_quotientUp qw998 qw394 (by decide +kernel)) ?_
  refine fmS (snd_istore hF (by decide) (by decide +kernel)) ?_
  refine fmS (snd_iloadn hF (k := 2) rfl (by decide +kernel)) ?_
  refine fmS (snd_iconst hF (n := 2) rfl (by decide +kernel)) ?_
  refine fmS (snd_icmp_ne hF (off := 10) (by decide) (by decide +kernel)) ?_
  refine fmS (snd_iloadn hF (k := 3) rfl (by decide +kernel)) ?_
  refine fmS (snd_iload hF (by decide +kernel)) ?_
  refine fmS (snd_imul hF (by decide +kernel)) ?_
  refine fmS (snd_goto hF (off := 4) (by decide) (by decide +kernel)) ?_
  refine fmS (snd_iloadn hF (k := 3) rfl (by decide +kernel)) ?_
  refine fmS (snd_istore hF (by decide) (by decide +kernel)) ?_
  refine fmS (snd_iloadn hF (k := 2) rfl (by decide +kernel)) ?_
  refine fmS (snd_iconst hF (n := 2) rfl (by decide +kernel)) ?_
  refine fmS (snd_icmp_ne hF (off := 21) (by decide) (by decide +kernel)) ?_
  refine fmS (snd_iload hF (by decide +kernel)) ?_
  refine fmS (snd_iload hF (by decide +kernel)) ?_
  refine fmS (snd_iadd hF (by decide +kernel)) ?_
  refine fmS (snd_aloadn hF (k := 0) rfl (by decide +kernel)) ?_
  refine fmS (snd_getr2 hF okX2 okX4 (k := 0) (by decide) (by decide) qw220 rfl rfl rfl rfl (by decide +kernel)) ?_
  refine fmS (snd_getiN hF okX1 (k := 1) (by decide) qw191 rfl rfl (by decide +kernel)) ?_
  refine fmS (snd_mmin hM qw976 qw635 qw93 qw636 (by decide +kernel)) ?_
  refine fmS (snd_goto hF (off := 10) (by decide) (by decide +kernel)) ?_
  refine fmS (snd_aloadn hF (k := 0) rfl (by decide +kernel)) ?_
  refine fmS (snd_getr2 hF okX2 okX4 (k := 0) (by decide) (by decide) qw220 rfl rfl rfl rfl (by decide +kernel)) ?_
  refine fmS (snd_getiN hF okX1 (k := 1) (by decide) qw191 rfl rfl (by decide +kernel)) ?_
  refine fmS (snd_istore hF (by decide) (by decide +kernel)) ?_
  refine fmS (snd_iloadn hF (k := 2) rfl (by decide +kernel)) ?_
  refine fmS (snd_iconst hF (n := 2) rfl (by decide +kernel)) ?_
  refine fmS (snd_icmp_ne hF (off := 7) (by decide) (by decide +kernel)) ?_
  refine fmS (snd_iconst hF (n := 1) rfl (by decide +kernel)) ?_
  refine fmS (snd_goto hF (off := 9) (by decide) (by decide +kernel)) ?_
  refine fmS (snd_iload hF (by decide +kernel)) ?_
  refine fmS (snd_iconst hF (n := 1) rfl (by decide +kernel)) ?_
  refine fmS (snd_mmax hM qw999 qw691 qw93 qw692 (by decide +kernel)) ?_
  refine fmS (snd_istore hF (by decide) (by decide +kernel)) ?_
  refine fmS (snd_iload hF (by decide +kernel)) ?_
  refine fmS (snd_istore hF (by decide) (by decide +kernel)) ?_
  refine fmS (snd_iload hF (by decide +kernel)) ?_
  refine fmS (snd_iload hF (by decide +kernel)) ?_
  refine fmS (snd_icmp_ge hF (off := 21) (by decide) (by decide +kernel)) ?_
  refine fmS (snd_aloadn hF (k := 0) rfl (by decide +kernel)) ?_
  refine fmS (snd_aloadn hF (k := 1) rfl (by decide +kernel)) ?_
  refine fmS (snd_iloadn hF (k := 3) rfl (by decide +kernel)) ?_
  refine fmS (snd_iload hF (by decide +kernel)) ?_
  refine fmS (snd_disp ((fmD (snd_callV hM k_X5_runIteration okX2 qw958 qw960 (selP (C := RX2) (y0 := yX5_rowNow) (y := yX5_runIteration) (n := 5) rfl (by decide) (hts _ qw651) (hts _ qw235) (hts _ qw959) (hts _ qw960)) (by decide +kernel)) (fmD (snd_callV hM k_X5_runIteration okX4 qw958 qw960 (selP (C := RX4) (y0 := yX5_rowNow) (y := yX5_runIteration) (n := 5) rfl (by decide) (hts _ qw651) (hts _ qw208) (hts _ qw959) (hts _ qw960)) (by decide +kernel)) fmN)))) ?_
  refine fmS (snd_iload hF (by decide +kernel)) ?_
  refine fmS (snd_iload hF (by decide +kernel)) ?_
  refine fmS (snd_iadd hF (by decide +kernel)) ?_
  refine fmS (snd_istore hF (by decide) (by decide +kernel)) ?_
  refine fmS (snd_goto hF (off := (-22)) (by decide) (by decide +kernel)) ?_
  refine fmS (snd_retV hM (by decide +kernel)) ?_
  exact fmE
theorem iX5_runPart {d mc ms n : Nat} {av : List Value} {M : PM} {P : PO} (hw : wid av ≤ 10) (hb : ∀ J : KT, (∀ (k : Nat) (stops : Nat → Bool) (pc : Nat) (lv : LV) (st : List Value) (nn : NN) (M : PM), lk (tX5_runPart d mc ms P) pc (wpN (tX5_runPart d mc ms P) stops k J) lv st nn M → J pc lv st nn M) → J 0 (entA 0 av) [] (n, 0, 0) M) : CallOK (d + 1) mc ms yX5_runPart (Cond.code yX5_runPart cX5_runPart 10 none) av n M P := call_intro (own := RX5) (by decide) rfl hw (fun _ _ _ _ _ _ _ _ _ _ _ _ _ hM => sX5_runPart hM) hb
def tX5_joinTree (d mc ms : Nat) (P : PO) : List (Nat × OP) := [(0, oIld 2 1), (1, oIst 3 2), (2, oIld 3 3), (3, oPush (.int 1) 4), (4, oIc (fun x y => x ≤ y) 75 7), (7, oPush (.int 0) 8), (8, oIst 4 10), (10, oIld 4 12), (12, oIld 3 13), (13, oPush (.int 2) 14), (14, oI2n (fun x y => x / y) 15), (15, oIc (fun x y => y ≤ x) 48 18), (18, oAld 0 19), (19, oAld 1 20), (20, oIld 4 22), (22, oPush (.int 2) 23), (23, oIld 4 25), (25, oI2 (fun x y => x * y) 26), (26, oDisp 3 [(2, oCallV d mc ms P 0 0 yX5_copyReductions (Cond.code yX5_copyReductions cX5_copyReductions 5 none) 3 2 29), (4, oCallV d mc ms P 0 0 yX5_copyReductions (Cond.code yX5_copyReductions cX5_copyReductions 5 none) 3 4 29)]), (29, oAld 0 30), (30, oAld 1 31), (31, oIld 4 33), (33, oPush (.int 2) 34), (34, oIld 4 36), (36, oI2 (fun x y => x * y) 37), (37, oPush (.int 1) 38), (38, oI2 (fun x y => x + y) 39), (39, oDisp 3 [(2, oCallV d mc ms P 0 0 yX5_combineReductions (Cond.code yX5_combineReductions cX5_combineReductions 5 none) 3 2 42), (4, oCallV d mc ms P 0 0 yX5_combineReductions (Cond.code yX5_combineReductions cX5_combineReductions 5 none) 3 4 42)]), (42, oInc 4 1 45), (45, oGoto 10), (48, oIld 3 49), (49, oPush (.int 2) 50), (50, oI2n (fun x y => x - x / y * y) 51), (51, oPush (.int 1) 52), (52, oIc (fun x y => x = y) 55 66), (55, oAld 0 56), (56, oAld 1 57), (57, oIld 3 58), (58, oPush (.int 2) 59), (59, oI2n (fun x y => x / y) 60), (60, oIld 3 61), (61, oPush (.int 1) 62), (62, oI2 (fun x y => x - y) 63), (63, oDisp 3 [(2, oCallV d mc ms P 0 0 yX5_copyReductions (Cond.code yX5_copyReductions cX5_copyReductions 5 none) 3 2 66), (4, oCallV d mc ms P 0 0 yX5_copyReductions (Cond.code yX5_copyReductions cX5_copyReductions 5 none) 3 4 66)]), (66, oIld 3 67), (67, oPush (.int 1) 68), (68, oI2 (fun x y => x + y) 69), (69, oPush (.int 2) 70), (70, oI2n (fun x y => x / y) 71), (71, oIst 3 72), (72, oGoto 2), (75, oRetV mc ms P)]
set_option maxRecDepth 20000 in
theorem sX5_joinTree {p : Program} {l : Launch} {e : Env} {s : State} {m : MethodId} {args : Array Value} {below : List Frame} {meth : Method} {c : Code} {D : va_G} {cA : Nat → ClassId} {ad0 : Nat → Nat} {n0 sz d mc ms : Nat} {P : PO} (hM : FM p l s m args meth c D cA 5 ad0 n0 sz cX5_joinTree RX5 none [] yX5_joinTree.name) : ∀ q ∈ tX5_joinTree d mc ms P, Snd (jM p l e s m args below meth c D cA 5 ad0 n0 sz (d + 1) mc ms P) q.1 q.2 := by
  have hF := hM.1
  have hts := hF.2.2.2.2.1
  unfold tX5_joinTree
  refine fmS (snd_iloadn hF (k := 2) rfl (by decide +kernel)) ?_
  refine fmS (snd_istoren hF (k := 3) rfl (by decide) (by decide +kernel)) ?_
  refine fmS (snd_iloadn hF (k := 3) rfl (by decide +kernel)) ?_
  refine fmS (snd_iconst hF (n := 1) rfl (by decide +kernel)) ?_
  refine fmS (snd_icmp_le hF (off := 71) (by decide) (by decide +kernel)) ?_
  refine fmS (snd_iconst hF (n := 0) rfl (by decide +kernel)) ?_
  refine fmS (snd_istore hF (by decide) (by decide +kernel)) ?_
  refine fmS (snd_iload hF (by decide +kernel)) ?_
  refine fmS (snd_iloadn hF (k := 3) rfl (by decide +kernel)) ?_
  refine fmS (snd_iconst hF (n := 2) rfl (by decide +kernel)) ?_
  refine fmS (snd_idiv hF (by decide +kernel)) ?_
  refine fmS (snd_icmp_ge hF (off := 33) (by decide) (by decide +kernel)) ?_
  refine fmS (snd_aloadn hF (k := 0) rfl (by decide +kernel)) ?_
  refine fmS (snd_aloadn hF (k := 1) rfl (by decide +kernel)) ?_
  refine fmS (snd_iload hF (by decide +kernel)) ?_
  refine fmS (snd_iconst hF (n := 2) rfl (by decide +kernel)) ?_
  refine fmS (snd_iload hF (by decide +kernel)) ?_
  refine fmS (snd_imul hF (by decide +kernel)) ?_
  refine fmS (snd_disp ((fmD (snd_callV hM k_X5_copyReductions okX2 qw1004 qw1006 (selP (C := RX2) (y0 := yX5_rowNow) (y := yX5_copyReductions) (n := 5) rfl (by decide) (hts _ qw651) (hts _ qw235) (hts _ qw1005) (hts _ qw1006)) (by decide +kernel)) (fmD (snd_callV hM k_X5_copyReductions okX4 qw1004 qw1006 (selP (C := RX4) (y0 := yX5_rowNow) (y := yX5_copyReductions) (n := 5) rfl (by decide) (hts _ qw651) (hts _ qw208) (hts _ qw1005) (hts _ qw1006)) (by decide +kernel)) fmN)))) ?_
  refine fmS (snd_aloadn hF (k := 0) rfl (by decide +kernel)) ?_
  refine fmS (snd_aloadn hF (k := 1) rfl (by decide +kernel)) ?_
  refine fmS (snd_iload hF (by decide +kernel)) ?_
  refine fmS (snd_iconst hF (n := 2) rfl (by decide +kernel)) ?_
  refine fmS (snd_iload hF (by decide +kernel)) ?_
  refine fmS (snd_imul hF (by decide +kernel)) ?_
  refine fmS (snd_iconst hF (n := 1) rfl (by decide +kernel)) ?_
  refine fmS (snd_iadd hF (by decide +kernel)) ?_
  refine fmS (snd_disp ((fmD (snd_callV hM k_X5_combineReductions okX2 qw1017 qw1019 (selP (C := RX2) (y0 := yX5_rowNow) (y := yX5_combineReductions) (n := 5) rfl (by decide) (hts _ qw651) (hts _ qw235) (hts _ qw1018) (hts _ qw1019)) (by decide +kernel)) (fmD (snd_callV hM k_X5_combineReductions okX4 qw1017 qw1019 (selP (C := RX4) (y0 := yX5_rowNow) (y := yX5_combineReductions) (n := 5) rfl (by decide) (hts _ qw651) (hts _ qw208) (hts _ qw1018) (hts _ qw1019)) (by decide +kernel)) fmN)))) ?_
  refine fmS (snd_iinc hF (n := 1) (by decide +kernel) (by decide) (by decide +kernel)) ?_
  refine fmS (snd_goto hF (off := (-35)) (by decide) (by decide +kernel)) ?_
  refine fmS (snd_iloadn hF (k := 3) rfl (by decide +kernel)) ?_
  refine fmS (snd_iconst hF (n := 2) rfl (by decide +kernel)) ?_
  refine fmS (snd_irem hF (by decide +kernel)) ?_
  refine fmS (snd_iconst hF (n := 1) rfl (by decide +kernel)) ?_
  refine fmS (snd_icmp_ne hF (off := 14) (by decide) (by decide +kernel)) ?_
  refine fmS (snd_aloadn hF (k := 0) rfl (by decide +kernel)) ?_
  refine fmS (snd_aloadn hF (k := 1) rfl (by decide +kernel)) ?_
  refine fmS (snd_iloadn hF (k := 3) rfl (by decide +kernel)) ?_
  refine fmS (snd_iconst hF (n := 2) rfl (by decide +kernel)) ?_
  refine fmS (snd_idiv hF (by decide +kernel)) ?_
  refine fmS (snd_iloadn hF (k := 3) rfl (by decide +kernel)) ?_
  refine fmS (snd_iconst hF (n := 1) rfl (by decide +kernel)) ?_
  refine fmS (snd_isub hF (by decide +kernel)) ?_
  refine fmS (snd_disp ((fmD (snd_callV hM k_X5_copyReductions okX2 qw1004 qw1006 (selP (C := RX2) (y0 := yX5_rowNow) (y := yX5_copyReductions) (n := 5) rfl (by decide) (hts _ qw651) (hts _ qw235) (hts _ qw1005) (hts _ qw1006)) (by decide +kernel)) (fmD (snd_callV hM k_X5_copyReductions okX4 qw1004 qw1006 (selP (C := RX4) (y0 := yX5_rowNow) (y := yX5_copyReductions) (n := 5) rfl (by decide) (hts _ qw651) (hts _ qw208) (hts _ qw1005) (hts _ qw1006)) (by decide +kernel)) fmN)))) ?_
  refine fmS (snd_iloadn hF (k := 3) rfl (by decide +kernel)) ?_
  refine fmS (snd_iconst hF (n := 1) rfl (by decide +kernel)) ?_
  refine fmS (snd_iadd hF (by decide +kernel)) ?_
  refine fmS (snd_iconst hF (n := 2) rfl (by decide +kernel)) ?_
  refine fmS (snd_idiv hF (by decide +kernel)) ?_
  refine fmS (snd_istoren hF (k := 3) rfl (by decide) (by decide +kernel)) ?_
  refine fmS (snd_goto hF (off := (-70)) (by decide) (by decide +kernel)) ?_
  refine fmS (snd_retV hM (by decide +kernel)) ?_
  exact fmE
theorem iX5_joinTree {d mc ms n : Nat} {av : List Value} {M : PM} {P : PO} (hw : wid av ≤ 5) (hb : ∀ J : KT, (∀ (k : Nat) (stops : Nat → Bool) (pc : Nat) (lv : LV) (st : List Value) (nn : NN) (M : PM), lk (tX5_joinTree d mc ms P) pc (wpN (tX5_joinTree d mc ms P) stops k J) lv st nn M → J pc lv st nn M) → J 0 (entA 0 av) [] (n, 0, 0) M) : CallOK (d + 1) mc ms yX5_joinTree (Cond.code yX5_joinTree cX5_joinTree 5 none) av n M P := call_intro (own := RX5) (by decide) rfl hw (fun _ _ _ _ _ _ _ _ _ _ _ _ _ hM => sX5_joinTree hM) hb
def tX5_joinParts (d mc ms : Nat) (P : PO) : List (Nat × OP) := [(0, oPush (.int 0) 1), (1, oIst 3 2), (2, oIld 3 3), (3, oPush (.int 8) 5), (5, oIc (fun x y => y ≤ x) 40 8), (8, oAld 1 9), (9, oGr 6 11 12), (12, oIld 3 13), (13, oAi 100 14), (14, oPush (.int 2) 15), (15, oIc (fun x y => x = y) 18 34), (18, oAld 0 19), (19, oPush (.int 16) 21), (21, oIld 3 22), (22, oAld 0 23), (23, oGr2 2 4 0 26), (26, oGr 1 3 29), (29, oIld 3 30), (30, oAi 100 31), (31, oDisp 3 [(2, oCallV d mc ms P 0 0 yX2_setInitialValue (Cond.code yX2_setInitialValue cX2_setInitialValue 4 none) 3 2 34), (4, oCallV d mc ms P 0 0 yX4_setInitialValue (Cond.code yX4_setInitialValue cX4_setInitialValue 4 none) 3 4 34)]), (34, oInc 3 1 37), (37, oGoto 2), (40, oPush (.int 0) 41), (41, oIst 3 42), (42, oIld 3 43), (43, oIld 2 44), (44, oIc (fun x y => y ≤ x) 61 47), (47, oAld 0 48), (48, oAld 1 49), (49, oPush (.int 16) 51), (51, oIld 3 52), (52, oDisp 3 [(2, oCallV d mc ms P 0 0 yX5_combineReductions (Cond.code yX5_combineReductions cX5_combineReductions 5 none) 3 2 55), (4, oCallV d mc ms P 0 0 yX5_combineReductions (Cond.code yX5_combineReductions cX5_combineReductions 5 none) 3 4 55)]), (55, oInc 3 1 58), (58, oGoto 42), (61, oRetV mc ms P)]
set_option maxRecDepth 20000 in
theorem sX5_joinParts {p : Program} {l : Launch} {e : Env} {s : State} {m : MethodId} {args : Array Value} {below : List Frame} {meth : Method} {c : Code} {D : va_G} {cA : Nat → ClassId} {ad0 : Nat → Nat} {n0 sz d mc ms : Nat} {P : PO} (hM : FM p l s m args meth c D cA 4 ad0 n0 sz cX5_joinParts RX5 none [] yX5_joinParts.name) : ∀ q ∈ tX5_joinParts d mc ms P, Snd (jM p l e s m args below meth c D cA 4 ad0 n0 sz (d + 1) mc ms P) q.1 q.2 := by
  have hF := hM.1
  have hts := hF.2.2.2.2.1
  unfold tX5_joinParts
  refine fmS (snd_iconst hF (n := 0) rfl (by decide +kernel)) ?_
  refine fmS (snd_istoren hF (k := 3) rfl (by decide) (by decide +kernel)) ?_
  refine fmS (snd_iloadn hF (k := 3) rfl (by decide +kernel)) ?_
  refine fmS (snd_bipush hF (n := 8) (by decide +kernel) (by decide +kernel)) ?_
  refine fmS (snd_icmp_ge hF (off := 35) (by decide) (by decide +kernel)) ?_
  refine fmS (snd_aloadn hF (k := 1) rfl (by decide +kernel)) ?_
  refine fmS (snd_getrN hF okX6 (k := 11) (by decide) qw283 rfl rfl (by decide +kernel)) ?_
  refine fmS (snd_iloadn hF (k := 3) rfl (by decide +kernel)) ?_
  refine fmS (snd_iaload hF (by decide +kernel)) ?_
  refine fmS (snd_iconst hF (n := 2) rfl (by decide +kernel)) ?_
  refine fmS (snd_icmp_ne hF (off := 19) (by decide) (by decide +kernel)) ?_
  refine fmS (snd_aloadn hF (k := 0) rfl (by decide +kernel)) ?_
  refine fmS (snd_bipush hF (n := 16) (by decide +kernel) (by decide +kernel)) ?_
  refine fmS (snd_iloadn hF (k := 3) rfl (by decide +kernel)) ?_
  refine fmS (snd_aloadn hF (k := 0) rfl (by decide +kernel)) ?_
  refine fmS (snd_getr2 hF okX2 okX4 (k := 0) (by decide) (by decide) qw220 rfl rfl rfl rfl (by decide +kernel)) ?_
  refine fmS (snd_getrN hF okX1 (k := 3) (by decide) qw196 rfl rfl (by decide +kernel)) ?_
  refine fmS (snd_iloadn hF (k := 3) rfl (by decide +kernel)) ?_
  refine fmS (snd_iaload hF (by decide +kernel)) ?_
  refine fmS (snd_disp ((fmD (snd_callU hM k_X2_setInitialValue okX2 (x := ⟨"ReductionFinder$Machine", "setInitialValue", "(III)V"⟩) (owner := "ReductionFinder$Machine") qw949 qw951 qw950 qw952 qw953 (by decide) rfl (by decide +kernel)) (fmD (snd_callU hM k_X4_setInitialValue okX4 (x := ⟨"ReductionFinder$Machine", "setInitialValue", "(III)V"⟩) (owner := "ReductionFinder$Machine") qw949 qw951 qw950 qw955 qw956 (by decide) rfl (by decide +kernel)) fmN)))) ?_
  refine fmS (snd_iinc hF (n := 1) (by decide +kernel) (by decide) (by decide +kernel)) ?_
  refine fmS (snd_goto hF (off := (-35)) (by decide) (by decide +kernel)) ?_
  refine fmS (snd_iconst hF (n := 0) rfl (by decide +kernel)) ?_
  refine fmS (snd_istoren hF (k := 3) rfl (by decide) (by decide +kernel)) ?_
  refine fmS (snd_iloadn hF (k := 3) rfl (by decide +kernel)) ?_
  refine fmS (snd_iloadn hF (k := 2) rfl (by decide +kernel)) ?_
  refine fmS (snd_icmp_ge hF (off := 17) (by decide) (by decide +kernel)) ?_
  refine fmS (snd_aloadn hF (k := 0) rfl (by decide +kernel)) ?_
  refine fmS (snd_aloadn hF (k := 1) rfl (by decide +kernel)) ?_
  refine fmS (snd_bipush hF (n := 16) (by decide +kernel) (by decide +kernel)) ?_
  refine fmS (snd_iloadn hF (k := 3) rfl (by decide +kernel)) ?_
  refine fmS (snd_disp ((fmD (snd_callV hM k_X5_combineReductions okX2 qw1017 qw1019 (selP (C := RX2) (y0 := yX5_rowNow) (y := yX5_combineReductions) (n := 5) rfl (by decide) (hts _ qw651) (hts _ qw235) (hts _ qw1018) (hts _ qw1019)) (by decide +kernel)) (fmD (snd_callV hM k_X5_combineReductions okX4 qw1017 qw1019 (selP (C := RX4) (y0 := yX5_rowNow) (y := yX5_combineReductions) (n := 5) rfl (by decide) (hts _ qw651) (hts _ qw208) (hts _ qw1018) (hts _ qw1019)) (by decide +kernel)) fmN)))) ?_
  refine fmS (snd_iinc hF (n := 1) (by decide +kernel) (by decide) (by decide +kernel)) ?_
  refine fmS (snd_goto hF (off := (-16)) (by decide) (by decide +kernel)) ?_
  refine fmS (snd_retV hM (by decide +kernel)) ?_
  exact fmE
theorem iX5_joinParts {d mc ms n : Nat} {av : List Value} {M : PM} {P : PO} (hw : wid av ≤ 4) (hb : ∀ J : KT, (∀ (k : Nat) (stops : Nat → Bool) (pc : Nat) (lv : LV) (st : List Value) (nn : NN) (M : PM), lk (tX5_joinParts d mc ms P) pc (wpN (tX5_joinParts d mc ms P) stops k J) lv st nn M → J pc lv st nn M) → J 0 (entA 0 av) [] (n, 0, 0) M) : CallOK (d + 1) mc ms yX5_joinParts (Cond.code yX5_joinParts cX5_joinParts 4 none) av n M P := call_intro (own := RX5) (by decide) rfl hw (fun _ _ _ _ _ _ _ _ _ _ _ _ _ hM => sX5_joinParts hM) hb
def tX5_combineReductions (d mc ms : Nat) (P : PO) : List (Nat × OP) := [(0, oPush (.int 0) 1), (1, oIst 4 3), (3, oIld 4 5), (5, oPush (.int 8) 7), (7, oIc (fun x y => y ≤ x) 46 10), (10, oAld 1 11), (11, oGr 6 11 14), (14, oIld 4 16), (16, oAi 100 17), (17, oPush (.int 2) 18), (18, oIc (fun x y => x = y) 21 40), (21, oAld 0 22), (22, oIld 2 23), (23, oIld 3 24), (24, oIld 4 26), (26, oPush (.int 300) 29), (29, oAld 1 30), (30, oGr 6 12 33), (33, oIld 4 35), (35, oAi 100 36), (36, oI2 (fun x y => x + y) 37), (37, oDisp 4 [(2, oCallV d mc ms P 0 0 yX2_combine (Cond.code yX2_combine cX2_combine 5 none) 4 2 40), (4, oCallV d mc ms P 0 0 yX4_combine (Cond.code yX4_combine cX4_combine 5 none) 4 4 40)]), (40, oInc 4 1 43), (43, oGoto 3), (46, oRetV mc ms P)]
set_option maxRecDepth 20000 in
theorem sX5_combineReductions {p : Program} {l : Launch} {e : Env} {s : State} {m : MethodId} {args : Array Value} {below : List Frame} {meth : Method} {c : Code} {D : va_G} {cA : Nat → ClassId} {ad0 : Nat → Nat} {n0 sz d mc ms : Nat} {P : PO} (hM : FM p l s m args meth c D cA 5 ad0 n0 sz cX5_combineReductions RX5 none [] yX5_combineReductions.name) : ∀ q ∈ tX5_combineReductions d mc ms P, Snd (jM p l e s m args below meth c D cA 5 ad0 n0 sz (d + 1) mc ms P) q.1 q.2 := by
  have hF := hM.1
  have hts := hF.2.2.2.2.1
  unfold tX5_combineReductions
  refine fmS (snd_iconst hF (n := 0) rfl (by decide +kernel)) ?_
  refine fmS (snd_istore hF (by decide) (by decide +kernel)) ?_
  refine fmS (snd_iload hF (by decide +kernel)) ?_
  refine fmS (snd_bipush hF (n := 8) (by decide +kernel) (by decide +kernel)) ?_
  refine fmS (snd_icmp_ge hF (off := 39) (by decide) (by decide +kernel)) ?_
  refine fmS (snd_aloadn hF (k := 1) rfl (by decide +kernel)) ?_
  refine fmS (snd_getrN hF okX6 (k := 11) (by decide) qw283 rfl rfl (by decide +kernel)) ?_
  refine fmS (snd_iload hF (by decide +kernel)) ?_
  refine fmS (snd_iaload hF (by decide +kernel)) ?_
  refine fmS (snd_iconst hF (n := 2) rfl (by decide +kernel)) ?_
  refine fmS (snd_icmp_ne hF (off := 22) (by decide) (by decide +kernel)) ?_
  refine fmS (snd_aloadn hF (k := 0) rfl (by decide +kernel)) ?_
  refine fmS (snd_iloadn hF (k := 2) rfl (by decide +kernel)) ?_
  refine fmS (snd_iloadn hF (k := 3) rfl (by decide +kernel)) ?_
  refine fmS (snd_iload hF (by decide +kernel)) ?_
  refine fmS (snd_sipush hF (n := 300) (by decide +kernel) (by decide +kernel)) ?_
  refine fmS (snd_aloadn hF (k := 1) rfl (by decide +kernel)) ?_
  refine fmS (snd_getrN hF okX6 (k := 12) (by decide) qw286 rfl rfl (by decide +kernel)) ?_
  refine fmS (snd_iload hF (by decide +kernel)) ?_
  refine fmS (snd_iaload hF (by decide +kernel)) ?_
  refine fmS (snd_iadd hF (by decide +kernel)) ?_
  refine fmS (snd_disp ((fmD (snd_callU hM k_X2_combine okX2 (x := ⟨"ReductionFinder$Machine", "combine", "(IIII)V"⟩) (owner := "ReductionFinder$Machine") qw1021 qw1023 qw1022 qw1024 qw1025 (by decide) rfl (by decide +kernel)) (fmD (snd_callU hM k_X4_combine okX4 (x := ⟨"ReductionFinder$Machine", "combine", "(IIII)V"⟩) (owner := "ReductionFinder$Machine") qw1021 qw1023 qw1022 qw1027 qw1028 (by decide) rfl (by decide +kernel)) fmN)))) ?_
  refine fmS (snd_iinc hF (n := 1) (by decide +kernel) (by decide) (by decide +kernel)) ?_
  refine fmS (snd_goto hF (off := (-40)) (by decide) (by decide +kernel)) ?_
  refine fmS (snd_retV hM (by decide +kernel)) ?_
  exact fmE
theorem iX5_combineReductions {d mc ms n : Nat} {av : List Value} {M : PM} {P : PO} (hw : wid av ≤ 5) (hb : ∀ J : KT, (∀ (k : Nat) (stops : Nat → Bool) (pc : Nat) (lv : LV) (st : List Value) (nn : NN) (M : PM), lk (tX5_combineReductions d mc ms P) pc (wpN (tX5_combineReductions d mc ms P) stops k J) lv st nn M → J pc lv st nn M) → J 0 (entA 0 av) [] (n, 0, 0) M) : CallOK (d + 1) mc ms yX5_combineReductions (Cond.code yX5_combineReductions cX5_combineReductions 5 none) av n M P := call_intro (own := RX5) (by decide) rfl hw (fun _ _ _ _ _ _ _ _ _ _ _ _ _ hM => sX5_combineReductions hM) hb
def tX5_copyReductions (d mc ms : Nat) (P : PO) : List (Nat × OP) := [(0, oPush (.int 0) 1), (1, oIst 4 3), (3, oIld 4 5), (5, oPush (.int 8) 7), (7, oIc (fun x y => y ≤ x) 35 10), (10, oAld 1 11), (11, oGr 6 11 14), (14, oIld 4 16), (16, oAi 100 17), (17, oPush (.int 2) 18), (18, oIc (fun x y => x = y) 21 29), (21, oAld 0 22), (22, oIld 2 23), (23, oIld 3 24), (24, oIld 4 26), (26, oDisp 3 [(2, oCallV d mc ms P 0 0 yX2_copyValue (Cond.code yX2_copyValue cX2_copyValue 4 none) 3 2 29), (4, oCallV d mc ms P 0 0 yX4_copyValue (Cond.code yX4_copyValue cX4_copyValue 4 none) 3 4 29)]), (29, oInc 4 1 32), (32, oGoto 3), (35, oRetV mc ms P)]
set_option maxRecDepth 20000 in
theorem sX5_copyReductions {p : Program} {l : Launch} {e : Env} {s : State} {m : MethodId} {args : Array Value} {below : List Frame} {meth : Method} {c : Code} {D : va_G} {cA : Nat → ClassId} {ad0 : Nat → Nat} {n0 sz d mc ms : Nat} {P : PO} (hM : FM p l s m args meth c D cA 5 ad0 n0 sz cX5_copyReductions RX5 none [] yX5_copyReductions.name) : ∀ q ∈ tX5_copyReductions d mc ms P, Snd (jM p l e s m args below meth c D cA 5 ad0 n0 sz (d + 1) mc ms P) q.1 q.2 := by
  have hF := hM.1
  have hts := hF.2.2.2.2.1
  unfold tX5_copyReductions
  refine fmS (snd_iconst hF (n := 0) rfl (by decide +kernel)) ?_
  refine fmS (snd_istore hF (by decide) (by decide +kernel)) ?_
  refine fmS (snd_iload hF (by decide +kernel)) ?_
  refine fmS (snd_bipush hF (n := 8) (by decide +kernel) (by decide +kernel)) ?_
  refine fmS (snd_icmp_ge hF (off := 28) (by decide) (by decide +kernel)) ?_
  refine fmS (snd_aloadn hF (k := 1) rfl (by decide +kernel)) ?_
  refine fmS (snd_getrN hF okX6 (k := 11) (by decide) qw283 rfl rfl (by decide +kernel)) ?_
  refine fmS (snd_iload hF (by decide +kernel)) ?_
  refine fmS (snd_iaload hF (by decide +kernel)) ?_
  refine fmS (snd_iconst hF (n := 2) rfl (by decide +kernel)) ?_
  refine fmS (snd_icmp_ne hF (off := 11) (by decide) (by decide +kernel)) ?_
  refine fmS (snd_aloadn hF (k := 0) rfl (by decide +kernel)) ?_
  refine fmS (snd_iloadn hF (k := 2) rfl (by decide +kernel)) ?_
  refine fmS (snd_iloadn hF (k := 3) rfl (by decide +kernel)) ?_
  refine fmS (snd_iload hF (by decide +kernel)) ?_
  refine fmS (snd_disp ((fmD (snd_callU hM k_X2_copyValue okX2 (x := ⟨"ReductionFinder$Machine", "copyValue", "(III)V"⟩) (owner := "ReductionFinder$Machine") qw1008 qw1010 qw1009 qw1011 qw1012 (by decide) rfl (by decide +kernel)) (fmD (snd_callU hM k_X4_copyValue okX4 (x := ⟨"ReductionFinder$Machine", "copyValue", "(III)V"⟩) (owner := "ReductionFinder$Machine") qw1008 qw1010 qw1009 qw1014 qw1015 (by decide) rfl (by decide +kernel)) fmN)))) ?_
  refine fmS (snd_iinc hF (n := 1) (by decide +kernel) (by decide) (by decide +kernel)) ?_
  refine fmS (snd_goto hF (off := (-29)) (by decide) (by decide +kernel)) ?_
  refine fmS (snd_retV hM (by decide +kernel)) ?_
  exact fmE
theorem iX5_copyReductions {d mc ms n : Nat} {av : List Value} {M : PM} {P : PO} (hw : wid av ≤ 5) (hb : ∀ J : KT, (∀ (k : Nat) (stops : Nat → Bool) (pc : Nat) (lv : LV) (st : List Value) (nn : NN) (M : PM), lk (tX5_copyReductions d mc ms P) pc (wpN (tX5_copyReductions d mc ms P) stops k J) lv st nn M → J pc lv st nn M) → J 0 (entA 0 av) [] (n, 0, 0) M) : CallOK (d + 1) mc ms yX5_copyReductions (Cond.code yX5_copyReductions cX5_copyReductions 5 none) av n M P := call_intro (own := RX5) (by decide) rfl hw (fun _ _ _ _ _ _ _ _ _ _ _ _ _ hM => sX5_copyReductions hM) hb
def tX5_beginRow (d mc ms : Nat) (P : PO) : List (Nat × OP) := [(0, oPush (.int 0) 1), (1, oIst 2 2), (2, oIld 2 3), (3, oPush (.int 8) 5), (5, oIc (fun x y => y ≤ x) 29 8), (8, oAld 0 9), (9, oIld 1 10), (10, oIld 2 11), (11, oAld 0 12), (12, oGr2 2 4 0 15), (15, oGr 1 3 18), (18, oIld 2 19), (19, oAi 100 20), (20, oDisp 3 [(2, oCallV d mc ms P 0 0 yX2_setInitialValue (Cond.code yX2_setInitialValue cX2_setInitialValue 4 none) 3 2 23), (4, oCallV d mc ms P 0 0 yX4_setInitialValue (Cond.code yX4_setInitialValue cX4_setInitialValue 4 none) 3 4 23)]), (23, oInc 2 1 26), (26, oGoto 2), (29, oRetV mc ms P)]
set_option maxRecDepth 20000 in
theorem sX5_beginRow {p : Program} {l : Launch} {e : Env} {s : State} {m : MethodId} {args : Array Value} {below : List Frame} {meth : Method} {c : Code} {D : va_G} {cA : Nat → ClassId} {ad0 : Nat → Nat} {n0 sz d mc ms : Nat} {P : PO} (hM : FM p l s m args meth c D cA 3 ad0 n0 sz cX5_beginRow RX5 none [] yX5_beginRow.name) : ∀ q ∈ tX5_beginRow d mc ms P, Snd (jM p l e s m args below meth c D cA 3 ad0 n0 sz (d + 1) mc ms P) q.1 q.2 := by
  have hF := hM.1
  have hts := hF.2.2.2.2.1
  unfold tX5_beginRow
  refine fmS (snd_iconst hF (n := 0) rfl (by decide +kernel)) ?_
  refine fmS (snd_istoren hF (k := 2) rfl (by decide) (by decide +kernel)) ?_
  refine fmS (snd_iloadn hF (k := 2) rfl (by decide +kernel)) ?_
  refine fmS (snd_bipush hF (n := 8) (by decide +kernel) (by decide +kernel)) ?_
  refine fmS (snd_icmp_ge hF (off := 24) (by decide) (by decide +kernel)) ?_
  refine fmS (snd_aloadn hF (k := 0) rfl (by decide +kernel)) ?_
  refine fmS (snd_iloadn hF (k := 1) rfl (by decide +kernel)) ?_
  refine fmS (snd_iloadn hF (k := 2) rfl (by decide +kernel)) ?_
  refine fmS (snd_aloadn hF (k := 0) rfl (by decide +kernel)) ?_
  refine fmS (snd_getr2 hF okX2 okX4 (k := 0) (by decide) (by decide) qw220 rfl rfl rfl rfl (by decide +kernel)) ?_
  refine fmS (snd_getrN hF okX1 (k := 3) (by decide) qw196 rfl rfl (by decide +kernel)) ?_
  refine fmS (snd_iloadn hF (k := 2) rfl (by decide +kernel)) ?_
  refine fmS (snd_iaload hF (by decide +kernel)) ?_
  refine fmS (snd_disp ((fmD (snd_callU hM k_X2_setInitialValue okX2 (x := ⟨"ReductionFinder$Machine", "setInitialValue", "(III)V"⟩) (owner := "ReductionFinder$Machine") qw949 qw951 qw950 qw952 qw953 (by decide) rfl (by decide +kernel)) (fmD (snd_callU hM k_X4_setInitialValue okX4 (x := ⟨"ReductionFinder$Machine", "setInitialValue", "(III)V"⟩) (owner := "ReductionFinder$Machine") qw949 qw951 qw950 qw955 qw956 (by decide) rfl (by decide +kernel)) fmN)))) ?_
  refine fmS (snd_iinc hF (n := 1) (by decide +kernel) (by decide) (by decide +kernel)) ?_
  refine fmS (snd_goto hF (off := (-24)) (by decide) (by decide +kernel)) ?_
  refine fmS (snd_retV hM (by decide +kernel)) ?_
  exact fmE
theorem iX5_beginRow {d mc ms n : Nat} {av : List Value} {M : PM} {P : PO} (hw : wid av ≤ 3) (hb : ∀ J : KT, (∀ (k : Nat) (stops : Nat → Bool) (pc : Nat) (lv : LV) (st : List Value) (nn : NN) (M : PM), lk (tX5_beginRow d mc ms P) pc (wpN (tX5_beginRow d mc ms P) stops k J) lv st nn M → J pc lv st nn M) → J 0 (entA 0 av) [] (n, 0, 0) M) : CallOK (d + 1) mc ms yX5_beginRow (Cond.code yX5_beginRow cX5_beginRow 3 none) av n M P := call_intro (own := RX5) (by decide) rfl hw (fun _ _ _ _ _ _ _ _ _ _ _ _ _ hM => sX5_beginRow hM) hb
def tX5_runIteration (d mc ms : Nat) (P : PO) : List (Nat × OP) := [(0, oAld 0 1), (1, oIld 2 2), (2, oPi2 2 4 1 5), (5, oAld 0 6), (6, oIld 3 7), (7, oPi2 2 4 2 10), (10, oPush (.int 0) 11), (11, oIst 4 13), (13, oIld 4 15), (15, oAld 1 16), (16, oGi 6 3 19), (19, oIc (fun x y => y ≤ x) 61 22), (22, oAld 0 23), (23, oAld 1 24), (24, oGr 6 0 27), (27, oAld 1 28), (28, oIld 4 30), (30, oCallV d mc ms P 0 0 yX6_firstCodeOf (Cond.code yX6_firstCodeOf cX6_firstCodeOf 2 (some .int)) 1 6 33), (33, oAld 1 34), (34, oGr 6 2 37), (37, oIld 4 39), (39, oAi 100 40), (40, oDisp 3 [(2, oCallV d mc ms P 0 0 yX8_walk (Cond.code yX8_walk cX8_walk 9 none) 3 2 43), (4, oCallV d mc ms P 0 0 yX8_walk (Cond.code yX8_walk cX8_walk 9 none) 3 4 43)]), (43, oAld 0 44), (44, oIld 2 45), (45, oAld 1 46), (46, oGr 6 1 49), (49, oIld 4 51), (51, oAi 100 52), (52, oDisp 2 [(2, oCallV d mc ms P 0 0 yX2_storeValue (Cond.code yX2_storeValue cX2_storeValue 3 none) 2 2 55), (4, oCallV d mc ms P 0 0 yX4_storeValue (Cond.code yX4_storeValue cX4_storeValue 3 none) 2 4 55)]), (55, oInc 4 1 58), (58, oGoto 13), (61, oRetV mc ms P)]
set_option maxRecDepth 20000 in
theorem sX5_runIteration {p : Program} {l : Launch} {e : Env} {s : State} {m : MethodId} {args : Array Value} {below : List Frame} {meth : Method} {c : Code} {D : va_G} {cA : Nat → ClassId} {ad0 : Nat → Nat} {n0 sz d mc ms : Nat} {P : PO} (hM : FM p l s m args meth c D cA 5 ad0 n0 sz cX5_runIteration RX5 none [] yX5_runIteration.name) : ∀ q ∈ tX5_runIteration d mc ms P, Snd (jM p l e s m args below meth c D cA 5 ad0 n0 sz (d + 1) mc ms P) q.1 q.2 := by
  have hF := hM.1
  have hts := hF.2.2.2.2.1
  unfold tX5_runIteration
  refine fmS (snd_aloadn hF (k := 0) rfl (by decide +kernel)) ?_
  refine fmS (snd_iloadn hF (k := 2) rfl (by decide +kernel)) ?_
  refine fmS (snd_puti2 hF okX2 okX4 (k := 1) (by decide) (by decide) qw221 rfl rfl rfl rfl rfl rfl rfl (by decide +kernel)) ?_
  refine fmS (snd_aloadn hF (k := 0) rfl (by decide +kernel)) ?_
  refine fmS (snd_iloadn hF (k := 3) rfl (by decide +kernel)) ?_
  refine fmS (snd_puti2 hF okX2 okX4 (k := 2) (by decide) (by decide) qw222 rfl rfl rfl rfl rfl rfl rfl (by decide +kernel)) ?_
  refine fmS (snd_iconst hF (n := 0) rfl (by decide +kernel)) ?_
  refine fmS (snd_istore hF (by decide) (by decide +kernel)) ?_
  refine fmS (snd_iload hF (by decide +kernel)) ?_
  refine fmS (snd_aloadn hF (k := 1) rfl (by decide +kernel)) ?_
  refine fmS (snd_getiN hF okX6 (k := 3) (by decide) qw268 rfl rfl (by decide +kernel)) ?_
  refine fmS (snd_icmp_ge hF (off := 42) (by decide) (by decide +kernel)) ?_
  refine fmS (snd_aloadn hF (k := 0) rfl (by decide +kernel)) ?_
  refine fmS (snd_aloadn hF (k := 1) rfl (by decide +kernel)) ?_
  refine fmS (snd_getrN hF okX6 (k := 0) (by decide) qw261 rfl rfl (by decide +kernel)) ?_
  refine fmS (snd_aloadn hF (k := 1) rfl (by decide +kernel)) ?_
  refine fmS (snd_iload hF (by decide +kernel)) ?_
  refine fmS (snd_callVN hM k_X6_firstCodeOf okX6 qw962 qw598 (hts _ qw20) (by decide +kernel)) ?_
  refine fmS (snd_aloadn hF (k := 1) rfl (by decide +kernel)) ?_
  refine fmS (snd_getrN hF okX6 (k := 2) (by decide) qw265 rfl rfl (by decide +kernel)) ?_
  refine fmS (snd_iload hF (by decide +kernel)) ?_
  refine fmS (snd_iaload hF (by decide +kernel)) ?_
  refine fmS (snd_disp ((fmD (snd_callU hM k_X8_walk okX2 (x := ⟨"ReductionFinder$Machine", "walk", "([III)V"⟩) (owner := "ReductionFinder$Walk") qw963 qw964 qw630 qw965 qw632 (by decide) rfl (by decide +kernel)) (fmD (snd_callU hM k_X8_walk okX4 (x := ⟨"ReductionFinder$Machine", "walk", "([III)V"⟩) (owner := "ReductionFinder$Walk") qw963 qw964 qw630 qw966 qw632 (by decide) rfl (by decide +kernel)) fmN)))) ?_
  refine fmS (snd_aloadn hF (k := 0) rfl (by decide +kernel)) ?_
  refine fmS (snd_iloadn hF (k := 2) rfl (by decide +kernel)) ?_
  refine fmS (snd_aloadn hF (k := 1) rfl (by decide +kernel)) ?_
  refine fmS (snd_getrN hF okX6 (k := 1) (by decide) qw263 rfl rfl (by decide +kernel)) ?_
  refine fmS (snd_iload hF (by decide +kernel)) ?_
  refine fmS (snd_iaload hF (by decide +kernel)) ?_
  refine fmS (snd_disp ((fmD (snd_callU hM k_X2_storeValue okX2 (x := ⟨"ReductionFinder$Machine", "storeValue", "(II)V"⟩) (owner := "ReductionFinder$Machine") qw967 qw969 qw968 qw970 qw971 (by decide) rfl (by decide +kernel)) (fmD (snd_callU hM k_X4_storeValue okX4 (x := ⟨"ReductionFinder$Machine", "storeValue", "(II)V"⟩) (owner := "ReductionFinder$Machine") qw967 qw969 qw968 qw973 qw974 (by decide) rfl (by decide +kernel)) fmN)))) ?_
  refine fmS (snd_iinc hF (n := 1) (by decide +kernel) (by decide) (by decide +kernel)) ?_
  refine fmS (snd_goto hF (off := (-45)) (by decide) (by decide +kernel)) ?_
  refine fmS (snd_retV hM (by decide +kernel)) ?_
  exact fmE
theorem iX5_runIteration {d mc ms n : Nat} {av : List Value} {M : PM} {P : PO} (hw : wid av ≤ 5) (hb : ∀ J : KT, (∀ (k : Nat) (stops : Nat → Bool) (pc : Nat) (lv : LV) (st : List Value) (nn : NN) (M : PM), lk (tX5_runIteration d mc ms P) pc (wpN (tX5_runIteration d mc ms P) stops k J) lv st nn M → J pc lv st nn M) → J 0 (entA 0 av) [] (n, 0, 0) M) : CallOK (d + 1) mc ms yX5_runIteration (Cond.code yX5_runIteration cX5_runIteration 5 none) av n M P := call_intro (own := RX5) (by decide) rfl hw (fun _ _ _ _ _ _ _ _ _ _ _ _ _ hM => sX5_runIteration hM) hb
