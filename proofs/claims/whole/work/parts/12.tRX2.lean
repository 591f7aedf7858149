def tX2_putLeaf (d mc ms : Nat) (P : PO) : List (Nat × OP) := [(0, oAld 0 1), (1, oGr 2 4 4), (4, oIld 1 5), (5, oIld 2 6), (6, oCallS d mc ms P 0 0 yX9_isStart (Cond.code yX9_isStart cX9_isStart 1 (some .boolean)) 1 9), (9, oIf (fun x => x = 0) 29 12), (12, oAld 0 13), (13, oGr 2 3 16), (16, oAld 0 17), (17, oCallV d mc ms P 0 0 yX5_rowNow (Cond.code yX5_rowNow cX5_rowNow 1 (some .int)) 0 2 20), (20, oAr 107 21), (21, oIld 2 22), (22, oPush (.int 100) 24), (24, oI2 (fun x y => x - y) 25), (25, oAf 26), (26, oGoto 35), (29, oAld 0 30), (30, oIld 2 31), (31, oCallV d mc ms P 0 0 yX5_constantOf (Cond.code yX5_constantOf cX5_constantOf 3 (some .int)) 1 2 34), (34, oIcv (fun x => .float (FP.i2f x)) 35), (35, oSf 36), (36, oRetV mc ms P)]
set_option maxRecDepth 20000 in
theorem sX2_putLeaf {p : Program} {l : Launch} {e : Env} {s : State} {m : MethodId} {args : Array Value} {below : List Frame} {meth : Method} {c : Code} {D : va_G} {cA : Nat → ClassId} {ad0 : Nat → Nat} {n0 sz d mc ms : Nat} {P : PO} (hM : FM p l s m args meth c D cA 3 ad0 n0 sz cX2_putLeaf RX2 none [] yX2_putLeaf.name) : ∀ q ∈ tX2_putLeaf d mc ms P, Snd (jM p l e s m args below meth c D cA 3 ad0 n0 sz (d + 1) mc ms P) q.1 q.2 := by
  have hF := hM.1
  have hts := hF.2.2.2.2.1
  unfold tX2_putLeaf
  refine fmS (snd_aloadn hF (k := 0) rfl (by decide +kernel)) ?_
  refine fmS (snd_getr hF okX2 (k := 4) (by decide) qw244 rfl rfl (by decide +kernel)) ?_
  refine fmS (snd_iloadn hF (k := 1) rfl (by decide +kernel)) ?_
  refine fmS (snd_iloadn hF (k := 2) rfl (by decide +kernel)) ?_
  refine fmS (snd_callSN hM k_X9_isStart qw647 qw601 (by decide +kernel)) ?_
  refine fmS (snd_if_eq hF (off := 20) (by decide) (by decide +kernel)) ?_
  refine fmS (snd_aloadn hF (k := 0) rfl (by decide +kernel)) ?_
  refine fmS (snd_getr hF okX2 (k := 3) (by decide) qw242 rfl rfl (by decide +kernel)) ?_
  refine fmS (snd_aloadn hF (k := 0) rfl (by decide +kernel)) ?_
  refine fmS (snd_callU hM k_X5_rowNow okX2 (x := ⟨"ReductionFinder$FloatMachine", "rowNow", "()I"⟩) (owner := "ReductionFinder$Machine") qw648 qw649 qw650 qw651 qw652 (by decide) rfl (by decide +kernel)) ?_
  refine fmS (snd_aaload107 hF (by decide +kernel)) ?_
  refine fmS (snd_iloadn hF (k := 2) rfl (by decide +kernel)) ?_
  refine fmS (snd_bipush hF (n := 100) (by decide +kernel) (by decide +kernel)) ?_
  refine fmS (snd_isub hF (by decide +kernel)) ?_
  refine fmS (snd_faload hF (by decide +kernel)) ?_
  refine fmS (snd_goto hF (off := 9) (by decide) (by decide +kernel)) ?_
  refine fmS (snd_aloadn hF (k := 0) rfl (by decide +kernel)) ?_
  refine fmS (snd_iloadn hF (k := 2) rfl (by decide +kernel)) ?_
  refine fmS (snd_callU hM k_X5_constantOf okX2 (x := ⟨"ReductionFinder$FloatMachine", "constantOf", "(I)I"⟩) (owner := "ReductionFinder$Machine") qw654 qw655 qw656 qw657 qw658 (by decide) rfl (by decide +kernel)) ?_
  refine fmS (snd_i2f hF (by decide +kernel)) ?_
  refine fmS (snd_fastore hF (by decide +kernel)) ?_
  refine fmS (snd_retV hM (by decide +kernel)) ?_
  exact fmE
theorem iX2_putLeaf {d mc ms n : Nat} {av : List Value} {M : PM} {P : PO} (hw : wid av ≤ 3) (hb : ∀ J : KT, (∀ (k : Nat) (stops : Nat → Bool) (pc : Nat) (lv : LV) (st : List Value) (nn : NN) (M : PM), lk (tX2_putLeaf d mc ms P) pc (wpN (tX2_putLeaf d mc ms P) stops k J) lv st nn M → J pc lv st nn M) → J 0 (entA 0 av) [] (n, 0, 0) M) : CallOK (d + 1) mc ms yX2_putLeaf (Cond.code yX2_putLeaf cX2_putLeaf 3 none) av n M P := call_intro (own := RX2) (by decide) rfl hw (fun _ _ _ _ _ _ _ _ _ _ _ _ _ hM => sX2_putLeaf hM) hb
def tX2_joinPair (d mc ms : Nat) (P : PO) : List (Nat × OP) := [(0, oAld 0 1), (1, oGr 2 4 4), (4, oIld 1 5), (5, oIld 2 6), (6, oAld 0 7), (7, oGr 2 4 10), (10, oIld 1 11), (11, oPush (.int 1) 12), (12, oI2 (fun x y => x + y) 13), (13, oAf 14), (14, oAld 0 15), (15, oGr 2 4 18), (18, oIld 1 19), (19, oAf 20), (20, oCallS d mc ms P 0 0 yX2_calculate (Cond.code yX2_calculate cX2_calculate 4 (some .float)) 3 23), (23, oSf 24), (24, oRetV mc ms P)]
set_option maxRecDepth 20000 in
theorem sX2_joinPair {p : Program} {l : Launch} {e : Env} {s : State} {m : MethodId} {args : Array Value} {below : List Frame} {meth : Method} {c : Code} {D : va_G} {cA : Nat → ClassId} {ad0 : Nat → Nat} {n0 sz d mc ms : Nat} {P : PO} (hM : FM p l s m args meth c D cA 3 ad0 n0 sz cX2_joinPair RX2 none [] yX2_joinPair.name) : ∀ q ∈ tX2_joinPair d mc ms P, Snd (jM p l e s m args below meth c D cA 3 ad0 n0 sz (d + 1) mc ms P) q.1 q.2 := by
  have hF := hM.1
  have hts := hF.2.2.2.2.1
  unfold tX2_joinPair
  refine fmS (snd_aloadn hF (k := 0) rfl (by decide +kernel)) ?_
  refine fmS (snd_getr hF okX2 (k := 4) (by decide) qw244 rfl rfl (by decide +kernel)) ?_
  refine fmS (snd_iloadn hF (k := 1) rfl (by decide +kernel)) ?_
  refine fmS (snd_iloadn hF (k := 2) rfl (by decide +kernel)) ?_
  refine fmS (snd_aloadn hF (k := 0) rfl (by decide +kernel)) ?_
  refine fmS (snd_getr hF okX2 (k := 4) (by decide) qw244 rfl rfl (by decide +kernel)) ?_
  refine fmS (snd_iloadn hF (k := 1) rfl (by decide +kernel)) ?_
  refine fmS (snd_iconst hF (n := 1) rfl (by decide +kernel)) ?_
  refine fmS (snd_iadd hF (by decide +kernel)) ?_
  refine fmS (snd_faload hF (by decide +kernel)) ?_
  refine fmS (snd_aloadn hF (k := 0) rfl (by decide +kernel)) ?_
  refine fmS (snd_getr hF okX2 (k := 4) (by decide) qw244 rfl rfl (by decide +kernel)) ?_
  refine fmS (snd_iloadn hF (k := 1) rfl (by decide +kernel)) ?_
  refine fmS (snd_faload hF (by decide +kernel)) ?_
  refine fmS (snd_callS hM k_X2_calculate qw682 qw683 (by decide +kernel)) ?_
  refine fmS (snd_fastore hF (by decide +kernel)) ?_
  refine fmS (snd_retV hM (by decide +kernel)) ?_
  exact fmE
theorem iX2_joinPair {d mc ms n : Nat} {av : List Value} {M : PM} {P : PO} (hw : wid av ≤ 3) (hb : ∀ J : KT, (∀ (k : Nat) (stops : Nat → Bool) (pc : Nat) (lv : LV) (st : List Value) (nn : NN) (M : PM), lk (tX2_joinPair d mc ms P) pc (wpN (tX2_joinPair d mc ms P) stops k J) lv st nn M → J pc lv st nn M) → J 0 (entA 0 av) [] (n, 0, 0) M) : CallOK (d + 1) mc ms yX2_joinPair (Cond.code yX2_joinPair cX2_joinPair 3 none) av n M P := call_intro (own := RX2) (by decide) rfl hw (fun _ _ _ _ _ _ _ _ _ _ _ _ _ hM => sX2_joinPair hM) hb
def tX2_joinChoice (d mc ms : Nat) (P : PO) : List (Nat × OP) := [(0, oAld 0 1), (1, oGr 2 4 4), (4, oIld 1 5), (5, oAld 0 6), (6, oGr 2 4 9), (9, oIld 1 10), (10, oPush (.int 2) 11), (11, oI2 (fun x y => x + y) 12), (12, oAf 13), (13, oPush (.float FP.fconst0) 14), (14, oFcmp .l 15), (15, oIf (fun x => x ≤ 0) 29 18), (18, oAld 0 19), (19, oGr 2 4 22), (22, oIld 1 23), (23, oPush (.int 1) 24), (24, oI2 (fun x y => x + y) 25), (25, oAf 26), (26, oGoto 35), (29, oAld 0 30), (30, oGr 2 4 33), (33, oIld 1 34), (34, oAf 35), (35, oSf 36), (36, oRetV mc ms P)]
set_option maxRecDepth 20000 in
theorem sX2_joinChoice {p : Program} {l : Launch} {e : Env} {s : State} {m : MethodId} {args : Array Value} {below : List Frame} {meth : Method} {c : Code} {D : va_G} {cA : Nat → ClassId} {ad0 : Nat → Nat} {n0 sz d mc ms : Nat} {P : PO} (hM : FM p l s m args meth c D cA 2 ad0 n0 sz cX2_joinChoice RX2 none [] yX2_joinChoice.name) : ∀ q ∈ tX2_joinChoice d mc ms P, Snd (jM p l e s m args below meth c D cA 2 ad0 n0 sz (d + 1) mc ms P) q.1 q.2 := by
  have hF := hM.1
  have hts := hF.2.2.2.2.1
  unfold tX2_joinChoice
  refine fmS (snd_aloadn hF (k := 0) rfl (by decide +kernel)) ?_
  refine fmS (snd_getr hF okX2 (k := 4) (by decide) qw244 rfl rfl (by decide +kernel)) ?_
  refine fmS (snd_iloadn hF (k := 1) rfl (by decide +kernel)) ?_
  refine fmS (snd_aloadn hF (k := 0) rfl (by decide +kernel)) ?_
  refine fmS (snd_getr hF okX2 (k := 4) (by decide) qw244 rfl rfl (by decide +kernel)) ?_
  refine fmS (snd_iloadn hF (k := 1) rfl (by decide +kernel)) ?_
  refine fmS (snd_iconst hF (n := 2) rfl (by decide +kernel)) ?_
  refine fmS (snd_iadd hF (by decide +kernel)) ?_
  refine fmS (snd_faload hF (by decide +kernel)) ?_
  refine fmS (snd_fconst0 hF (by decide +kernel)) ?_
  refine fmS (snd_fcmp hF (by decide +kernel)) ?_
  refine fmS (snd_if_le hF (off := 14) (by decide) (by decide +kernel)) ?_
  refine fmS (snd_aloadn hF (k := 0) rfl (by decide +kernel)) ?_
  refine fmS (snd_getr hF okX2 (k := 4) (by decide) qw244 rfl rfl (by decide +kernel)) ?_
  refine fmS (snd_iloadn hF (k := 1) rfl (by decide +kernel)) ?_
  refine fmS (snd_iconst hF (n := 1) rfl (by decide +kernel)) ?_
  refine fmS (snd_iadd hF (by decide +kernel)) ?_
  refine fmS (snd_faload hF (by decide +kernel)) ?_
  refine fmS (snd_goto hF (off := 9) (by decide) (by decide +kernel)) ?_
  refine fmS (snd_aloadn hF (k := 0) rfl (by decide +kernel)) ?_
  refine fmS (snd_getr hF okX2 (k := 4) (by decide) qw244 rfl rfl (by decide +kernel)) ?_
  refine fmS (snd_iloadn hF (k := 1) rfl (by decide +kernel)) ?_
  refine fmS (snd_faload hF (by decide +kernel)) ?_
  refine fmS (snd_fastore hF (by decide +kernel)) ?_
  refine fmS (snd_retV hM (by decide +kernel)) ?_
  exact fmE
theorem iX2_joinChoice {d mc ms n : Nat} {av : List Value} {M : PM} {P : PO} (hw : wid av ≤ 2) (hb : ∀ J : KT, (∀ (k : Nat) (stops : Nat → Bool) (pc : Nat) (lv : LV) (st : List Value) (nn : NN) (M : PM), lk (tX2_joinChoice d mc ms P) pc (wpN (tX2_joinChoice d mc ms P) stops k J) lv st nn M → J pc lv st nn M) → J 0 (entA 0 av) [] (n, 0, 0) M) : CallOK (d + 1) mc ms yX2_joinChoice (Cond.code yX2_joinChoice cX2_joinChoice 2 none) av n M P := call_intro (own := RX2) (by decide) rfl hw (fun _ _ _ _ _ _ _ _ _ _ _ _ _ hM => sX2_joinChoice hM) hb
def tX2_setInitialValue (d mc ms : Nat) (P : PO) : List (Nat × OP) := [(0, oAld 0 1), (1, oGr 2 3 4), (4, oIld 1 5), (5, oAr 107 6), (6, oIld 2 7), (7, oIld 3 8), (8, oIcv (fun x => .float (FP.i2f x)) 9), (9, oSf 10), (10, oRetV mc ms P)]
set_option maxRecDepth 20000 in
theorem sX2_setInitialValue {p : Program} {l : Launch} {e : Env} {s : State} {m : MethodId} {args : Array Value} {below : List Frame} {meth : Method} {c : Code} {D : va_G} {cA : Nat → ClassId} {ad0 : Nat → Nat} {n0 sz d mc ms : Nat} {P : PO} (hM : FM p l s m args meth c D cA 4 ad0 n0 sz cX2_setInitialValue RX2 none [] yX2_setInitialValue.name) : ∀ q ∈ tX2_setInitialValue d mc ms P, Snd (jM p l e s m args below meth c D cA 4 ad0 n0 sz (d + 1) mc ms P) q.1 q.2 := by
  have hF := hM.1
  have hts := hF.2.2.2.2.1
  unfold tX2_setInitialValue
  refine fmS (snd_aloadn hF (k := 0) rfl (by decide +kernel)) ?_
  refine fmS (snd_getr hF okX2 (k := 3) (by decide) qw242 rfl rfl (by decide +kernel)) ?_
  refine fmS (snd_iloadn hF (k := 1) rfl (by decide +kernel)) ?_
  refine fmS (snd_aaload107 hF (by decide +kernel)) ?_
  refine fmS (snd_iloadn hF (k := 2) rfl (by decide +kernel)) ?_
  refine fmS (snd_iloadn hF (k := 3) rfl (by decide +kernel)) ?_
  refine fmS (snd_i2f hF (by decide +kernel)) ?_
  refine fmS (snd_fastore hF (by decide +kernel)) ?_
  refine fmS (snd_retV hM (by decide +kernel)) ?_
  exact fmE
theorem iX2_setInitialValue {d mc ms n : Nat} {av : List Value} {M : PM} {P : PO} (hw : wid av ≤ 4) (hb : ∀ J : KT, (∀ (k : Nat) (stops : Nat → Bool) (pc : Nat) (lv : LV) (st : List Value) (nn : NN) (M : PM), lk (tX2_setInitialValue d mc ms P) pc (wpN (tX2_setInitialValue d mc ms P) stops k J) lv st nn M → J pc lv st nn M) → J 0 (entA 0 av) [] (n, 0, 0) M) : CallOK (d + 1) mc ms yX2_setInitialValue (Cond.code yX2_setInitialValue cX2_setInitialValue 4 none) av n M P := call_intro (own := RX2) (by decide) rfl hw (fun _ _ _ _ _ _ _ _ _ _ _ _ _ hM => sX2_setInitialValue hM) hb
def tX2_setNeutral (d mc ms : Nat) (P : PO) : List (Nat × OP) := [(0, oAld 0 1), (1, oGr 2 3 4), (4, oIld 1 5), (5, oAr 107 6), (6, oIld 2 7), (7, oIld 3 8), (8, oCallS d mc ms P 0 0 yX2_neutralOf (Cond.code yX2_neutralOf cX2_neutralOf 1 (some .float)) 1 11), (11, oSf 12), (12, oRetV mc ms P)]
set_option maxRecDepth 20000 in
theorem sX2_setNeutral {p : Program} {l : Launch} {e : Env} {s : State} {m : MethodId} {args : Array Value} {below : List Frame} {meth : Method} {c : Code} {D : va_G} {cA : Nat → ClassId} {ad0 : Nat → Nat} {n0 sz d mc ms : Nat} {P : PO} (hM : FM p l s m args meth c D cA 4 ad0 n0 sz cX2_setNeutral RX2 none [] yX2_setNeutral.name) : ∀ q ∈ tX2_setNeutral d mc ms P, Snd (jM p l e s m args below meth c D cA 4 ad0 n0 sz (d + 1) mc ms P) q.1 q.2 := by
  have hF := hM.1
  have hts := hF.2.2.2.2.1
  unfold tX2_setNeutral
  refine fmS (snd_aloadn hF (k := 0) rfl (by decide +kernel)) ?_
  refine fmS (snd_getr hF okX2 (k := 3) (by decide) qw242 rfl rfl (by decide +kernel)) ?_
  refine fmS (snd_iloadn hF (k := 1) rfl (by decide +kernel)) ?_
  refine fmS (snd_aaload107 hF (by decide +kernel)) ?_
  refine fmS (snd_iloadn hF (k := 2) rfl (by decide +kernel)) ?_
  refine fmS (snd_iloadn hF (k := 3) rfl (by decide +kernel)) ?_
  refine fmS (snd_callS hM k_X2_neutralOf qw987 qw988 (by decide +kernel)) ?_
  refine fmS (snd_fastore hF (by decide +kernel)) ?_
  refine fmS (snd_retV hM (by decide +kernel)) ?_
  exact fmE
theorem iX2_setNeutral {d mc ms n : Nat} {av : List Value} {M : PM} {P : PO} (hw : wid av ≤ 4) (hb : ∀ J : KT, (∀ (k : Nat) (stops : Nat → Bool) (pc : Nat) (lv : LV) (st : List Value) (nn : NN) (M : PM), lk (tX2_setNeutral d mc ms P) pc (wpN (tX2_setNeutral d mc ms P) stops k J) lv st nn M → J pc lv st nn M) → J 0 (entA 0 av) [] (n, 0, 0) M) : CallOK (d + 1) mc ms yX2_setNeutral (Cond.code yX2_setNeutral cX2_setNeutral 4 none) av n M P := call_intro (own := RX2) (by decide) rfl hw (fun _ _ _ _ _ _ _ _ _ _ _ _ _ hM => sX2_setNeutral hM) hb
def tX2_combine (d mc ms : Nat) (P : PO) : List (Nat × OP) := [(0, oAld 0 1), (1, oGr 2 3 4), (4, oIld 1 5), (5, oAr 107 6), (6, oIld 3 7), (7, oIld 4 9), (9, oAld 0 10), (10, oGr 2 3 13), (13, oIld 1 14), (14, oAr 107 15), (15, oIld 3 16), (16, oAf 17), (17, oAld 0 18), (18, oGr 2 3 21), (21, oIld 2 22), (22, oAr 107 23), (23, oIld 3 24), (24, oAf 25), (25, oCallS d mc ms P 0 0 yX2_calculate (Cond.code yX2_calculate cX2_calculate 4 (some .float)) 3 28), (28, oSf 29), (29, oRetV mc ms P)]
set_option maxRecDepth 20000 in
theorem sX2_combine {p : Program} {l : Launch} {e : Env} {s : State} {m : MethodId} {args : Array Value} {below : List Frame} {meth : Method} {c : Code} {D : va_G} {cA : Nat → ClassId} {ad0 : Nat → Nat} {n0 sz d mc ms : Nat} {P : PO} (hM : FM p l s m args meth c D cA 5 ad0 n0 sz cX2_combine RX2 none [] yX2_combine.name) : ∀ q ∈ tX2_combine d mc ms P, Snd (jM p l e s m args below meth c D cA 5 ad0 n0 sz (d + 1) mc ms P) q.1 q.2 := by
  have hF := hM.1
  have hts := hF.2.2.2.2.1
  unfold tX2_combine
  refine fmS (snd_aloadn hF (k := 0) rfl (by decide +kernel)) ?_
  refine fmS (snd_getr hF okX2 (k := 3) (by decide) qw242 rfl rfl (by decide +kernel)) ?_
  refine fmS (snd_iloadn hF (k := 1) rfl (by decide +kernel)) ?_
  refine fmS (snd_aaload107 hF (by decide +kernel)) ?_
  refine fmS (snd_iloadn hF (k := 3) rfl (by decide +kernel)) ?_
  refine fmS (snd_iload hF (by decide +kernel)) ?_
  refine fmS (snd_aloadn hF (k := 0) rfl (by decide +kernel)) ?_
  refine fmS (snd_getr hF okX2 (k := 3) (by decide) qw242 rfl rfl (by decide +kernel)) ?_
  refine fmS (snd_iloadn hF (k := 1) rfl (by decide +kernel)) ?_
  refine fmS (snd_aaload107 hF (by decide +kernel)) ?_
  refine fmS (snd_iloadn hF (k := 3) rfl (by decide +kernel)) ?_
  refine fmS (snd_faload hF (by decide +kernel)) ?_
  refine fmS (snd_aloadn hF (k := 0) rfl (by decide +kernel)) ?_
  refine fmS (snd_getr hF okX2 (k := 3) (by decide) qw242 rfl rfl (by decide +kernel)) ?_
  refine fmS (snd_iloadn hF (k := 2) rfl (by decide +kernel)) ?_
  refine fmS (snd_aaload107 hF (by decide +kernel)) ?_
  refine fmS (snd_iloadn hF (k := 3) rfl (by decide +kernel)) ?_
  refine fmS (snd_faload hF (by decide +kernel)) ?_
  refine fmS (snd_callS hM k_X2_calculate qw682 qw683 (by decide +kernel)) ?_
  refine fmS (snd_fastore hF (by decide +kernel)) ?_
  refine fmS (snd_retV hM (by decide +kernel)) ?_
  exact fmE
theorem iX2_combine {d mc ms n : Nat} {av : List Value} {M : PM} {P : PO} (hw : wid av ≤ 5) (hb : ∀ J : KT, (∀ (k : Nat) (stops : Nat → Bool) (pc : Nat) (lv : LV) (st : List Value) (nn : NN) (M : PM), lk (tX2_combine d mc ms P) pc (wpN (tX2_combine d mc ms P) stops k J) lv st nn M → J pc lv st nn M) → J 0 (entA 0 av) [] (n, 0, 0) M) : CallOK (d + 1) mc ms yX2_combine (Cond.code yX2_combine cX2_combine 5 none) av n M P := call_intro (own := RX2) (by decide) rfl hw (fun _ _ _ _ _ _ _ _ _ _ _ _ _ hM => sX2_combine hM) hb
def tX2_copyValue (d mc ms : Nat) (P : PO) : List (Nat × OP) := [(0, oAld 0 1), (1, oGr 2 3 4), (4, oIld 1 5), (5, oAr 107 6), (6, oIld 3 7), (7, oAld 0 8), (8, oGr 2 3 11), (11, oIld 2 12), (12, oAr 107 13), (13, oIld 3 14), (14, oAf 15), (15, oSf 16), (16, oRetV mc ms P)]
set_option maxRecDepth 20000 in
theorem sX2_copyValue {p : Program} {l : Launch} {e : Env} {s : State} {m : MethodId} {args : Array Value} {below : List Frame} {meth : Method} {c : Code} {D : va_G} {cA : Nat → ClassId} {ad0 : Nat → Nat} {n0 sz d mc ms : Nat} {P : PO} (hM : FM p l s m args meth c D cA 4 ad0 n0 sz cX2_copyValue RX2 none [] yX2_copyValue.name) : ∀ q ∈ tX2_copyValue d mc ms P, Snd (jM p l e s m args below meth c D cA 4 ad0 n0 sz (d + 1) mc ms P) q.1 q.2 := by
  have hF := hM.1
  have hts := hF.2.2.2.2.1
  unfold tX2_copyValue
  refine fmS (snd_aloadn hF (k := 0) rfl (by decide +kernel)) ?_
  refine fmS (snd_getr hF okX2 (k := 3) (by decide) qw242 rfl rfl (by decide +kernel)) ?_
  refine fmS (snd_iloadn hF (k := 1) rfl (by decide +kernel)) ?_
  refine fmS (snd_aaload107 hF (by decide +kernel)) ?_
  refine fmS (snd_iloadn hF (k := 3) rfl (by decide +kernel)) ?_
  refine fmS (snd_aloadn hF (k := 0) rfl (by decide +kernel)) ?_
  refine fmS (snd_getr hF okX2 (k := 3) (by decide) qw242 rfl rfl (by decide +kernel)) ?_
  refine fmS (snd_iloadn hF (k := 2) rfl (by decide +kernel)) ?_
  refine fmS (snd_aaload107 hF (by decide +kernel)) ?_
  refine fmS (snd_iloadn hF (k := 3) rfl (by decide +kernel)) ?_
  refine fmS (snd_faload hF (by decide +kernel)) ?_
  refine fmS (snd_fastore hF (by decide +kernel)) ?_
  refine fmS (snd_retV hM (by decide +kernel)) ?_
  exact fmE
theorem iX2_copyValue {d mc ms n : Nat} {av : List Value} {M : PM} {P : PO} (hw : wid av ≤ 4) (hb : ∀ J : KT, (∀ (k : Nat) (stops : Nat → Bool) (pc : Nat) (lv : LV) (st : List Value) (nn : NN) (M : PM), lk (tX2_copyValue d mc ms P) pc (wpN (tX2_copyValue d mc ms P) stops k J) lv st nn M → J pc lv st nn M) → J 0 (entA 0 av) [] (n, 0, 0) M) : CallOK (d + 1) mc ms yX2_copyValue (Cond.code yX2_copyValue cX2_copyValue 4 none) av n M P := call_intro (own := RX2) (by decide) rfl hw (fun _ _ _ _ _ _ _ _ _ _ _ _ _ hM => sX2_copyValue hM) hb
def tX2_storeValue (d mc ms : Nat) (P : PO) : List (Nat × OP) := [(0, oAld 0 1), (1, oGr 2 3 4), (4, oIld 1 5), (5, oAr 107 6), (6, oIld 2 7), (7, oAld 0 8), (8, oGr 2 4 11), (11, oPush (.int 0) 12), (12, oAf 13), (13, oSf 14), (14, oRetV mc ms P)]
set_option maxRecDepth 20000 in
theorem sX2_storeValue {p : Program} {l : Launch} {e : Env} {s : State} {m : MethodId} {args : Array Value} {below : List Frame} {meth : Method} {c : Code} {D : va_G} {cA : Nat → ClassId} {ad0 : Nat → Nat} {n0 sz d mc ms : Nat} {P : PO} (hM : FM p l s m args meth c D cA 3 ad0 n0 sz cX2_storeValue RX2 none [] yX2_storeValue.name) : ∀ q ∈ tX2_storeValue d mc ms P, Snd (jM p l e s m args below meth c D cA 3 ad0 n0 sz (d + 1) mc ms P) q.1 q.2 := by
  have hF := hM.1
  have hts := hF.2.2.2.2.1
  unfold tX2_storeValue
  refine fmS (snd_aloadn hF (k := 0) rfl (by decide +kernel)) ?_
  refine fmS (snd_getr hF okX2 (k := 3) (by decide) qw242 rfl rfl (by decide +kernel)) ?_
  refine fmS (snd_iloadn hF (k := 1) rfl (by decide +kernel)) ?_
  refine fmS (snd_aaload107 hF (by decide +kernel)) ?_
  refine fmS (snd_iloadn hF (k := 2) rfl (by decide +kernel)) ?_
  refine fmS (snd_aloadn hF (k := 0) rfl (by decide +kernel)) ?_
  refine fmS (snd_getr hF okX2 (k := 4) (by decide) qw244 rfl rfl (by decide +kernel)) ?_
  refine fmS (snd_iconst hF (n := 0) rfl (by decide +kernel)) ?_
  refine fmS (snd_faload hF (by decide +kernel)) ?_
  refine fmS (snd_fastore hF (by decide +kernel)) ?_
  refine fmS (snd_retV hM (by decide +kernel)) ?_
  exact fmE
theorem iX2_storeValue {d mc ms n : Nat} {av : List Value} {M : PM} {P : PO} (hw : wid av ≤ 3) (hb : ∀ J : KT, (∀ (k : Nat) (stops : Nat → Bool) (pc : Nat) (lv : LV) (st : List Value) (nn : NN) (M : PM), lk (tX2_storeValue d mc ms P) pc (wpN (tX2_storeValue d mc ms P) stops k J) lv st nn M → J pc lv st nn M) → J 0 (entA 0 av) [] (n, 0, 0) M) : CallOK (d + 1) mc ms yX2_storeValue (Cond.code yX2_storeValue cX2_storeValue 3 none) av n M P := call_intro (own := RX2) (by decide) rfl hw (fun _ _ _ _ _ _ _ _ _ _ _ _ _ hM => sX2_storeValue hM) hb
def tX2_valueOf (d mc ms : Nat) (P : PO) : List (Nat × OP) := [(0, oAld 0 1), (1, oGr 2 3 4), (4, oIld 1 5), (5, oAr 107 6), (6, oIld 2 7), (7, oAf 8), (8, oF2d 9), (9, oRetD mc ms P)]
set_option maxRecDepth 20000 in
theorem sX2_valueOf {p : Program} {l : Launch} {e : Env} {s : State} {m : MethodId} {args : Array Value} {below : List Frame} {meth : Method} {c : Code} {D : va_G} {cA : Nat → ClassId} {ad0 : Nat → Nat} {n0 sz d mc ms : Nat} {P : PO} (hM : FM p l s m args meth c D cA 3 ad0 n0 sz cX2_valueOf RX2 (some .double) [] yX2_valueOf.name) : ∀ q ∈ tX2_valueOf d mc ms P, Snd (jM p l e s m args below meth c D cA 3 ad0 n0 sz (d + 1) mc ms P) q.1 q.2 := by
  have hF := hM.1
  have hts := hF.2.2.2.2.1
  unfold tX2_valueOf
  refine fmS (snd_aloadn hF (k := 0) rfl (by decide +kernel)) ?_
  refine fmS (snd_getr hF okX2 (k := 3) (by decide) qw242 rfl rfl (by decide +kernel)) ?_
  refine fmS (snd_iloadn hF (k := 1) rfl (by decide +kernel)) ?_
  refine fmS (snd_aaload107 hF (by decide +kernel)) ?_
  refine fmS (snd_iloadn hF (k := 2) rfl (by decide +kernel)) ?_
  refine fmS (snd_faload hF (by decide +kernel)) ?_
  refine fmS (snd_f2d hF (by decide +kernel)) ?_
  refine fmS (snd_retD hM (by decide +kernel)) ?_
  exact fmE
theorem iX2_valueOf {d mc ms n : Nat} {av : List Value} {M : PM} {P : PO} (hw : wid av ≤ 3) (hb : ∀ J : KT, (∀ (k : Nat) (stops : Nat → Bool) (pc : Nat) (lv : LV) (st : List Value) (nn : NN) (M : PM), lk (tX2_valueOf d mc ms P) pc (wpN (tX2_valueOf d mc ms P) stops k J) lv st nn M → J pc lv st nn M) → J 0 (entA 0 av) [] (n, 0, 0) M) : CallOK (d + 1) mc ms yX2_valueOf (Cond.code yX2_valueOf cX2_valueOf 3 (some .double)) av n M P := call_intro (own := RX2) (by decide) rfl hw (fun _ _ _ _ _ _ _ _ _ _ _ _ _ hM => sX2_valueOf hM) hb
def tX2_calculate (d mc ms : Nat) (P : PO) : List (Nat × OP) := [(0, oIld 0 1), (1, oPush (.int 305) 4), (4, oIc (fun x y => x = y) 7 19), (7, oFld 1 8), (8, oFld 2 9), (9, oFcmp .g 10), (10, oIf (fun x => 0 < x) 17 13), (13, oFld 1 14), (14, oGoto 18), (17, oFld 2 18), (18, oRetF mc ms P), (19, oIld 0 20), (20, oPush (.int 306) 23), (23, oIc (fun x y => x = y) 26 38), (26, oFld 1 27), (27, oFld 2 28), (28, oFcmp .l 29), (29, oIf (fun x => x < 0) 36 32), (32, oFld 1 33), (33, oGoto 37), (36, oFld 2 37), (37, oRetF mc ms P), (38, oIld 0 39), (39, oPush (.int 301) 42), (42, oIc (fun x y => x = y) 45 51), (45, oFld 1 46), (46, oFld 2 47), (47, oF2 FP.fmul 48), (48, oGoto 67), (51, oIld 0 52), (52, oPush (.int 307) 55), (55, oIc (fun x y => x = y) 58 64), (58, oFld 1 59), (59, oFld 2 60), (60, oF2 FP.fsub 61), (61, oGoto 67), (64, oFld 1 65), (65, oFld 2 66), (66, oF2 FP.fadd 67), (67, oFst 3 68), (68, oFld 3 69), (69, oPush (.float 1900671690) 71), (71, oFcmp .l 72), (72, oIf (fun x => x ≤ 0) 78 75), (75, oPush (.float 1900671690) 77), (77, oRetF mc ms P), (78, oFld 3 79), (79, oPush (.float 4048155338) 81), (81, oFcmp .g 82), (82, oIf (fun x => 0 ≤ x) 90 85), (85, oPush (.float 4048155338) 87), (87, oGoto 91), (90, oFld 3 91), (91, oRetF mc ms P)]
set_option maxRecDepth 20000 in
theorem sX2_calculate {p : Program} {l : Launch} {e : Env} {s : State} {m : MethodId} {args : Array Value} {below : List Frame} {meth : Method} {c : Code} {D : va_G} {cA : Nat → ClassId} {ad0 : Nat → Nat} {n0 sz d mc ms : Nat} {P : PO} (hM : FM p l s m args meth c D cA 4 ad0 n0 sz cX2_calculate RX2 (some .float) [] yX2_calculate.name) : ∀ q ∈ tX2_calculate d mc ms P, Snd (jM p l e s m args below meth c D cA 4 ad0 n0 sz (d + 1) mc ms P) q.1 q.2 := by
  have hF := hM.1
  have hts := hF.2.2.2.2.1
  unfold tX2_calculate
  refine fmS (snd_iloadn hF (k := 0) rfl (by decide +kernel)) ?_
  refine fmS (snd_sipush hF (n := 305) (by decide +kernel) (by decide +kernel)) ?_
  refine fmS (snd_icmp_ne hF (off := 15) (by decide) (by decide +kernel)) ?_
  refine fmS (snd_floadn hF (k := 1) rfl (by decide +kernel)) ?_
  refine fmS (snd_floadn hF (k := 2) rfl (by decide +kernel)) ?_
  refine fmS (snd_fcmp hF (by decide +kernel)) ?_
  refine fmS (snd_if_gt hF (off := 7) (by decide) (by decide +kernel)) ?_
  refine fmS (snd_floadn hF (k := 1) rfl (by decide +kernel)) ?_
  refine fmS (snd_goto hF (off := 4) (by decide) (by decide +kernel)) ?_
  refine fmS (snd_floadn hF (k := 2) rfl (by decide +kernel)) ?_
  refine fmS (snd_retF hM (by decide +kernel)) ?_
  refine fmS (snd_iloadn hF (k := 0) rfl (by decide +kernel)) ?_
  refine fmS (snd_sipush hF (n := 306) (by decide +kernel) (by decide +kernel)) ?_
  refine fmS (snd_icmp_ne hF (off := 15) (by decide) (by decide +kernel)) ?_
  refine fmS (snd_floadn hF (k := 1) rfl (by decide +kernel)) ?_
  refine fmS (snd_floadn hF (k := 2) rfl (by decide +kernel)) ?_
  refine fmS (snd_fcmp hF (by decide +kernel)) ?_
  refine fmS (snd_if_lt hF (off := 7) (by decide) (by decide +kernel)) ?_
  refine fmS (snd_floadn hF (k := 1) rfl (by decide +kernel)) ?_
  refine fmS (snd_goto hF (off := 4) (by decide) (by decide +kernel)) ?_
  refine fmS (snd_floadn hF (k := 2) rfl (by decide +kernel)) ?_
  refine fmS (snd_retF hM (by decide +kernel)) ?_
  refine fmS (snd_iloadn hF (k := 0) rfl (by decide +kernel)) ?_
  refine fmS (snd_sipush hF (n := 301) (by decide +kernel) (by decide +kernel)) ?_
  refine fmS (snd_icmp_ne hF (off := 9) (by decide) (by decide +kernel)) ?_
  refine fmS (snd_floadn hF (k := 1) rfl (by decide +kernel)) ?_
  refine fmS (snd_floadn hF (k := 2) rfl (by decide +kernel)) ?_
  refine fmS (snd_fmul hF (by decide +kernel)) ?_
  refine fmS (snd_goto hF (off := 19) (by decide) (by decide +kernel)) ?_
  refine fmS (snd_iloadn hF (k := 0) rfl (by decide +kernel)) ?_
  refine fmS (snd_sipush hF (n := 307) (by decide +kernel) (by decide +kernel)) ?_
  refine fmS (snd_icmp_ne hF (off := 9) (by decide) (by decide +kernel)) ?_
  refine fmS (snd_floadn hF (k := 1) rfl (by decide +kernel)) ?_
  refine fmS (snd_floadn hF (k := 2) rfl (by decide +kernel)) ?_
  refine fmS (snd_fsub hF (by decide +kernel)) ?_
  refine fmS (snd_goto hF (off := 6) (by decide) (by decide +kernel)) ?_
  refine fmS (snd_floadn hF (k := 1) rfl (by decide +kernel)) ?_
  refine fmS (snd_floadn hF (k := 2) rfl (by decide +kernel)) ?_
  refine fmS (snd_fadd hF (by decide +kernel)) ?_
  refine fmS (snd_fstoren hF (k := 3) rfl (by decide) (by decide +kernel)) ?_
  refine fmS (snd_floadn hF (k := 3) rfl (by decide +kernel)) ?_
  refine fmS (snd_ldcf hF qw685 (by decide +kernel)) ?_
  refine fmS (snd_fcmp hF (by decide +kernel)) ?_
  refine fmS (snd_if_le hF (off := 6) (by decide) (by decide +kernel)) ?_
  refine fmS (snd_ldcf hF qw685 (by decide +kernel)) ?_
  refine fmS (snd_retF hM (by decide +kernel)) ?_
  refine fmS (snd_floadn hF (k := 3) rfl (by decide +kernel)) ?_
  refine fmS (snd_ldcf hF qw686 (by decide +kernel)) ?_
  refine fmS (snd_fcmp hF (by decide +kernel)) ?_
  refine fmS (snd_if_ge hF (off := 8) (by decide) (by decide +kernel)) ?_
  refine fmS (snd_ldcf hF qw686 (by decide +kernel)) ?_
  refine fmS (snd_goto hF (off := 4) (by decide) (by decide +kernel)) ?_
  refine fmS (snd_floadn hF (k := 3) rfl (by decide +kernel)) ?_
  refine fmS (snd_retF hM (by decide +kernel)) ?_
  exact fmE
theorem iX2_calculate {d mc ms n : Nat} {av : List Value} {M : PM} {P : PO} (hw : wid av ≤ 4) (hb : ∀ J : KT, (∀ (k : Nat) (stops : Nat → Bool) (pc : Nat) (lv : LV) (st : List Value) (nn : NN) (M : PM), lk (tX2_calculate d mc ms P) pc (wpN (tX2_calculate d mc ms P) stops k J) lv st nn M → J pc lv st nn M) → J 0 (entA 0 av) [] (n, 0, 0) M) : CallOK (d + 1) mc ms yX2_calculate (Cond.code yX2_calculate cX2_calculate 4 (some .float)) av n M P := call_intro (own := RX2) (by decide) rfl hw (fun _ _ _ _ _ _ _ _ _ _ _ _ _ hM => sX2_calculate hM) hb
