def tX4_putLeaf (d mc ms : Nat) (P : PO) : List (Nat × OP) := [(0, oAld 0 1), (1, oGr 4 4 4), (4, oIld 1 5), (5, oIld 2 6), (6, oCallS d mc ms P 0 0 yX9_isStart (Cond.code yX9_isStart cX9_isStart 1 (some .boolean)) 1 9), (9, oIf (fun x => x = 0) 29 12), (12, oAld 0 13), (13, oGr 4 3 16), (16, oAld 0 17), (17, oCallV d mc ms P 0 0 yX5_rowNow (Cond.code yX5_rowNow cX5_rowNow 1 (some .int)) 0 4 20), (20, oAr 106 21), (21, oIld 2 22), (22, oPush (.int 100) 24), (24, oI2 (fun x y => x - y) 25), (25, oAi 100 26), (26, oGoto 34), (29, oAld 0 30), (30, oIld 2 31), (31, oCallV d mc ms P 0 0 yX5_constantOf (Cond.code yX5_constantOf cX5_constantOf 3 (some .int)) 1 4 34), (34, oSi 100 (fun x => x) 35), (35, oRetV mc ms P)]
set_option maxRecDepth 20000 in
theorem sX4_putLeaf {p : Program} {l : Launch} {e : Env} {s : State} {m : MethodId} {args : Array Value} {below : List Frame} {meth : Method} {c : Code} {D : va_G} {cA : Nat → ClassId} {ad0 : Nat → Nat} {n0 sz d mc ms : Nat} {P : PO} (hM : FM p l s m args meth c D cA 3 ad0 n0 sz cX4_putLeaf RX4 none [] yX4_putLeaf.name) : ∀ q ∈ tX4_putLeaf d mc ms P, Snd (jM p l e s m args below meth c D cA 3 ad0 n0 sz (d + 1) mc ms P) q.1 q.2 := by
  have hF := hM.1
  have hts := hF.2.2.2.2.1
  unfold tX4_putLeaf
  refine fmS (snd_aloadn hF (k := 0) rfl (by decide +kernel)) ?_
  refine fmS (snd_getr hF okX4 (k := 4) (by decide) qw219 rfl rfl (by decide +kernel)) ?_
  refine fmS (snd_iloadn hF (k := 1) rfl (by decide +kernel)) ?_
  refine fmS (snd_iloadn hF (k := 2) rfl (by decide +kernel)) ?_
  refine fmS (snd_callSN hM k_X9_isStart qw666 qw601 (by decide +kernel)) ?_
  refine fmS (snd_if_eq hF (off := 20) (by decide) (by decide +kernel)) ?_
  refine fmS (snd_aloadn hF (k := 0) rfl (by decide +kernel)) ?_
  refine fmS (snd_getr hF okX4 (k := 3) (by decide) qw217 rfl rfl (by decide +kernel)) ?_
  refine fmS (snd_aloadn hF (k := 0) rfl (by decide +kernel)) ?_
  refine fmS (snd_callU hM k_X5_rowNow okX4 (x := ⟨"ReductionFinder$IntMachine", "rowNow", "()I"⟩) (owner := "ReductionFinder$Machine") qw667 qw668 qw650 qw669 qw652 (by decide) rfl (by decide +kernel)) ?_
  refine fmS (snd_aaload106 hF (by decide +kernel)) ?_
  refine fmS (snd_iloadn hF (k := 2) rfl (by decide +kernel)) ?_
  refine fmS (snd_bipush hF (n := 100) (by decide +kernel) (by decide +kernel)) ?_
  refine fmS (snd_isub hF (by decide +kernel)) ?_
  refine fmS (snd_iaload hF (by decide +kernel)) ?_
  refine fmS (snd_goto hF (off := 8) (by decide) (by decide +kernel)) ?_
  refine fmS (snd_aloadn hF (k := 0) rfl (by decide +kernel)) ?_
  refine fmS (snd_iloadn hF (k := 2) rfl (by decide +kernel)) ?_
  refine fmS (snd_callU hM k_X5_constantOf okX4 (x := ⟨"ReductionFinder$IntMachine", "constantOf", "(I)I"⟩) (owner := "ReductionFinder$Machine") qw670 qw671 qw656 qw672 qw658 (by decide) rfl (by decide +kernel)) ?_
  refine fmS (snd_iastore hF (by decide +kernel)) ?_
  refine fmS (snd_retV hM (by decide +kernel)) ?_
  exact fmE
theorem iX4_putLeaf {d mc ms n : Nat} {av : List Value} {M : PM} {P : PO} (hw : wid av ≤ 3) (hb : ∀ J : KT, (∀ (k : Nat) (stops : Nat → Bool) (pc : Nat) (lv : LV) (st : List Value) (nn : NN) (M : PM), lk (tX4_putLeaf d mc ms P) pc (wpN (tX4_putLeaf d mc ms P) stops k J) lv st nn M → J pc lv st nn M) → J 0 (entA 0 av) [] (n, 0, 0) M) : CallOK (d + 1) mc ms yX4_putLeaf (Cond.code yX4_putLeaf cX4_putLeaf 3 none) av n M P := call_intro (own := RX4) (by decide) rfl hw (fun _ _ _ _ _ _ _ _ _ _ _ _ _ hM => sX4_putLeaf hM) hb
def tX4_joinPair (d mc ms : Nat) (P : PO) : List (Nat × OP) := [(0, oAld 0 1), (1, oGr 4 4 4), (4, oIld 1 5), (5, oIld 2 6), (6, oAld 0 7), (7, oGr 4 4 10), (10, oIld 1 11), (11, oPush (.int 1) 12), (12, oI2 (fun x y => x + y) 13), (13, oAi 100 14), (14, oAld 0 15), (15, oGr 4 4 18), (18, oIld 1 19), (19, oAi 100 20), (20, oCallS d mc ms P 0 0 yX4_calculate (Cond.code yX4_calculate cX4_calculate 3 (some .int)) 3 23), (23, oSi 100 (fun x => x) 24), (24, oRetV mc ms P)]
set_option maxRecDepth 20000 in
theorem sX4_joinPair {p : Program} {l : Launch} {e : Env} {s : State} {m : MethodId} {args : Array Value} {below : List Frame} {meth : Method} {c : Code} {D : va_G} {cA : Nat → ClassId} {ad0 : Nat → Nat} {n0 sz d mc ms : Nat} {P : PO} (hM : FM p l s m args meth c D cA 3 ad0 n0 sz cX4_joinPair RX4 none [] yX4_joinPair.name) : ∀ q ∈ tX4_joinPair d mc ms P, Snd (jM p l e s m args below meth c D cA 3 ad0 n0 sz (d + 1) mc ms P) q.1 q.2 := by
  have hF := hM.1
  have hts := hF.2.2.2.2.1
  unfold tX4_joinPair
  refine fmS (snd_aloadn hF (k := 0) rfl (by decide +kernel)) ?_
  refine fmS (snd_getr hF okX4 (k := 4) (by decide) qw219 rfl rfl (by decide +kernel)) ?_
  refine fmS (snd_iloadn hF (k := 1) rfl (by decide +kernel)) ?_
  refine fmS (snd_iloadn hF (k := 2) rfl (by decide +kernel)) ?_
  refine fmS (snd_aloadn hF (k := 0) rfl (by decide +kernel)) ?_
  refine fmS (snd_getr hF okX4 (k := 4) (by decide) qw219 rfl rfl (by decide +kernel)) ?_
  refine fmS (snd_iloadn hF (k := 1) rfl (by decide +kernel)) ?_
  refine fmS (snd_iconst hF (n := 1) rfl (by decide +kernel)) ?_
  refine fmS (snd_iadd hF (by decide +kernel)) ?_
  refine fmS (snd_iaload hF (by decide +kernel)) ?_
  refine fmS (snd_aloadn hF (k := 0) rfl (by decide +kernel)) ?_
  refine fmS (snd_getr hF okX4 (k := 4) (by decide) qw219 rfl rfl (by decide +kernel)) ?_
  refine fmS (snd_iloadn hF (k := 1) rfl (by decide +kernel)) ?_
  refine fmS (snd_iaload hF (by decide +kernel)) ?_
  refine fmS (snd_callS hM k_X4_calculate qw696 qw697 (by decide +kernel)) ?_
  refine fmS (snd_iastore hF (by decide +kernel)) ?_
  refine fmS (snd_retV hM (by decide +kernel)) ?_
  exact fmE
theorem iX4_joinPair {d mc ms n : Nat} {av : List Value} {M : PM} {P : PO} (hw : wid av ≤ 3) (hb : ∀ J : KT, (∀ (k : Nat) (stops : Nat → Bool) (pc : Nat) (lv : LV) (st : List Value) (nn : NN) (M : PM), lk (tX4_joinPair d mc ms P) pc (wpN (tX4_joinPair d mc ms P) stops k J) lv st nn M → J pc lv st nn M) → J 0 (entA 0 av) [] (n, 0, 0) M) : CallOK (d + 1) mc ms yX4_joinPair (Cond.code yX4_joinPair cX4_joinPair 3 none) av n M P := call_intro (own := RX4) (by decide) rfl hw (fun _ _ _ _ _ _ _ _ _ _ _ _ _ hM => sX4_joinPair hM) hb
def tX4_joinChoice (d mc ms : Nat) (P : PO) : List (Nat × OP) := [(0, oAld 0 1), (1, oGr 4 4 4), (4, oIld 1 5), (5, oAld 0 6), (6, oGr 4 4 9), (9, oIld 1 10), (10, oPush (.int 2) 11), (11, oI2 (fun x y => x + y) 12), (12, oAi 100 13), (13, oIf (fun x => x ≤ 0) 27 16), (16, oAld 0 17), (17, oGr 4 4 20), (20, oIld 1 21), (21, oPush (.int 1) 22), (22, oI2 (fun x y => x + y) 23), (23, oAi 100 24), (24, oGoto 33), (27, oAld 0 28), (28, oGr 4 4 31), (31, oIld 1 32), (32, oAi 100 33), (33, oSi 100 (fun x => x) 34), (34, oRetV mc ms P)]
set_option maxRecDepth 20000 in
theorem sX4_joinChoice {p : Program} {l : Launch} {e : Env} {s : State} {m : MethodId} {args : Array Value} {below : List Frame} {meth : Method} {c : Code} {D : va_G} {cA : Nat → ClassId} {ad0 : Nat → Nat} {n0 sz d mc ms : Nat} {P : PO} (hM : FM p l s m args meth c D cA 2 ad0 n0 sz cX4_joinChoice RX4 none [] yX4_joinChoice.name) : ∀ q ∈ tX4_joinChoice d mc ms P, Snd (jM p l e s m args below meth c D cA 2 ad0 n0 sz (d + 1) mc ms P) q.1 q.2 := by
  have hF := hM.1
  have hts := hF.2.2.2.2.1
  unfold tX4_joinChoice
  refine fmS (snd_aloadn hF (k := 0) rfl (by decide +kernel)) ?_
  refine fmS (snd_getr hF okX4 (k := 4) (by decide) qw219 rfl rfl (by decide +kernel)) ?_
  refine fmS (snd_iloadn hF (k := 1) rfl (by decide +kernel)) ?_
  refine fmS (snd_aloadn hF (k := 0) rfl (by decide +kernel)) ?_
  refine fmS (snd_getr hF okX4 (k := 4) (by decide) qw219 rfl rfl (by decide +kernel)) ?_
  refine fmS (snd_iloadn hF (k := 1) rfl (by decide +kernel)) ?_
  refine fmS (snd_iconst hF (n := 2) rfl (by decide +kernel)) ?_
  refine fmS (snd_iadd hF (by decide +kernel)) ?_
  refine fmS (snd_iaload hF (by decide +kernel)) ?_
  refine fmS (snd_if_le hF (off := 14) (by decide) (by decide +kernel)) ?_
  refine fmS (snd_aloadn hF (k := 0) rfl (by decide +kernel)) ?_
  refine fmS (snd_getr hF okX4 (k := 4) (by decide) qw219 rfl rfl (by decide +kernel)) ?_
  refine fmS (snd_iloadn hF (k := 1) rfl (by decide +kernel)) ?_
  refine fmS (snd_iconst hF (n := 1) rfl (by decide +kernel)) ?_
  refine fmS (snd_iadd hF (by decide +kernel)) ?_
  refine fmS (snd_iaload hF (by decide +kernel)) ?_
  refine fmS (snd_goto hF (off := 9) (by decide) (by decide +kernel)) ?_
  refine fmS (snd_aloadn hF (k := 0) rfl (by decide +kernel)) ?_
  refine fmS (snd_getr hF okX4 (k := 4) (by decide) qw219 rfl rfl (by decide +kernel)) ?_
  refine fmS (snd_iloadn hF (k := 1) rfl (by decide +kernel)) ?_
  refine fmS (snd_iaload hF (by decide +kernel)) ?_
  refine fmS (snd_iastore hF (by decide +kernel)) ?_
  refine fmS (snd_retV hM (by decide +kernel)) ?_
  exact fmE
theorem iX4_joinChoice {d mc ms n : Nat} {av : List Value} {M : PM} {P : PO} (hw : wid av ≤ 2) (hb : ∀ J : KT, (∀ (k : Nat) (stops : Nat → Bool) (pc : Nat) (lv : LV) (st : List Value) (nn : NN) (M : PM), lk (tX4_joinChoice d mc ms P) pc (wpN (tX4_joinChoice d mc ms P) stops k J) lv st nn M → J pc lv st nn M) → J 0 (entA 0 av) [] (n, 0, 0) M) : CallOK (d + 1) mc ms yX4_joinChoice (Cond.code yX4_joinChoice cX4_joinChoice 2 none) av n M P := call_intro (own := RX4) (by decide) rfl hw (fun _ _ _ _ _ _ _ _ _ _ _ _ _ hM => sX4_joinChoice hM) hb
def tX4_setInitialValue (d mc ms : Nat) (P : PO) : List (Nat × OP) := [(0, oAld 0 1), (1, oGr 4 3 4), (4, oIld 1 5), (5, oAr 106 6), (6, oIld 2 7), (7, oIld 3 8), (8, oSi 100 (fun x => x) 9), (9, oRetV mc ms P)]
set_option maxRecDepth 20000 in
theorem sX4_setInitialValue {p : Program} {l : Launch} {e : Env} {s : State} {m : MethodId} {args : Array Value} {below : List Frame} {meth : Method} {c : Code} {D : va_G} {cA : Nat → ClassId} {ad0 : Nat → Nat} {n0 sz d mc ms : Nat} {P : PO} (hM : FM p l s m args meth c D cA 4 ad0 n0 sz cX4_setInitialValue RX4 none [] yX4_setInitialValue.name) : ∀ q ∈ tX4_setInitialValue d mc ms P, Snd (jM p l e s m args below meth c D cA 4 ad0 n0 sz (d + 1) mc ms P) q.1 q.2 := by
  have hF := hM.1
  have hts := hF.2.2.2.2.1
  unfold tX4_setInitialValue
  refine fmS (snd_aloadn hF (k := 0) rfl (by decide +kernel)) ?_
  refine fmS (snd_getr hF okX4 (k := 3) (by decide) qw217 rfl rfl (by decide +kernel)) ?_
  refine fmS (snd_iloadn hF (k := 1) rfl (by decide +kernel)) ?_
  refine fmS (snd_aaload106 hF (by decide +kernel)) ?_
  refine fmS (snd_iloadn hF (k := 2) rfl (by decide +kernel)) ?_
  refine fmS (snd_iloadn hF (k := 3) rfl (by decide +kernel)) ?_
  refine fmS (snd_iastore hF (by decide +kernel)) ?_
  refine fmS (snd_retV hM (by decide +kernel)) ?_
  exact fmE
theorem iX4_setInitialValue {d mc ms n : Nat} {av : List Value} {M : PM} {P : PO} (hw : wid av ≤ 4) (hb : ∀ J : KT, (∀ (k : Nat) (stops : Nat → Bool) (pc : Nat) (lv : LV) (st : List Value) (nn : NN) (M : PM), lk (tX4_setInitialValue d mc ms P) pc (wpN (tX4_setInitialValue d mc ms P) stops k J) lv st nn M → J pc lv st nn M) → J 0 (entA 0 av) [] (n, 0, 0) M) : CallOK (d + 1) mc ms yX4_setInitialValue (Cond.code yX4_setInitialValue cX4_setInitialValue 4 none) av n M P := call_intro (own := RX4) (by decide) rfl hw (fun _ _ _ _ _ _ _ _ _ _ _ _ _ hM => sX4_setInitialValue hM) hb
def tX4_setNeutral (d mc ms : Nat) (P : PO) : List (Nat × OP) := [(0, oAld 0 1), (1, oGr 4 3 4), (4, oIld 1 5), (5, oAr 106 6), (6, oIld 2 7), (7, oIld 3 8), (8, oCallS d mc ms P 0 0 yX4_neutralOf (Cond.code yX4_neutralOf cX4_neutralOf 1 (some .int)) 1 11), (11, oSi 100 (fun x => x) 12), (12, oRetV mc ms P)]
set_option maxRecDepth 20000 in
theorem sX4_setNeutral {p : Program} {l : Launch} {e : Env} {s : State} {m : MethodId} {args : Array Value} {below : List Frame} {meth : Method} {c : Code} {D : va_G} {cA : Nat → ClassId} {ad0 : Nat → Nat} {n0 sz d mc ms : Nat} {P : PO} (hM : FM p l s m args meth c D cA 4 ad0 n0 sz cX4_setNeutral RX4 none [] yX4_setNeutral.name) : ∀ q ∈ tX4_setNeutral d mc ms P, Snd (jM p l e s m args below meth c D cA 4 ad0 n0 sz (d + 1) mc ms P) q.1 q.2 := by
  have hF := hM.1
  have hts := hF.2.2.2.2.1
  unfold tX4_setNeutral
  refine fmS (snd_aloadn hF (k := 0) rfl (by decide +kernel)) ?_
  refine fmS (snd_getr hF okX4 (k := 3) (by decide) qw217 rfl rfl (by decide +kernel)) ?_
  refine fmS (snd_iloadn hF (k := 1) rfl (by decide +kernel)) ?_
  refine fmS (snd_aaload106 hF (by decide +kernel)) ?_
  refine fmS (snd_iloadn hF (k := 2) rfl (by decide +kernel)) ?_
  refine fmS (snd_iloadn hF (k := 3) rfl (by decide +kernel)) ?_
  refine fmS (snd_callS hM k_X4_neutralOf qw993 qw994 (by decide +kernel)) ?_
  refine fmS (snd_iastore hF (by decide +kernel)) ?_
  refine fmS (snd_retV hM (by decide +kernel)) ?_
  exact fmE
theorem iX4_setNeutral {d mc ms n : Nat} {av : List Value} {M : PM} {P : PO} (hw : wid av ≤ 4) (hb : ∀ J : KT, (∀ (k : Nat) (stops : Nat → Bool) (pc : Nat) (lv : LV) (st : List Value) (nn : NN) (M : PM), lk (tX4_setNeutral d mc ms P) pc (wpN (tX4_setNeutral d mc ms P) stops k J) lv st nn M → J pc lv st nn M) → J 0 (entA 0 av) [] (n, 0, 0) M) : CallOK (d + 1) mc ms yX4_setNeutral (Cond.code yX4_setNeutral cX4_setNeutral 4 none) av n M P := call_intro (own := RX4) (by decide) rfl hw (fun _ _ _ _ _ _ _ _ _ _ _ _ _ hM => sX4_setNeutral hM) hb
def tX4_combine (d mc ms : Nat) (P : PO) : List (Nat × OP) := [(0, oAld 0 1), (1, oGr 4 3 4), (4, oIld 1 5), (5, oAr 106 6), (6, oIld 3 7), (7, oIld 4 9), (9, oAld 0 10), (10, oGr 4 3 13), (13, oIld 1 14), (14, oAr 106 15), (15, oIld 3 16), (16, oAi 100 17), (17, oAld 0 18), (18, oGr 4 3 21), (21, oIld 2 22), (22, oAr 106 23), (23, oIld 3 24), (24, oAi 100 25), (25, oCallS d mc ms P 0 0 yX4_calculate (Cond.code yX4_calculate cX4_calculate 3 (some .int)) 3 28), (28, oSi 100 (fun x => x) 29), (29, oRetV mc ms P)]
set_option maxRecDepth 20000 in
theorem sX4_combine {p : Program} {l : Launch} {e : Env} {s : State} {m : MethodId} {args : Array Value} {below : List Frame} {meth : Method} {c : Code} {D : va_G} {cA : Nat → ClassId} {ad0 : Nat → Nat} {n0 sz d mc ms : Nat} {P : PO} (hM : FM p l s m args meth c D cA 5 ad0 n0 sz cX4_combine RX4 none [] yX4_combine.name) : ∀ q ∈ tX4_combine d mc ms P, Snd (jM p l e s m args below meth c D cA 5 ad0 n0 sz (d + 1) mc ms P) q.1 q.2 := by
  have hF := hM.1
  have hts := hF.2.2.2.2.1
  unfold tX4_combine
  refine fmS (snd_aloadn hF (k := 0) rfl (by decide +kernel)) ?_
  refine fmS (snd_getr hF okX4 (k := 3) (by decide) qw217 rfl rfl (by decide +kernel)) ?_
  refine fmS (snd_iloadn hF (k := 1) rfl (by decide +kernel)) ?_
  refine fmS (snd_aaload106 hF (by decide +kernel)) ?_
  refine fmS (snd_iloadn hF (k := 3) rfl (by decide +kernel)) ?_
  refine fmS (snd_iload hF (by decide +kernel)) ?_
  refine fmS (snd_aloadn hF (k := 0) rfl (by decide +kernel)) ?_
  refine fmS (snd_getr hF okX4 (k := 3) (by decide) qw217 rfl rfl (by decide +kernel)) ?_
  refine fmS (snd_iloadn hF (k := 1) rfl (by decide +kernel)) ?_
  refine fmS (snd_aaload106 hF (by decide +kernel)) ?_
  refine fmS (snd_iloadn hF (k := 3) rfl (by decide +kernel)) ?_
  refine fmS (snd_iaload hF (by decide +kernel)) ?_
  refine fmS (snd_aloadn hF (k := 0) rfl (by decide +kernel)) ?_
  refine fmS (snd_getr hF okX4 (k := 3) (by decide) qw217 rfl rfl (by decide +kernel)) ?_
  refine fmS (snd_iloadn hF (k := 2) rfl (by decide +kernel)) ?_
  refine fmS (snd_aaload106 hF (by decide +kernel)) ?_
  refine fmS (snd_iloadn hF (k := 3) rfl (by decide +kernel)) ?_
  refine fmS (snd_iaload hF (by decide +kernel)) ?_
  refine fmS (snd_callS hM k_X4_calculate qw696 qw697 (by decide +kernel)) ?_
  refine fmS (snd_iastore hF (by decide +kernel)) ?_
  refine fmS (snd_retV hM (by decide +kernel)) ?_
  exact fmE
theorem iX4_combine {d mc ms n : Nat} {av : List Value} {M : PM} {P : PO} (hw : wid av ≤ 5) (hb : ∀ J : KT, (∀ (k : Nat) (stops : Nat → Bool) (pc : Nat) (lv : LV) (st : List Value) (nn : NN) (M : PM), lk (tX4_combine d mc ms P) pc (wpN (tX4_combine d mc ms P) stops k J) lv st nn M → J pc lv st nn M) → J 0 (entA 0 av) [] (n, 0, 0) M) : CallOK (d + 1) mc ms yX4_combine (Cond.code yX4_combine cX4_combine 5 none) av n M P := call_intro (own := RX4) (by decide) rfl hw (fun _ _ _ _ _ _ _ _ _ _ _ _ _ hM => sX4_combine hM) hb
def tX4_copyValue (d mc ms : Nat) (P : PO) : List (Nat × OP) := [(0, oAld 0 1), (1, oGr 4 3 4), (4, oIld 1 5), (5, oAr 106 6), (6, oIld 3 7), (7, oAld 0 8), (8, oGr 4 3 11), (11, oIld 2 12), (12, oAr 106 13), (13, oIld 3 14), (14, oAi 100 15), (15, oSi 100 (fun x => x) 16), (16, oRetV mc ms P)]
set_option maxRecDepth 20000 in
theorem sX4_copyValue {p : Program} {l : Launch} {e : Env} {s : State} {m : MethodId} {args : Array Value} {below : List Frame} {meth : Method} {c : Code} {D : va_G} {cA : Nat → ClassId} {ad0 : Nat → Nat} {n0 sz d mc ms : Nat} {P : PO} (hM : FM p l s m args meth c D cA 4 ad0 n0 sz cX4_copyValue RX4 none [] yX4_copyValue.name) : ∀ q ∈ tX4_copyValue d mc ms P, Snd (jM p l e s m args below meth c D cA 4 ad0 n0 sz (d + 1) mc ms P) q.1 q.2 := by
  have hF := hM.1
  have hts := hF.2.2.2.2.1
  unfold tX4_copyValue
  refine fmS (snd_aloadn hF (k := 0) rfl (by decide +kernel)) ?_
  refine fmS (snd_getr hF okX4 (k := 3) (by decide) qw217 rfl rfl (by decide +kernel)) ?_
  refine fmS (snd_iloadn hF (k := 1) rfl (by decide +kernel)) ?_
  refine fmS (snd_aaload106 hF (by decide +kernel)) ?_
  refine fmS (snd_iloadn hF (k := 3) rfl (by decide +kernel)) ?_
  refine fmS (snd_aloadn hF (k := 0) rfl (by decide +kernel)) ?_
  refine fmS (snd_getr hF okX4 (k := 3) (by decide) qw217 rfl rfl (by decide +kernel)) ?_
  refine fmS (snd_iloadn hF (k := 2) rfl (by decide +kernel)) ?_
  refine fmS (snd_aaload106 hF (by decide +kernel)) ?_
  refine fmS (snd_iloadn hF (k := 3) rfl (by decide +kernel)) ?_
  refine fmS (snd_iaload hF (by decide +kernel)) ?_
  refine fmS (snd_iastore hF (by decide +kernel)) ?_
  refine fmS (snd_retV hM (by decide +kernel)) ?_
  exact fmE
theorem iX4_copyValue {d mc ms n : Nat} {av : List Value} {M : PM} {P : PO} (hw : wid av ≤ 4) (hb : ∀ J : KT, (∀ (k : Nat) (stops : Nat → Bool) (pc : Nat) (lv : LV) (st : List Value) (nn : NN) (M : PM), lk (tX4_copyValue d mc ms P) pc (wpN (tX4_copyValue d mc ms P) stops k J) lv st nn M → J pc lv st nn M) → J 0 (entA 0 av) [] (n, 0, 0) M) : CallOK (d + 1) mc ms yX4_copyValue (Cond.code yX4_copyValue cX4_copyValue 4 none) av n M P := call_intro (own := RX4) (by decide) rfl hw (fun _ _ _ _ _ _ _ _ _ _ _ _ _ hM => sX4_copyValue hM) hb
def tX4_storeValue (d mc ms : Nat) (P : PO) : List (Nat × OP) := [(0, oAld 0 1), (1, oGr 4 3 4), (4, oIld 1 5), (5, oAr 106 6), (6, oIld 2 7), (7, oAld 0 8), (8, oGr 4 4 11), (11, oPush (.int 0) 12), (12, oAi 100 13), (13, oSi 100 (fun x => x) 14), (14, oRetV mc ms P)]
set_option maxRecDepth 20000 in
theorem sX4_storeValue {p : Program} {l : Launch} {e : Env} {s : State} {m : MethodId} {args : Array Value} {below : List Frame} {meth : Method} {c : Code} {D : va_G} {cA : Nat → ClassId} {ad0 : Nat → Nat} {n0 sz d mc ms : Nat} {P : PO} (hM : FM p l s m args meth c D cA 3 ad0 n0 sz cX4_storeValue RX4 none [] yX4_storeValue.name) : ∀ q ∈ tX4_storeValue d mc ms P, Snd (jM p l e s m args below meth c D cA 3 ad0 n0 sz (d + 1) mc ms P) q.1 q.2 := by
  have hF := hM.1
  have hts := hF.2.2.2.2.1
  unfold tX4_storeValue
  refine fmS (snd_aloadn hF (k := 0) rfl (by decide +kernel)) ?_
  refine fmS (snd_getr hF okX4 (k := 3) (by decide) qw217 rfl rfl (by decide +kernel)) ?_
  refine fmS (snd_iloadn hF (k := 1) rfl (by decide +kernel)) ?_
  refine fmS (snd_aaload106 hF (by decide +kernel)) ?_
  refine fmS (snd_iloadn hF (k := 2) rfl (by decide +kernel)) ?_
  refine fmS (snd_aloadn hF (k := 0) rfl (by decide +kernel)) ?_
  refine fmS (snd_getr hF okX4 (k := 4) (by decide) qw219 rfl rfl (by decide +kernel)) ?_
  refine fmS (snd_iconst hF (n := 0) rfl (by decide +kernel)) ?_
  refine fmS (snd_iaload hF (by decide +kernel)) ?_
  refine fmS (snd_iastore hF (by decide +kernel)) ?_
  refine fmS (snd_retV hM (by decide +kernel)) ?_
  exact fmE
theorem iX4_storeValue {d mc ms n : Nat} {av : List Value} {M : PM} {P : PO} (hw : wid av ≤ 3) (hb : ∀ J : KT, (∀ (k : Nat) (stops : Nat → Bool) (pc : Nat) (lv : LV) (st : List Value) (nn : NN) (M : PM), lk (tX4_storeValue d mc ms P) pc (wpN (tX4_storeValue d mc ms P) stops k J) lv st nn M → J pc lv st nn M) → J 0 (entA 0 av) [] (n, 0, 0) M) : CallOK (d + 1) mc ms yX4_storeValue (Cond.code yX4_storeValue cX4_storeValue 3 none) av n M P := call_intro (own := RX4) (by decide) rfl hw (fun _ _ _ _ _ _ _ _ _ _ _ _ _ hM => sX4_storeValue hM) hb
def tX4_valueOf (d mc ms : Nat) (P : PO) : List (Nat × OP) := [(0, oAld 0 1), (1, oGr 4 3 4), (4, oIld 1 5), (5, oAr 106 6), (6, oIld 2 7), (7, oAi 100 8), (8, oIcv (fun x => .double (FP.i2d x)) 9), (9, oRetD mc ms P)]
set_option maxRecDepth 20000 in
theorem sX4_valueOf {p : Program} {l : Launch} {e : Env} {s : State} {m : MethodId} {args : Array Value} {below : List Frame} {meth : Method} {c : Code} {D : va_G} {cA : Nat → ClassId} {ad0 : Nat → Nat} {n0 sz d mc ms : Nat} {P : PO} (hM : FM p l s m args meth c D cA 3 ad0 n0 sz cX4_valueOf RX4 (some .double) [] yX4_valueOf.name) : ∀ q ∈ tX4_valueOf d mc ms P, Snd (jM p l e s m args below meth c D cA 3 ad0 n0 sz (d + 1) mc ms P) q.1 q.2 := by
  have hF := hM.1
  have hts := hF.2.2.2.2.1
  unfold tX4_valueOf
  refine fmS (snd_aloadn hF (k := 0) rfl (by decide +kernel)) ?_
  refine fmS (snd_getr hF okX4 (k := 3) (by decide) qw217 rfl rfl (by decide +kernel)) ?_
  refine fmS (snd_iloadn hF (k := 1) rfl (by decide +kernel)) ?_
  refine fmS (snd_aaload106 hF (by decide +kernel)) ?_
  refine fmS (snd_iloadn hF (k := 2) rfl (by decide +kernel)) ?_
  refine fmS (snd_iaload hF (by decide +kernel)) ?_
  refine fmS (snd_i2d hF (by decide +kernel)) ?_
  refine fmS (snd_retD hM (by decide +kernel)) ?_
  exact fmE
theorem iX4_valueOf {d mc ms n : Nat} {av : List Value} {M : PM} {P : PO} (hw : wid av ≤ 3) (hb : ∀ J : KT, (∀ (k : Nat) (stops : Nat → Bool) (pc : Nat) (lv : LV) (st : List Value) (nn : NN) (M : PM), lk (tX4_valueOf d mc ms P) pc (wpN (tX4_valueOf d mc ms P) stops k J) lv st nn M → J pc lv st nn M) → J 0 (entA 0 av) [] (n, 0, 0) M) : CallOK (d + 1) mc ms yX4_valueOf (Cond.code yX4_valueOf cX4_valueOf 3 (some .double)) av n M P := call_intro (own := RX4) (by decide) rfl hw (fun _ _ _ _ _ _ _ _ _ _ _ _ _ hM => sX4_valueOf hM) hb
def tX4_neutralOf (d mc ms : Nat) (P : PO) : List (Nat × OP) := [(0, oIld 0 1), (1, oSw [(301, 40), (302, 42), (303, 50), (304, 50), (305, 44), (306, 47)] 50), (40, oPush (.int 1) 41), (41, oRetI mc ms P), (42, oPush (.int (-1)) 43), (43, oRetI mc ms P), (44, oPush (.int 2147483647) 46), (46, oRetI mc ms P), (47, oPush (.int (-2147483648)) 49), (49, oRetI mc ms P), (50, oPush (.int 0) 51), (51, oRetI mc ms P)]
set_option maxRecDepth 20000 in
theorem sX4_neutralOf {p : Program} {l : Launch} {e : Env} {s : State} {m : MethodId} {args : Array Value} {below : List Frame} {meth : Method} {c : Code} {D : va_G} {cA : Nat → ClassId} {ad0 : Nat → Nat} {n0 sz d mc ms : Nat} {P : PO} (hM : FM p l s m args meth c D cA 1 ad0 n0 sz cX4_neutralOf RX4 (some .int) [] yX4_neutralOf.name) : ∀ q ∈ tX4_neutralOf d mc ms P, Snd (jM p l e s m args below meth c D cA 1 ad0 n0 sz (d + 1) mc ms P) q.1 q.2 := by
  have hF := hM.1
  have hts := hF.2.2.2.2.1
  unfold tX4_neutralOf
  refine fmS (snd_iloadn hF (k := 0) rfl (by decide +kernel)) ?_
  refine fmS (snd_tsw hF (lo := 301) (hi := 306) (dflt := 49) (offs := #[39, 41, 49, 49, 43, 46]) (len := 39) (by decide +kernel) (by decide +kernel)) ?_
  refine fmS (snd_iconst hF (n := 1) rfl (by decide +kernel)) ?_
  refine fmS (snd_retI hM (by decide +kernel)) ?_
  refine fmS (snd_iconst hF (n := (-1)) rfl (by decide +kernel)) ?_
  refine fmS (snd_retI hM (by decide +kernel)) ?_
  refine fmS (snd_ldc hF qw996 (by decide +kernel)) ?_
  refine fmS (snd_retI hM (by decide +kernel)) ?_
  refine fmS (snd_ldc hF qw997 (by decide +kernel)) ?_
  refine fmS (snd_retI hM (by decide +kernel)) ?_
  refine fmS (snd_iconst hF (n := 0) rfl (by decide +kernel)) ?_
  refine fmS (snd_retI hM (by decide +kernel)) ?_
  exact fmE
theorem iX4_neutralOf {d mc ms n : Nat} {av : List Value} {M : PM} {P : PO} (hw : wid av ≤ 1) (hb : ∀ J : KT, (∀ (k : Nat) (stops : Nat → Bool) (pc : Nat) (lv : LV) (st : List Value) (nn : NN) (M : PM), lk (tX4_neutralOf d mc ms P) pc (wpN (tX4_neutralOf d mc ms P) stops k J) lv st nn M → J pc lv st nn M) → J 0 (entA 0 av) [] (n, 0, 0) M) : CallOK (d + 1) mc ms yX4_neutralOf (Cond.code yX4_neutralOf cX4_neutralOf 1 (some .int)) av n M P := call_intro (own := RX4) (by decide) rfl hw (fun _ _ _ _ _ _ _ _ _ _ _ _ _ hM => sX4_neutralOf hM) hb
def tX4_calculate (d mc ms : Nat) (P : PO) : List (Nat × OP) := [(0, oIld 0 1), (1, oSw [(300, 48), (301, 56), (302, 60), (303, 64), (304, 68), (305, 72), (306, 78), (307, 52)] 78), (48, oIld 1 49), (49, oIld 2 50), (50, oI2 (fun x y => x + y) 51), (51, oRetI mc ms P), (52, oIld 1 53), (53, oIld 2 54), (54, oI2 (fun x y => x - y) 55), (55, oRetI mc ms P), (56, oIld 1 57), (57, oIld 2 58), (58, oI2 (fun x y => x * y) 59), (59, oRetI mc ms P), (60, oIld 1 61), (61, oIld 2 62), (62, oI2 (fun x y => x &&& y) 63), (63, oRetI mc ms P), (64, oIld 1 65), (65, oIld 2 66), (66, oI2 (fun x y => x ||| y) 67), (67, oRetI mc ms P), (68, oIld 1 69), (69, oIld 2 70), (70, oI2 (fun x y => x ^^^ y) 71), (71, oRetI mc ms P), (72, oIld 1 73), (73, oIld 2 74), (74, oMm (fun x y => if y < x then y else x) mc ms 77), (77, oRetI mc ms P), (78, oIld 1 79), (79, oIld 2 80), (80, oMm (fun x y => if x < y then y else x) mc ms 83), (83, oRetI mc ms P)]
set_option maxRecDepth 20000 in
theorem sX4_calculate {p : Program} {l : Launch} {e : Env} {s : State} {m : MethodId} {args : Array Value} {below : List Frame} {meth : Method} {c : Code} {D : va_G} {cA : Nat → ClassId} {ad0 : Nat → Nat} {n0 sz d mc ms : Nat} {P : PO} (hM : FM p l s m args meth c D cA 3 ad0 n0 sz cX4_calculate RX4 (some .int) [] yX4_calculate.name) : ∀ q ∈ tX4_calculate d mc ms P, Snd (jM p l e s m args below meth c D cA 3 ad0 n0 sz (d + 1) mc ms P) q.1 q.2 := by
  have hF := hM.1
  have hts := hF.2.2.2.2.1
  unfold tX4_calculate
  refine fmS (snd_iloadn hF (k := 0) rfl (by decide +kernel)) ?_
  refine fmS (snd_tsw hF (lo := 300) (hi := 307) (dflt := 77) (offs := #[47, 55, 59, 63, 67, 71, 77, 51]) (len := 47) (by decide +kernel) (by decide +kernel)) ?_
  refine fmS (snd_iloadn hF (k := 1) rfl (by decide +kernel)) ?_
  refine fmS (snd_iloadn hF (k := 2) rfl (by decide +kernel)) ?_
  refine fmS (snd_iadd hF (by decide +kernel)) ?_
  refine fmS (snd_retI hM (by decide +kernel)) ?_
  refine fmS (snd_iloadn hF (k := 1) rfl (by decide +kernel)) ?_
  refine fmS (snd_iloadn hF (k := 2) rfl (by decide +kernel)) ?_
  refine fmS (snd_isub hF (by decide +kernel)) ?_
  refine fmS (snd_retI hM (by decide +kernel)) ?_
  refine fmS (snd_iloadn hF (k := 1) rfl (by decide +kernel)) ?_
  refine fmS (snd_iloadn hF (k := 2) rfl (by decide +kernel)) ?_
  refine fmS (snd_imul hF (by decide +kernel)) ?_
  refine fmS (snd_retI hM (by decide +kernel)) ?_
  refine fmS (snd_iloadn hF (k := 1) rfl (by decide +kernel)) ?_
  refine fmS (snd_iloadn hF (k := 2) rfl (by decide +kernel)) ?_
  refine fmS (snd_iand hF (by decide +kernel)) ?_
  refine fmS (snd_retI hM (by decide +kernel)) ?_
  refine fmS (snd_iloadn hF (k := 1) rfl (by decide +kernel)) ?_
  refine fmS (snd_iloadn hF (k := 2) rfl (by decide +kernel)) ?_
  refine fmS (snd_ior hF (by decide +kernel)) ?_
  refine fmS (snd_retI hM (by decide +kernel)) ?_
  refine fmS (snd_iloadn hF (k := 1) rfl (by decide +kernel)) ?_
  refine fmS (snd_iloadn hF (k := 2) rfl (by decide +kernel)) ?_
  refine fmS (snd_ixor hF (by decide +kernel)) ?_
  refine fmS (snd_retI hM (by decide +kernel)) ?_
  refine fmS (snd_iloadn hF (k := 1) rfl (by decide +kernel)) ?_
  refine fmS (snd_iloadn hF (k := 2) rfl (by decide +kernel)) ?_
  refine fmS (snd_mmin hM qw699 qw635 qw93 qw636 (by decide +kernel)) ?_
  refine fmS (snd_retI hM (by decide +kernel)) ?_
  refine fmS (snd_iloadn hF (k := 1) rfl (by decide +kernel)) ?_
  refine fmS (snd_iloadn hF (k := 2) rfl (by decide +kernel)) ?_
  refine fmS (snd_mmax hM qw700 qw691 qw93 qw692 (by decide +kernel)) ?_
  refine fmS (snd_retI hM (by decide +kernel)) ?_
  exact fmE
theorem iX4_calculate {d mc ms n : Nat} {av : List Value} {M : PM} {P : PO} (hw : wid av ≤ 3) (hb : ∀ J : KT, (∀ (k : Nat) (stops : Nat → Bool) (pc : Nat) (lv : LV) (st : List Value) (nn : NN) (M : PM), lk (tX4_calculate d mc ms P) pc (wpN (tX4_calculate d mc ms P) stops k J) lv st nn M → J pc lv st nn M) → J 0 (entA 0 av) [] (n, 0, 0) M) : CallOK (d + 1) mc ms yX4_calculate (Cond.code yX4_calculate cX4_calculate 3 (some .int)) av n M P := call_intro (own := RX4) (by decide) rfl hw (fun _ _ _ _ _ _ _ _ _ _ _ _ _ hM => sX4_calculate hM) hb
