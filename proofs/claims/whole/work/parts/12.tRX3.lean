def tX3_heightOf (d mc ms : Nat) (P : PO) : List (Nat × OP) := [(0, oAld 0 1), (1, oAld 1 2), (2, oPush (.int 0) 3), (3, oIld 2 4), (4, oCallV d mc ms P 0 0 yX8_walk (Cond.code yX8_walk cX8_walk 9 none) 3 3 7), (7, oAld 0 8), (8, oGr 3 0 11), (11, oPush (.int 0) 12), (12, oAi 100 13), (13, oRetI mc ms P)]
set_option maxRecDepth 20000 in
theorem sX3_heightOf {p : Program} {l : Launch} {e : Env} {s : State} {m : MethodId} {args : Array Value} {below : List Frame} {meth : Method} {c : Code} {D : va_G} {cA : Nat → ClassId} {ad0 : Nat → Nat} {n0 sz d mc ms : Nat} {P : PO} (hM : FM p l s m args meth c D cA 3 ad0 n0 sz cX3_heightOf RX3 (some .int) [] yX3_heightOf.name) : ∀ q ∈ tX3_heightOf d mc ms P, Snd (jM p l e s m args below meth c D cA 3 ad0 n0 sz (d + 1) mc ms P) q.1 q.2 := by
  have hF := hM.1
  have hts := hF.2.2.2.2.1
  unfold tX3_heightOf
  refine fmS (snd_aloadn hF (k := 0) rfl (by decide +kernel)) ?_
  refine fmS (snd_aloadn hF (k := 1) rfl (by decide +kernel)) ?_
  refine fmS (snd_iconst hF (n := 0) rfl (by decide +kernel)) ?_
  refine fmS (snd_iloadn hF (k := 2) rfl (by decide +kernel)) ?_
  refine fmS (snd_callU hM k_X8_walk okX3 (x := ⟨"ReductionFinder$HeightWalk", "walk", "([III)V"⟩) (owner := "ReductionFinder$Walk") qw858 qw859 qw630 qw860 qw632 (by decide) rfl (by decide +kernel)) ?_
  refine fmS (snd_aloadn hF (k := 0) rfl (by decide +kernel)) ?_
  refine fmS (snd_getr hF okX3 (k := 0) (by decide) qw157 rfl rfl (by decide +kernel)) ?_
  refine fmS (snd_iconst hF (n := 0) rfl (by decide +kernel)) ?_
  refine fmS (snd_iaload hF (by decide +kernel)) ?_
  refine fmS (snd_retI hM (by decide +kernel)) ?_
  exact fmE
theorem iX3_heightOf {d mc ms n : Nat} {av : List Value} {M : PM} {P : PO} (hw : wid av ≤ 3) (hb : ∀ J : KT, (∀ (k : Nat) (stops : Nat → Bool) (pc : Nat) (lv : LV) (st : List Value) (nn : NN) (M : PM), lk (tX3_heightOf d mc ms P) pc (wpN (tX3_heightOf d mc ms P) stops k J) lv st nn M → J pc lv st nn M) → J 0 (entA 0 av) [] (n, 0, 0) M) : CallOK (d + 1) mc ms yX3_heightOf (Cond.code yX3_heightOf cX3_heightOf 3 (some .int)) av n M P := call_intro (own := RX3) (by decide) rfl hw (fun _ _ _ _ _ _ _ _ _ _ _ _ _ hM => sX3_heightOf hM) hb
def tX3_putLeaf (d mc ms : Nat) (P : PO) : List (Nat × OP) := [(0, oAld 0 1), (1, oGr 3 0 4), (4, oIld 1 5), (5, oPush (.int 1) 6), (6, oSi 100 (fun x => x) 7), (7, oRetV mc ms P)]
set_option maxRecDepth 20000 in
theorem sX3_putLeaf {p : Program} {l : Launch} {e : Env} {s : State} {m : MethodId} {args : Array Value} {below : List Frame} {meth : Method} {c : Code} {D : va_G} {cA : Nat → ClassId} {ad0 : Nat → Nat} {n0 sz d mc ms : Nat} {P : PO} (hM : FM p l s m args meth c D cA 3 ad0 n0 sz cX3_putLeaf RX3 none [] yX3_putLeaf.name) : ∀ q ∈ tX3_putLeaf d mc ms P, Snd (jM p l e s m args below meth c D cA 3 ad0 n0 sz (d + 1) mc ms P) q.1 q.2 := by
  have hF := hM.1
  have hts := hF.2.2.2.2.1
  unfold tX3_putLeaf
  refine fmS (snd_aloadn hF (k := 0) rfl (by decide +kernel)) ?_
  refine fmS (snd_getr hF okX3 (k := 0) (by decide) qw157 rfl rfl (by decide +kernel)) ?_
  refine fmS (snd_iloadn hF (k := 1) rfl (by decide +kernel)) ?_
  refine fmS (snd_iconst hF (n := 1) rfl (by decide +kernel)) ?_
  refine fmS (snd_iastore hF (by decide +kernel)) ?_
  refine fmS (snd_retV hM (by decide +kernel)) ?_
  exact fmE
theorem iX3_putLeaf {d mc ms n : Nat} {av : List Value} {M : PM} {P : PO} (hw : wid av ≤ 3) (hb : ∀ J : KT, (∀ (k : Nat) (stops : Nat → Bool) (pc : Nat) (lv : LV) (st : List Value) (nn : NN) (M : PM), lk (tX3_putLeaf d mc ms P) pc (wpN (tX3_putLeaf d mc ms P) stops k J) lv st nn M → J pc lv st nn M) → J 0 (entA 0 av) [] (n, 0, 0) M) : CallOK (d + 1) mc ms yX3_putLeaf (Cond.code yX3_putLeaf cX3_putLeaf 3 none) av n M P := call_intro (own := RX3) (by decide) rfl hw (fun _ _ _ _ _ _ _ _ _ _ _ _ _ hM => sX3_putLeaf hM) hb
def tX3_joinPair (d mc ms : Nat) (P : PO) : List (Nat × OP) := [(0, oAld 0 1), (1, oGr 3 0 4), (4, oIld 1 5), (5, oPush (.int 1) 6), (6, oAld 0 7), (7, oGr 3 0 10), (10, oIld 1 11), (11, oAi 100 12), (12, oAld 0 13), (13, oGr 3 0 16), (16, oIld 1 17), (17, oPush (.int 1) 18), (18, oI2 (fun x y => x + y) 19), (19, oAi 100 20), (20, oMm (fun x y => if x < y then y else x) mc ms 23), (23, oI2 (fun x y => x + y) 24), (24, oSi 100 (fun x => x) 25), (25, oRetV mc ms P)]
set_option maxRecDepth 20000 in
theorem sX3_joinPair {p : Program} {l : Launch} {e : Env} {s : State} {m : MethodId} {args : Array Value} {below : List Frame} {meth : Method} {c : Code} {D : va_G} {cA : Nat → ClassId} {ad0 : Nat → Nat} {n0 sz d mc ms : Nat} {P : PO} (hM : FM p l s m args meth c D cA 3 ad0 n0 sz cX3_joinPair RX3 none [] yX3_joinPair.name) : ∀ q ∈ tX3_joinPair d mc ms P, Snd (jM p l e s m args below meth c D cA 3 ad0 n0 sz (d + 1) mc ms P) q.1 q.2 := by
  have hF := hM.1
  have hts := hF.2.2.2.2.1
  unfold tX3_joinPair
  refine fmS (snd_aloadn hF (k := 0) rfl (by decide +kernel)) ?_
  refine fmS (snd_getr hF okX3 (k := 0) (by decide) qw157 rfl rfl (by decide +kernel)) ?_
  refine fmS (snd_iloadn hF (k := 1) rfl (by decide +kernel)) ?_
  refine fmS (snd_iconst hF (n := 1) rfl (by decide +kernel)) ?_
  refine fmS (snd_aloadn hF (k := 0) rfl (by decide +kernel)) ?_
  refine fmS (snd_getr hF okX3 (k := 0) (by decide) qw157 rfl rfl (by decide +kernel)) ?_
  refine fmS (snd_iloadn hF (k := 1) rfl (by decide +kernel)) ?_
  refine fmS (snd_iaload hF (by decide +kernel)) ?_
  refine fmS (snd_aloadn hF (k := 0) rfl (by decide +kernel)) ?_
  refine fmS (snd_getr hF okX3 (k := 0) (by decide) qw157 rfl rfl (by decide +kernel)) ?_
  refine fmS (snd_iloadn hF (k := 1) rfl (by decide +kernel)) ?_
  refine fmS (snd_iconst hF (n := 1) rfl (by decide +kernel)) ?_
  refine fmS (snd_iadd hF (by decide +kernel)) ?_
  refine fmS (snd_iaload hF (by decide +kernel)) ?_
  refine fmS (snd_mmax hM qw690 qw691 qw93 qw692 (by decide +kernel)) ?_
  refine fmS (snd_iadd hF (by decide +kernel)) ?_
  refine fmS (snd_iastore hF (by decide +kernel)) ?_
  refine fmS (snd_retV hM (by decide +kernel)) ?_
  exact fmE
theorem iX3_joinPair {d mc ms n : Nat} {av : List Value} {M : PM} {P : PO} (hw : wid av ≤ 3) (hb : ∀ J : KT, (∀ (k : Nat) (stops : Nat → Bool) (pc : Nat) (lv : LV) (st : List Value) (nn : NN) (M : PM), lk (tX3_joinPair d mc ms P) pc (wpN (tX3_joinPair d mc ms P) stops k J) lv st nn M → J pc lv st nn M) → J 0 (entA 0 av) [] (n, 0, 0) M) : CallOK (d + 1) mc ms yX3_joinPair (Cond.code yX3_joinPair cX3_joinPair 3 none) av n M P := call_intro (own := RX3) (by decide) rfl hw (fun _ _ _ _ _ _ _ _ _ _ _ _ _ hM => sX3_joinPair hM) hb
def tX3_joinChoice (d mc ms : Nat) (P : PO) : List (Nat × OP) := [(0, oAld 0 1), (1, oGr 3 0 4), (4, oIld 1 5), (5, oPush (.int 1) 6), (6, oAld 0 7), (7, oGr 3 0 10), (10, oIld 1 11), (11, oAi 100 12), (12, oAld 0 13), (13, oGr 3 0 16), (16, oIld 1 17), (17, oPush (.int 1) 18), (18, oI2 (fun x y => x + y) 19), (19, oAi 100 20), (20, oAld 0 21), (21, oGr 3 0 24), (24, oIld 1 25), (25, oPush (.int 2) 26), (26, oI2 (fun x y => x + y) 27), (27, oAi 100 28), (28, oMm (fun x y => if x < y then y else x) mc ms 31), (31, oMm (fun x y => if x < y then y else x) mc ms 34), (34, oI2 (fun x y => x + y) 35), (35, oSi 100 (fun x => x) 36), (36, oRetV mc ms P)]
set_option maxRecDepth 20000 in
theorem sX3_joinChoice {p : Program} {l : Launch} {e : Env} {s : State} {m : MethodId} {args : Array Value} {below : List Frame} {meth : Method} {c : Code} {D : va_G} {cA : Nat → ClassId} {ad0 : Nat → Nat} {n0 sz d mc ms : Nat} {P : PO} (hM : FM p l s m args meth c D cA 2 ad0 n0 sz cX3_joinChoice RX3 none [] yX3_joinChoice.name) : ∀ q ∈ tX3_joinChoice d mc ms P, Snd (jM p l e s m args below meth c D cA 2 ad0 n0 sz (d + 1) mc ms P) q.1 q.2 := by
  have hF := hM.1
  have hts := hF.2.2.2.2.1
  unfold tX3_joinChoice
  refine fmS (snd_aloadn hF (k := 0) rfl (by decide +kernel)) ?_
  refine fmS (snd_getr hF okX3 (k := 0) (by decide) qw157 rfl rfl (by decide +kernel)) ?_
  refine fmS (snd_iloadn hF (k := 1) rfl (by decide +kernel)) ?_
  refine fmS (snd_iconst hF (n := 1) rfl (by decide +kernel)) ?_
  refine fmS (snd_aloadn hF (k := 0) rfl (by decide +kernel)) ?_
  refine fmS (snd_getr hF okX3 (k := 0) (by decide) qw157 rfl rfl (by decide +kernel)) ?_
  refine fmS (snd_iloadn hF (k := 1) rfl (by decide +kernel)) ?_
  refine fmS (snd_iaload hF (by decide +kernel)) ?_
  refine fmS (snd_aloadn hF (k := 0) rfl (by decide +kernel)) ?_
  refine fmS (snd_getr hF okX3 (k := 0) (by decide) qw157 rfl rfl (by decide +kernel)) ?_
  refine fmS (snd_iloadn hF (k := 1) rfl (by decide +kernel)) ?_
  refine fmS (snd_iconst hF (n := 1) rfl (by decide +kernel)) ?_
  refine fmS (snd_iadd hF (by decide +kernel)) ?_
  refine fmS (snd_iaload hF (by decide +kernel)) ?_
  refine fmS (snd_aloadn hF (k := 0) rfl (by decide +kernel)) ?_
  refine fmS (snd_getr hF okX3 (k := 0) (by decide) qw157 rfl rfl (by decide +kernel)) ?_
  refine fmS (snd_iloadn hF (k := 1) rfl (by decide +kernel)) ?_
  refine fmS (snd_iconst hF (n := 2) rfl (by decide +kernel)) ?_
  refine fmS (snd_iadd hF (by decide +kernel)) ?_
  refine fmS (snd_iaload hF (by decide +kernel)) ?_
  refine fmS (snd_mmax hM qw690 qw691 qw93 qw692 (by decide +kernel)) ?_
  refine fmS (snd_mmax hM qw690 qw691 qw93 qw692 (by decide +kernel)) ?_
  refine fmS (snd_iadd hF (by decide +kernel)) ?_
  refine fmS (snd_iastore hF (by decide +kernel)) ?_
  refine fmS (snd_retV hM (by decide +kernel)) ?_
  exact fmE
theorem iX3_joinChoice {d mc ms n : Nat} {av : List Value} {M : PM} {P : PO} (hw : wid av ≤ 2) (hb : ∀ J : KT, (∀ (k : Nat) (stops : Nat → Bool) (pc : Nat) (lv : LV) (st : List Value) (nn : NN) (M : PM), lk (tX3_joinChoice d mc ms P) pc (wpN (tX3_joinChoice d mc ms P) stops k J) lv st nn M → J pc lv st nn M) → J 0 (entA 0 av) [] (n, 0, 0) M) : CallOK (d + 1) mc ms yX3_joinChoice (Cond.code yX3_joinChoice cX3_joinChoice 2 none) av n M P := call_intro (own := RX3) (by decide) rfl hw (fun _ _ _ _ _ _ _ _ _ _ _ _ _ hM => sX3_joinChoice hM) hb
