def tX0_countTerms (d mc ms : Nat) (P : PO) : List (Nat × OP) := [(0, oAld 0 1), (1, oIld 3 2), (2, oPi 0 1 5), (5, oAld 0 6), (6, oIld 4 8), (8, oPi 0 2 11), (11, oAld 0 12), (12, oAld 1 13), (13, oPush (.int 0) 14), (14, oIld 2 15), (15, oCallV d mc ms P 0 0 yX8_walk (Cond.code yX8_walk cX8_walk 9 none) 3 0 18), (18, oAld 0 19), (19, oGr 0 0 22), (22, oPush (.int 0) 23), (23, oAi 100 24), (24, oRetI mc ms P)]
set_option maxRecDepth 20000 in
theorem sX0_countTerms {p : Program} {l : Launch} {e : Env} {s : State} {m : MethodId} {args : Array Value} {below : List Frame} {meth : Method} {c : Code} {D : va_G} {cA : Nat → ClassId} {ad0 : Nat → Nat} {n0 sz d mc ms : Nat} {P : PO} (hM : FM p l s m args meth c D cA 5 ad0 n0 sz cX0_countTerms RX0 (some .int) [] yX0_countTerms.name) : ∀ q ∈ tX0_countTerms d mc ms P, Snd (jM p l e s m args below meth c D cA 5 ad0 n0 sz (d + 1) mc ms P) q.1 q.2 := by
  have hF := hM.1
  have hts := hF.2.2.2.2.1
  unfold tX0_countTerms
  refine fmS (snd_aloadn hF (k := 0) rfl (by decide +kernel)) ?_
  refine fmS (snd_iloadn hF (k := 3) rfl (by decide +kernel)) ?_
  refine fmS (snd_puti hF okX0 (k := 1) (by decide) qw168 rfl rfl rfl rfl (by decide +kernel)) ?_
  refine fmS (snd_aloadn hF (k := 0) rfl (by decide +kernel)) ?_
  refine fmS (snd_iload hF (by decide +kernel)) ?_
  refine fmS (snd_puti hF okX0 (k := 2) (by decide) qw169 rfl rfl rfl rfl (by decide +kernel)) ?_
  refine fmS (snd_aloadn hF (k := 0) rfl (by decide +kernel)) ?_
  refine fmS (snd_aloadn hF (k := 1) rfl (by decide +kernel)) ?_
  refine fmS (snd_iconst hF (n := 0) rfl (by decide +kernel)) ?_
  refine fmS (snd_iloadn hF (k := 2) rfl (by decide +kernel)) ?_
  refine fmS (snd_callU hM k_X8_walk okX0 (x := ⟨"ReductionFinder$ChainWalk", "walk", "([III)V"⟩) (owner := "ReductionFinder$Walk") qw628 qw629 qw630 qw631 qw632 (by decide) rfl (by decide +kernel)) ?_
  refine fmS (snd_aloadn hF (k := 0) rfl (by decide +kernel)) ?_
  refine fmS (snd_getr hF okX0 (k := 0) (by decide) qw167 rfl rfl (by decide +kernel)) ?_
  refine fmS (snd_iconst hF (n := 0) rfl (by decide +kernel)) ?_
  refine fmS (snd_iaload hF (by decide +kernel)) ?_
  refine fmS (snd_retI hM (by decide +kernel)) ?_
  exact fmE
theorem iX0_countTerms {d mc ms n : Nat} {av : List Value} {M : PM} {P : PO} (hw : wid av ≤ 5) (hb : ∀ J : KT, (∀ (k : Nat) (stops : Nat → Bool) (pc : Nat) (lv : LV) (st : List Value) (nn : NN) (M : PM), lk (tX0_countTerms d mc ms P) pc (wpN (tX0_countTerms d mc ms P) stops k J) lv st nn M → J pc lv st nn M) → J 0 (entA 0 av) [] (n, 0, 0) M) : CallOK (d + 1) mc ms yX0_countTerms (Cond.code yX0_countTerms cX0_countTerms 5 (some .int)) av n M P := call_intro (own := RX0) (by decide) rfl hw (fun _ _ _ _ _ _ _ _ _ _ _ _ _ hM => sX0_countTerms hM) hb
def tX0_putLeaf (d mc ms : Nat) (P : PO) : List (Nat × OP) := [(0, oAld 0 1), (1, oGr 0 0 4), (4, oIld 1 5), (5, oIld 2 6), (6, oAld 0 7), (7, oGi 0 1 10), (10, oIc (fun x y => x = y) 13 17), (13, oPush (.int 0) 14), (14, oGoto 19), (17, oPush (.int (-2)) 19), (19, oSi 100 (fun x => x) 20), (20, oRetV mc ms P)]
set_option maxRecDepth 20000 in
theorem sX0_putLeaf {p : Program} {l : Launch} {e : Env} {s : State} {m : MethodId} {args : Array Value} {below : List Frame} {meth : Method} {c : Code} {D : va_G} {cA : Nat → ClassId} {ad0 : Nat → Nat} {n0 sz d mc ms : Nat} {P : PO} (hM : FM p l s m args meth c D cA 3 ad0 n0 sz cX0_putLeaf RX0 none [] yX0_putLeaf.name) : ∀ q ∈ tX0_putLeaf d mc ms P, Snd (jM p l e s m args below meth c D cA 3 ad0 n0 sz (d + 1) mc ms P) q.1 q.2 := by
  have hF := hM.1
  have hts := hF.2.2.2.2.1
  unfold tX0_putLeaf
  refine fmS (snd_aloadn hF (k := 0) rfl (by decide +kernel)) ?_
  refine fmS (snd_getr hF okX0 (k := 0) (by decide) qw167 rfl rfl (by decide +kernel)) ?_
  refine fmS (snd_iloadn hF (k := 1) rfl (by decide +kernel)) ?_
  refine fmS (snd_iloadn hF (k := 2) rfl (by decide +kernel)) ?_
  refine fmS (snd_aloadn hF (k := 0) rfl (by decide +kernel)) ?_
  refine fmS (snd_geti hF okX0 (k := 1) (by decide) qw168 rfl rfl (by decide +kernel)) ?_
  refine fmS (snd_icmp_ne hF (off := 7) (by decide) (by decide +kernel)) ?_
  refine fmS (snd_iconst hF (n := 0) rfl (by decide +kernel)) ?_
  refine fmS (snd_goto hF (off := 5) (by decide) (by decide +kernel)) ?_
  refine fmS (snd_bipush hF (n := (-2)) (by decide +kernel) (by decide +kernel)) ?_
  refine fmS (snd_iastore hF (by decide +kernel)) ?_
  refine fmS (snd_retV hM (by decide +kernel)) ?_
  exact fmE
theorem iX0_putLeaf {d mc ms n : Nat} {av : List Value} {M : PM} {P : PO} (hw : wid av ≤ 3) (hb : ∀ J : KT, (∀ (k : Nat) (stops : Nat → Bool) (pc : Nat) (lv : LV) (st : List Value) (nn : NN) (M : PM), lk (tX0_putLeaf d mc ms P) pc (wpN (tX0_putLeaf d mc ms P) stops k J) lv st nn M → J pc lv st nn M) → J 0 (entA 0 av) [] (n, 0, 0) M) : CallOK (d + 1) mc ms yX0_putLeaf (Cond.code yX0_putLeaf cX0_putLeaf 3 none) av n M P := call_intro (own := RX0) (by decide) rfl hw (fun _ _ _ _ _ _ _ _ _ _ _ _ _ hM => sX0_putLeaf hM) hb
def tX0_joinPair (d mc ms : Nat) (P : PO) : List (Nat × OP) := [(0, oAld 0 1), (1, oGr 0 0 4), (4, oIld 1 5), (5, oPush (.int 1) 6), (6, oI2 (fun x y => x + y) 7), (7, oAi 100 8), (8, oIst 3 9), (9, oAld 0 10), (10, oGr 0 0 13), (13, oIld 1 14), (14, oAi 100 15), (15, oIst 4 17), (17, oIld 2 18), (18, oPush (.int 307) 21), (21, oIc (fun x y => x = y) 24 38), (24, oAld 0 25), (25, oGi 0 2 28), (28, oPush (.int 300) 31), (31, oIc (fun x y => x = y) 34 38), (34, oPush (.int 1) 35), (35, oGoto 39), (38, oPush (.int 0) 39), (39, oIst 5 41), (41, oIld 3 42), (42, oPush (.int (-2)) 44), (44, oIc (fun x y => x = y) 47 65), (47, oIld 4 49), (49, oPush (.int (-2)) 51), (51, oIc (fun x y => x = y) 54 65), (54, oAld 0 55), (55, oGr 0 0 58), (58, oIld 1 59), (59, oPush (.int (-2)) 61), (61, oSi 100 (fun x => x) 62), (62, oGoto 140), (65, oIld 3 66), (66, oIf (fun x => x < 0) 101 69), (69, oIld 4 71), (71, oPush (.int (-2)) 73), (73, oIc (fun x y => x = y) 76 101), (76, oIld 2 77), (77, oAld 0 78), (78, oGi 0 2 81), (81, oIc (fun x y => x = y) 89 84), (84, oIld 5 86), (86, oIf (fun x => x = 0) 101 89), (89, oAld 0 90), (90, oGr 0 0 93), (93, oIld 1 94), (94, oIld 3 95), (95, oPush (.int 1) 96), (96, oI2 (fun x y => x + y) 97), (97, oSi 100 (fun x => x) 98), (98, oGoto 140), (101, oIld 3 102), (102, oPush (.int (-2)) 104), (104, oIc (fun x y => x = y) 107 133), (107, oIld 4 109), (109, oIf (fun x => x < 0) 133 112), (112, oIld 2 113), (113, oAld 0 114), (114, oGi 0 2 117), (117, oIc (fun x y => x = y) 120 133), (120, oAld 0 121), (121, oGr 0 0 124), (124, oIld 1 125), (125, oIld 4 127), (127, oPush (.int 1) 128), (128, oI2 (fun x y => x + y) 129), (129, oSi 100 (fun x => x) 130), (130, oGoto 140), (133, oAld 0 134), (134, oGr 0 0 137), (137, oIld 1 138), (138, oPush (.int (-1)) 139), (139, oSi 100 (fun x => x) 140), (140, oRetV mc ms P)]
set_option maxRecDepth 20000 in
theorem sX0_joinPair {p : Program} {l : Launch} {e : Env} {s : State} {m : MethodId} {args : Array Value} {below : List Frame} {meth : Method} {c : Code} {D : va_G} {cA : Nat → ClassId} {ad0 : Nat → Nat} {n0 sz d mc ms : Nat} {P : PO} (hM : FM p l s m args meth c D cA 6 ad0 n0 sz cX0_joinPair RX0 none [] yX0_joinPair.name) : ∀ q ∈ tX0_joinPair d mc ms P, Snd (jM p l e s m args below meth c D cA 6 ad0 n0 sz (d + 1) mc ms P) q.1 q.2 := by
  have hF := hM.1
  have hts := hF.2.2.2.2.1
  unfold tX0_joinPair
  refine fmS (snd_aloadn hF (k := 0) rfl (by decide +kernel)) ?_
  refine fmS (snd_getr hF okX0 (k := 0) (by decide) qw167 rfl rfl (by decide +kernel)) ?_
  refine fmS (snd_iloadn hF (k := 1) rfl (by decide +kernel)) ?_
  refine fmS (snd_iconst hF (n := 1) rfl (by decide +kernel)) ?_
  refine fmS (snd_iadd hF (by decide +kernel)) ?_
  refine fmS (snd_iaload hF (by decide +kernel)) ?_
  refine fmS (snd_istoren hF (k := 3) rfl (by decide) (by decide +kernel)) ?_
  refine fmS (snd_aloadn hF (k := 0) rfl (by decide +kernel)) ?_
  refine fmS (snd_getr hF okX0 (k := 0) (by decide) qw167 rfl rfl (by decide +kernel)) ?_
  refine fmS (snd_iloadn hF (k := 1) rfl (by decide +kernel)) ?_
  refine fmS (snd_iaload hF (by decide +kernel)) ?_
  refine fmS (snd_istore hF (by decide) (by decide +kernel)) ?_
  refine fmS (snd_iloadn hF (k := 2) rfl (by decide +kernel)) ?_
  refine fmS (snd_sipush hF (n := 307) (by decide +kernel) (by decide +kernel)) ?_
  refine fmS (snd_icmp_ne hF (off := 17) (by decide) (by decide +kernel)) ?_
  refine fmS (snd_aloadn hF (k := 0) rfl (by decide +kernel)) ?_
  refine fmS (snd_geti hF okX0 (k := 2) (by decide) qw169 rfl rfl (by decide +kernel)) ?_
  refine fmS (snd_sipush hF (n := 300) (by decide +kernel) (by decide +kernel)) ?_
  refine fmS (snd_icmp_ne hF (off := 7) (by decide) (by decide +kernel)) ?_
  refine fmS (snd_iconst hF (n := 1) rfl (by decide +kernel)) ?_
  refine fmS (snd_goto hF (off := 4) (by decide) (by decide +kernel)) ?_
  refine fmS (snd_iconst hF (n := 0) rfl (by decide +kernel)) ?_
  refine fmS (snd_istore hF (by decide) (by decide +kernel)) ?_
  refine fmS (snd_iloadn hF (k := 3) rfl (by decide +kernel)) ?_
  refine fmS (snd_bipush hF (n := (-2)) (by decide +kernel) (by decide +kernel)) ?_
  refine fmS (snd_icmp_ne hF (off := 21) (by decide) (by decide +kernel)) ?_
  refine fmS (snd_iload hF (by decide +kernel)) ?_
  refine fmS (snd_bipush hF (n := (-2)) (by decide +kernel) (by decide +kernel)) ?_
  refine fmS (snd_icmp_ne hF (off := 14) (by decide) (by decide +kernel)) ?_
  refine fmS (snd_aloadn hF (k := 0) rfl (by decide +kernel)) ?_
  refine fmS (snd_getr hF okX0 (k := 0) (by decide) qw167 rfl rfl (by decide +kernel)) ?_
  refine fmS (snd_iloadn hF (k := 1) rfl (by decide +kernel)) ?_
  refine fmS (snd_bipush hF (n := (-2)) (by decide +kernel) (by decide +kernel)) ?_
  refine fmS (snd_iastore hF (by decide +kernel)) ?_
  refine fmS (snd_goto hF (off := 78) (by decide) (by decide +kernel)) ?_
  refine fmS (snd_iloadn hF (k := 3) rfl (by decide +kernel)) ?_
  refine fmS (snd_if_lt hF (off := 35) (by decide) (by decide +kernel)) ?_
  refine fmS (snd_iload hF (by decide +kernel)) ?_
  refine fmS (snd_bipush hF (n := (-2)) (by decide +kernel) (by decide +kernel)) ?_
  refine fmS (snd_icmp_ne hF (off := 28) (by decide) (by decide +kernel)) ?_
  refine fmS (snd_iloadn hF (k := 2) rfl (by decide +kernel)) ?_
  refine fmS (snd_aloadn hF (k := 0) rfl (by decide +kernel)) ?_
  refine fmS (snd_geti hF okX0 (k := 2) (by decide) qw169 rfl rfl (by decide +kernel)) ?_
  refine fmS (snd_icmp_eq hF (off := 8) (by decide) (by decide +kernel)) ?_
  refine fmS (snd_iload hF (by decide +kernel)) ?_
  refine fmS (snd_if_eq hF (off := 15) (by decide) (by decide +kernel)) ?_
  refine fmS (snd_aloadn hF (k := 0) rfl (by decide +kernel)) ?_
  refine fmS (snd_getr hF okX0 (k := 0) (by decide) qw167 rfl rfl (by decide +kernel)) ?_
  refine fmS (snd_iloadn hF (k := 1) rfl (by decide +kernel)) ?_
  refine fmS (snd_iloadn hF (k := 3) rfl (by decide +kernel)) ?_
  refine fmS (snd_iconst hF (n := 1) rfl (by decide +kernel)) ?_
  refine fmS (snd_iadd hF (by decide +kernel)) ?_
  refine fmS (snd_iastore hF (by decide +kernel)) ?_
  refine fmS (snd_goto hF (off := 42) (by decide) (by decide +kernel)) ?_
  refine fmS (snd_iloadn hF (k := 3) rfl (by decide +kernel)) ?_
  refine fmS (snd_bipush hF (n := (-2)) (by decide +kernel) (by decide +kernel)) ?_
  refine fmS (snd_icmp_ne hF (off := 29) (by decide) (by decide +kernel)) ?_
  refine fmS (snd_iload hF (by decide +kernel)) ?_
  refine fmS (snd_if_lt hF (off := 24) (by decide) (by decide +kernel)) ?_
  refine fmS (snd_iloadn hF (k := 2) rfl (by decide +kernel)) ?_
  refine fmS (snd_aloadn hF (k := 0) rfl (by decide +kernel)) ?_
  refine fmS (snd_geti hF okX0 (k := 2) (by decide) qw169 rfl rfl (by decide +kernel)) ?_
  refine fmS (snd_icmp_ne hF (off := 16) (by decide) (by decide +kernel)) ?_
  refine fmS (snd_aloadn hF (k := 0) rfl (by decide +kernel)) ?_
  refine fmS (snd_getr hF okX0 (k := 0) (by decide) qw167 rfl rfl (by decide +kernel)) ?_
  refine fmS (snd_iloadn hF (k := 1) rfl (by decide +kernel)) ?_
  refine fmS (snd_iload hF (by decide +kernel)) ?_
  refine fmS (snd_iconst hF (n := 1) rfl (by decide +kernel)) ?_
  refine fmS (snd_iadd hF (by decide +kernel)) ?_
  refine fmS (snd_iastore hF (by decide +kernel)) ?_
  refine fmS (snd_goto hF (off := 10) (by decide) (by decide +kernel)) ?_
  refine fmS (snd_aloadn hF (k := 0) rfl (by decide +kernel)) ?_
  refine fmS (snd_getr hF okX0 (k := 0) (by decide) qw167 rfl rfl (by decide +kernel)) ?_
  refine fmS (snd_iloadn hF (k := 1) rfl (by decide +kernel)) ?_
  refine fmS (snd_iconst hF (n := (-1)) rfl (by decide +kernel)) ?_
  refine fmS (snd_iastore hF (by decide +kernel)) ?_
  refine fmS (snd_retV hM (by decide +kernel)) ?_
  exact fmE
theorem iX0_joinPair {d mc ms n : Nat} {av : List Value} {M : PM} {P : PO} (hw : wid av ≤ 6) (hb : ∀ J : KT, (∀ (k : Nat) (stops : Nat → Bool) (pc : Nat) (lv : LV) (st : List Value) (nn : NN) (M : PM), lk (tX0_joinPair d mc ms P) pc (wpN (tX0_joinPair d mc ms P) stops k J) lv st nn M → J pc lv st nn M) → J 0 (entA 0 av) [] (n, 0, 0) M) : CallOK (d + 1) mc ms yX0_joinPair (Cond.code yX0_joinPair cX0_joinPair 6 none) av n M P := call_intro (own := RX0) (by decide) rfl hw (fun _ _ _ _ _ _ _ _ _ _ _ _ _ hM => sX0_joinPair hM) hb
def tX0_joinChoice (d mc ms : Nat) (P : PO) : List (Nat × OP) := [(0, oAld 0 1), (1, oGr 0 0 4), (4, oIld 1 5), (5, oPush (.int 2) 6), (6, oI2 (fun x y => x + y) 7), (7, oAi 100 8), (8, oIst 2 9), (9, oAld 0 10), (10, oGr 0 0 13), (13, oIld 1 14), (14, oPush (.int 1) 15), (15, oI2 (fun x y => x + y) 16), (16, oAi 100 17), (17, oIst 3 18), (18, oAld 0 19), (19, oGr 0 0 22), (22, oIld 1 23), (23, oAi 100 24), (24, oIst 4 26), (26, oIld 2 27), (27, oPush (.int (-2)) 29), (29, oIc (fun x y => x = y) 32 56), (32, oIld 3 33), (33, oPush (.int (-2)) 35), (35, oIc (fun x y => x = y) 38 56), (38, oIld 4 40), (40, oPush (.int (-2)) 42), (42, oIc (fun x y => x = y) 45 56), (45, oAld 0 46), (46, oGr 0 0 49), (49, oIld 1 50), (50, oPush (.int (-2)) 52), (52, oSi 100 (fun x => x) 53), (53, oGoto 91), (56, oIld 2 57), (57, oPush (.int (-2)) 59), (59, oIc (fun x y => x = y) 62 84), (62, oIld 3 63), (63, oIf (fun x => x < 0) 84 66), (66, oIld 4 68), (68, oIf (fun x => x < 0) 84 71), (71, oAld 0 72), (72, oGr 0 0 75), (75, oIld 1 76), (76, oIld 3 77), (77, oIld 4 79), (79, oI2 (fun x y => x + y) 80), (80, oSi 100 (fun x => x) 81), (81, oGoto 91), (84, oAld 0 85), (85, oGr 0 0 88), (88, oIld 1 89), (89, oPush (.int (-1)) 90), (90, oSi 100 (fun x => x) 91), (91, oRetV mc ms P)]
set_option maxRecDepth 20000 in
theorem sX0_joinChoice {p : Program} {l : Launch} {e : Env} {s : State} {m : MethodId} {args : Array Value} {below : List Frame} {meth : Method} {c : Code} {D : va_G} {cA : Nat → ClassId} {ad0 : Nat → Nat} {n0 sz d mc ms : Nat} {P : PO} (hM : FM p l s m args meth c D cA 5 ad0 n0 sz cX0_joinChoice RX0 none [] yX0_joinChoice.name) : ∀ q ∈ tX0_joinChoice d mc ms P, Snd (jM p l e s m args below meth c D cA 5 ad0 n0 sz (d + 1) mc ms P) q.1 q.2 := by
  have hF := hM.1
  have hts := hF.2.2.2.2.1
  unfold tX0_joinChoice
  refine fmS (snd_aloadn hF (k := 0) rfl (by decide +kernel)) ?_
  refine fmS (snd_getr hF okX0 (k := 0) (by decide) qw167 rfl rfl (by decide +kernel)) ?_
  refine fmS (snd_iloadn hF (k := 1) rfl (by decide +kernel)) ?_
  refine fmS (snd_iconst hF (n := 2) rfl (by decide +kernel)) ?_
  refine fmS (snd_iadd hF (by decide +kernel)) ?_
  refine fmS (snd_iaload hF (by decide +kernel)) ?_
  refine fmS (snd_istoren hF (k := 2) rfl (by decide) (by decide +kernel)) ?_
  refine fmS (snd_aloadn hF (k := 0) rfl (by decide +kernel)) ?_
  refine fmS (snd_getr hF okX0 (k := 0) (by decide) qw167 rfl rfl (by decide +kernel)) ?_
  refine fmS (snd_iloadn hF (k := 1) rfl (by decide +kernel)) ?_
  refine fmS (snd_iconst hF (n := 1) rfl (by decide +kernel)) ?_
  refine fmS (snd_iadd hF (by decide +kernel)) ?_
  refine fmS (snd_iaload hF (by decide +kernel)) ?_
  refine fmS (snd_istoren hF (k := 3) rfl (by decide) (by decide +kernel)) ?_
  refine fmS (snd_aloadn hF (k := 0) rfl (by decide +kernel)) ?_
  refine fmS (snd_getr hF okX0 (k := 0) (by decide) qw167 rfl rfl (by decide +kernel)) ?_
  refine fmS (snd_iloadn hF (k := 1) rfl (by decide +kernel)) ?_
  refine fmS (snd_iaload hF (by decide +kernel)) ?_
  refine fmS (snd_istore hF (by decide) (by decide +kernel)) ?_
  refine fmS (snd_iloadn hF (k := 2) rfl (by decide +kernel)) ?_
  refine fmS (snd_bipush hF (n := (-2)) (by decide +kernel) (by decide +kernel)) ?_
  refine fmS (snd_icmp_ne hF (off := 27) (by decide) (by decide +kernel)) ?_
  refine fmS (snd_iloadn hF (k := 3) rfl (by decide +kernel)) ?_
  refine fmS (snd_bipush hF (n := (-2)) (by decide +kernel) (by decide +kernel)) ?_
  refine fmS (snd_icmp_ne hF (off := 21) (by decide) (by decide +kernel)) ?_
  refine fmS (snd_iload hF (by decide +kernel)) ?_
  refine fmS (snd_bipush hF (n := (-2)) (by decide +kernel) (by decide +kernel)) ?_
  refine fmS (snd_icmp_ne hF (off := 14) (by decide) (by decide +kernel)) ?_
  refine fmS (snd_aloadn hF (k := 0) rfl (by decide +kernel)) ?_
  refine fmS (snd_getr hF okX0 (k := 0) (by decide) qw167 rfl rfl (by decide +kernel)) ?_
  refine fmS (snd_iloadn hF (k := 1) rfl (by decide +kernel)) ?_
  refine fmS (snd_bipush hF (n := (-2)) (by decide +kernel) (by decide +kernel)) ?_
  refine fmS (snd_iastore hF (by decide +kernel)) ?_
  refine fmS (snd_goto hF (off := 38) (by decide) (by decide +kernel)) ?_
  refine fmS (snd_iloadn hF (k := 2) rfl (by decide +kernel)) ?_
  refine fmS (snd_bipush hF (n := (-2)) (by decide +kernel) (by decide +kernel)) ?_
  refine fmS (snd_icmp_ne hF (off := 25) (by decide) (by decide +kernel)) ?_
  refine fmS (snd_iloadn hF (k := 3) rfl (by decide +kernel)) ?_
  refine fmS (snd_if_lt hF (off := 21) (by decide) (by decide +kernel)) ?_
  refine fmS (snd_iload hF (by decide +kernel)) ?_
  refine fmS (snd_if_lt hF (off := 16) (by decide) (by decide +kernel)) ?_
  refine fmS (snd_aloadn hF (k := 0) rfl (by decide +kernel)) ?_
  refine fmS (snd_getr hF okX0 (k := 0) (by decide) qw167 rfl rfl (by decide +kernel)) ?_
  refine fmS (snd_iloadn hF (k := 1) rfl (by decide +kernel)) ?_
  refine fmS (snd_iloadn hF (k := 3) rfl (by decide +kernel)) ?_
  refine fmS (snd_iload hF (by decide +kernel)) ?_
  refine fmS (snd_iadd hF (by decide +kernel)) ?_
  refine fmS (snd_iastore hF (by decide +kernel)) ?_
  refine fmS (snd_goto hF (off := 10) (by decide) (by decide +kernel)) ?_
  refine fmS (snd_aloadn hF (k := 0) rfl (by decide +kernel)) ?_
  refine fmS (snd_getr hF okX0 (k := 0) (by decide) qw167 rfl rfl (by decide +kernel)) ?_
  refine fmS (snd_iloadn hF (k := 1) rfl (by decide +kernel)) ?_
  refine fmS (snd_iconst hF (n := (-1)) rfl (by decide +kernel)) ?_
  refine fmS (snd_iastore hF (by decide +kernel)) ?_
  refine fmS (snd_retV hM (by decide +kernel)) ?_
  exact fmE
theorem iX0_joinChoice {d mc ms n : Nat} {av : List Value} {M : PM} {P : PO} (hw : wid av ≤ 5) (hb : ∀ J : KT, (∀ (k : Nat) (stops : Nat → Bool) (pc : Nat) (lv : LV) (st : List Value) (nn : NN) (M : PM), lk (tX0_joinChoice d mc ms P) pc (wpN (tX0_joinChoice d mc ms P) stops k J) lv st nn M → J pc lv st nn M) → J 0 (entA 0 av) [] (n, 0, 0) M) : CallOK (d + 1) mc ms yX0_joinChoice (Cond.code yX0_joinChoice cX0_joinChoice 5 none) av n M P := call_intro (own := RX0) (by decide) rfl hw (fun _ _ _ _ _ _ _ _ _ _ _ _ _ hM => sX0_joinChoice hM) hb
