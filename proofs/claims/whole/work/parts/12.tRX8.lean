def tX8_walk (d mc ms : Nat) (P : PO) : List (Nat × OP) := [(0, oPush (.int 0) 1), (1, oIst 4 3), (3, oIld 3 4), (4, oAld 1 5), (5, oAlen 6), (6, oMm (fun x y => if y < x then y else x) mc ms 9), (9, oPush (.int 1) 10), (10, oI2 (fun x y => x - y) 11), (11, oIst 5 13), (13, oIld 5 15), (15, oIst 6 17), (17, oIld 6 19), (19, oIld 2 20), (20, oIc (fun x y => x < y) 125 23), (23, oIld 6 25), (25, oIf (fun x => x < 0) 125 28), (28, oAld 1 29), (29, oIld 6 31), (31, oAi 100 32), (32, oIst 7 34), (34, oIld 7 36), (36, oCallS d mc ms P 0 0 yX9_operandsOf (Cond.code yX9_operandsOf cX9_operandsOf 1 (some .int)) 1 39), (39, oIst 8 41), (41, oIld 8 43), (43, oIf (fun x => x = 0) 46 68), (46, oIld 4 48), (48, oPush (.int 200) 51), (51, oIc (fun x y => y ≤ x) 68 54), (54, oAld 0 55), (55, oIld 4 57), (57, oIld 7 59), (59, oDisp 2 [(0, oCallV d mc ms P 0 0 yX0_putLeaf (Cond.code yX0_putLeaf cX0_putLeaf 3 none) 2 0 62), (2, oCallV d mc ms P 0 0 yX2_putLeaf (Cond.code yX2_putLeaf cX2_putLeaf 3 none) 2 2 62), (3, oCallV d mc ms P 0 0 yX3_putLeaf (Cond.code yX3_putLeaf cX3_putLeaf 3 none) 2 3 62), (4, oCallV d mc ms P 0 0 yX4_putLeaf (Cond.code yX4_putLeaf cX4_putLeaf 3 none) 2 4 62)]), (62, oInc 4 1 65), (65, oGoto 119), (68, oIld 8 70), (70, oPush (.int 2) 71), (71, oIc (fun x y => x = y) 74 96), (74, oIld 4 76), (76, oPush (.int 2) 77), (77, oIc (fun x y => x < y) 96 80), (80, oInc 4 (-1) 83), (83, oAld 0 84), (84, oIld 4 86), (86, oPush (.int 1) 87), (87, oI2 (fun x y => x - y) 88), (88, oIld 7 90), (90, oDisp 2 [(0, oCallV d mc ms P 0 0 yX0_joinPair (Cond.code yX0_joinPair cX0_joinPair 6 none) 2 0 93), (2, oCallV d mc ms P 0 0 yX2_joinPair (Cond.code yX2_joinPair cX2_joinPair 3 none) 2 2 93), (3, oCallV d mc ms P 0 0 yX3_joinPair (Cond.code yX3_joinPair cX3_joinPair 3 none) 2 3 93), (4, oCallV d mc ms P 0 0 yX4_joinPair (Cond.code yX4_joinPair cX4_joinPair 3 none) 2 4 93)]), (93, oGoto 119), (96, oIld 8 98), (98, oPush (.int 3) 99), (99, oIc (fun x y => x = y) 102 119), (102, oIld 4 104), (104, oPush (.int 3) 105), (105, oIc (fun x y => x < y) 119 108), (108, oInc 4 (-2) 111), (111, oAld 0 112), (112, oIld 4 114), (114, oPush (.int 1) 115), (115, oI2 (fun x y => x - y) 116), (116, oDisp 1 [(0, oCallV d mc ms P 0 0 yX0_joinChoice (Cond.code yX0_joinChoice cX0_joinChoice 5 none) 1 0 119), (2, oCallV d mc ms P 0 0 yX2_joinChoice (Cond.code yX2_joinChoice cX2_joinChoice 2 none) 1 2 119), (3, oCallV d mc ms P 0 0 yX3_joinChoice (Cond.code yX3_joinChoice cX3_joinChoice 2 none) 1 3 119), (4, oCallV d mc ms P 0 0 yX4_joinChoice (Cond.code yX4_joinChoice cX4_joinChoice 2 none) 1 4 119)]), (119, oInc 6 (-1) 122), (122, oGoto 17), (125, oRetV mc ms P)]
set_option maxRecDepth 20000 in
theorem sX8_walk {p : Program} {l : Launch} {e : Env} {s : State} {m : MethodId} {args : Array Value} {below : List Frame} {meth : Method} {c : Code} {D : va_G} {cA : Nat → ClassId} {ad0 : Nat → Nat} {n0 sz d mc ms : Nat} {P : PO} (hM : FM p l s m args meth c D cA 9 ad0 n0 sz cX8_walk RX8 none [] yX8_walk.name) : ∀ q ∈ tX8_walk d mc ms P, Snd (jM p l e s m args below meth c D cA 9 ad0 n0 sz (d + 1) mc ms P) q.1 q.2 := by
  have hF := hM.1
  have hts := hF.2.2.2.2.1
  unfold tX8_walk
  refine fmS (snd_iconst hF (n := 0) rfl (by decide +kernel)) ?_
  refine fmS (snd_istore hF (by decide) (by decide +kernel)) ?_
  refine fmS (snd_iloadn hF (k := 3) rfl (by decide +kernel)) ?_
  refine fmS (snd_aloadn hF (k := 1) rfl (by decide +kernel)) ?_
  refine fmS (snd_alen hF (by decide +kernel)) ?_
  refine fmS (snd_mmin hM qw634 qw635 qw93 qw636 (by decide +kernel)) ?_
  refine fmS (snd_iconst hF (n := 1) rfl (by decide +kernel)) ?_
  refine fmS (snd_isub hF (by decide +kernel)) ?_
  refine fmS (snd_istore hF (by decide) (by decide +kernel)) ?_
  refine fmS (snd_iload hF (by decide +kernel)) ?_
  refine fmS (snd_istore hF (by decide) (by decide +kernel)) ?_
  refine fmS (snd_iload hF (by decide +kernel)) ?_
  refine fmS (snd_iloadn hF (k := 2) rfl (by decide +kernel)) ?_
  refine fmS (snd_icmp_lt hF (off := 105) (by decide) (by decide +kernel)) ?_
  refine fmS (snd_iload hF (by decide +kernel)) ?_
  refine fmS (snd_if_lt hF (off := 100) (by decide) (by decide +kernel)) ?_
  refine fmS (snd_aloadn hF (k := 1) rfl (by decide +kernel)) ?_
  refine fmS (snd_iload hF (by decide +kernel)) ?_
  refine fmS (snd_iaload hF (by decide +kernel)) ?_
  refine fmS (snd_istore hF (by decide) (by decide +kernel)) ?_
  refine fmS (snd_iload hF (by decide +kernel)) ?_
  refine fmS (snd_callSN hM k_X9_operandsOf qw637 qw560 (by decide +kernel)) ?_
  refine fmS (snd_istore hF (by decide) (by decide +kernel)) ?_
  refine fmS (snd_iload hF (by decide +kernel)) ?_
  refine fmS (snd_if_ne hF (off := 25) (by decide) (by decide +kernel)) ?_
  refine fmS (snd_iload hF (by decide +kernel)) ?_
  refine fmS (snd_sipush hF (n := 200) (by decide +kernel) (by decide +kernel)) ?_
  refine fmS (snd_icmp_ge hF (off := 17) (by decide) (by decide +kernel)) ?_
  refine fmS (snd_aloadn hF (k := 0) rfl (by decide +kernel)) ?_
  refine fmS (snd_iload hF (by decide +kernel)) ?_
  refine fmS (snd_iload hF (by decide +kernel)) ?_
  refine fmS (snd_disp ((fmD (snd_callU hM k_X0_putLeaf okX0 (x := ⟨"ReductionFinder$Walk", "putLeaf", "(II)V"⟩) (owner := "ReductionFinder$Walk") qw638 qw640 qw639 qw641 qw642 (by decide) rfl (by decide +kernel)) (fmD (snd_callU hM k_X2_putLeaf okX2 (x := ⟨"ReductionFinder$Walk", "putLeaf", "(II)V"⟩) (owner := "ReductionFinder$Walk") qw638 qw640 qw639 qw644 qw645 (by decide) rfl (by decide +kernel)) (fmD (snd_callU hM k_X3_putLeaf okX3 (x := ⟨"ReductionFinder$Walk", "putLeaf", "(II)V"⟩) (owner := "ReductionFinder$Walk") qw638 qw640 qw639 qw660 qw661 (by decide) rfl (by decide +kernel)) (fmD (snd_callU hM k_X4_putLeaf okX4 (x := ⟨"ReductionFinder$Walk", "putLeaf", "(II)V"⟩) (owner := "ReductionFinder$Walk") qw638 qw640 qw639 qw663 qw664 (by decide) rfl (by decide +kernel)) fmN)))))) ?_
  refine fmS (snd_iinc hF (n := 1) (by decide +kernel) (by decide) (by decide +kernel)) ?_
  refine fmS (snd_goto hF (off := 54) (by decide) (by decide +kernel)) ?_
  refine fmS (snd_iload hF (by decide +kernel)) ?_
  refine fmS (snd_iconst hF (n := 2) rfl (by decide +kernel)) ?_
  refine fmS (snd_icmp_ne hF (off := 25) (by decide) (by decide +kernel)) ?_
  refine fmS (snd_iload hF (by decide +kernel)) ?_
  refine fmS (snd_iconst hF (n := 2) rfl (by decide +kernel)) ?_
  refine fmS (snd_icmp_lt hF (off := 19) (by decide) (by decide +kernel)) ?_
  refine fmS (snd_iinc hF (n := (-1)) (by decide +kernel) (by decide) (by decide +kernel)) ?_
  refine fmS (snd_aloadn hF (k := 0) rfl (by decide +kernel)) ?_
  refine fmS (snd_iload hF (by decide +kernel)) ?_
  refine fmS (snd_iconst hF (n := 1) rfl (by decide +kernel)) ?_
  refine fmS (snd_isub hF (by decide +kernel)) ?_
  refine fmS (snd_iload hF (by decide +kernel)) ?_
  refine fmS (snd_disp ((fmD (snd_callU hM k_X0_joinPair okX0 (x := ⟨"ReductionFinder$Walk", "joinPair", "(II)V"⟩) (owner := "ReductionFinder$Walk") qw673 qw675 qw674 qw676 qw677 (by decide) rfl (by decide +kernel)) (fmD (snd_callU hM k_X2_joinPair okX2 (x := ⟨"ReductionFinder$Walk", "joinPair", "(II)V"⟩) (owner := "ReductionFinder$Walk") qw673 qw675 qw674 qw679 qw680 (by decide) rfl (by decide +kernel)) (fmD (snd_callU hM k_X3_joinPair okX3 (x := ⟨"ReductionFinder$Walk", "joinPair", "(II)V"⟩) (owner := "ReductionFinder$Walk") qw673 qw675 qw674 qw687 qw688 (by decide) rfl (by decide +kernel)) (fmD (snd_callU hM k_X4_joinPair okX4 (x := ⟨"ReductionFinder$Walk", "joinPair", "(II)V"⟩) (owner := "ReductionFinder$Walk") qw673 qw675 qw674 qw693 qw694 (by decide) rfl (by decide +kernel)) fmN)))))) ?_
  refine fmS (snd_goto hF (off := 26) (by decide) (by decide +kernel)) ?_
  refine fmS (snd_iload hF (by decide +kernel)) ?_
  refine fmS (snd_iconst hF (n := 3) rfl (by decide +kernel)) ?_
  refine fmS (snd_icmp_ne hF (off := 20) (by decide) (by decide +kernel)) ?_
  refine fmS (snd_iload hF (by decide +kernel)) ?_
  refine fmS (snd_iconst hF (n := 3) rfl (by decide +kernel)) ?_
  refine fmS (snd_icmp_lt hF (off := 14) (by decide) (by decide +kernel)) ?_
  refine fmS (snd_iinc hF (n := (-2)) (by decide +kernel) (by decide) (by decide +kernel)) ?_
  refine fmS (snd_aloadn hF (k := 0) rfl (by decide +kernel)) ?_
  refine fmS (snd_iload hF (by decide +kernel)) ?_
  refine fmS (snd_iconst hF (n := 1) rfl (by decide +kernel)) ?_
  refine fmS (snd_isub hF (by decide +kernel)) ?_
  refine fmS (snd_disp ((fmD (snd_callU hM k_X0_joinChoice okX0 (x := ⟨"ReductionFinder$Walk", "joinChoice", "(I)V"⟩) (owner := "ReductionFinder$Walk") qw701 qw703 qw702 qw704 qw705 (by decide) rfl (by decide +kernel)) (fmD (snd_callU hM k_X2_joinChoice okX2 (x := ⟨"ReductionFinder$Walk", "joinChoice", "(I)V"⟩) (owner := "ReductionFinder$Walk") qw701 qw703 qw702 qw707 qw708 (by decide) rfl (by decide +kernel)) (fmD (snd_callU hM k_X3_joinChoice okX3 (x := ⟨"ReductionFinder$Walk", "joinChoice", "(I)V"⟩) (owner := "ReductionFinder$Walk") qw701 qw703 qw702 qw710 qw711 (by decide) rfl (by decide +kernel)) (fmD (snd_callU hM k_X4_joinChoice okX4 (x := ⟨"ReductionFinder$Walk", "joinChoice", "(I)V"⟩) (owner := "ReductionFinder$Walk") qw701 qw703 qw702 qw713 qw714 (by decide) rfl (by decide +kernel)) fmN)))))) ?_
  refine fmS (snd_iinc hF (n := (-1)) (by decide +kernel) (by decide) (by decide +kernel)) ?_
  refine fmS (snd_goto hF (off := (-105)) (by decide) (by decide +kernel)) ?_
  refine fmS (snd_retV hM (by decide +kernel)) ?_
  exact fmE
theorem iX8_walk {d mc ms n : Nat} {av : List Value} {M : PM} {P : PO} (hw : wid av ≤ 9) (hb : ∀ J : KT, (∀ (k : Nat) (stops : Nat → Bool) (pc : Nat) (lv : LV) (st : List Value) (nn : NN) (M : PM), lk (tX8_walk d mc ms P) pc (wpN (tX8_walk d mc ms P) stops k J) lv st nn M → J pc lv st nn M) → J 0 (entA 0 av) [] (n, 0, 0) M) : CallOK (d + 1) mc ms yX8_walk (Cond.code yX8_walk cX8_walk 9 none) av n M P := call_intro (own := RX8) (by decide) rfl hw (fun _ _ _ _ _ _ _ _ _ _ _ _ _ hM => sX8_walk hM) hb
