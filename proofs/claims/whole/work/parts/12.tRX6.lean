def tX6_build (d mc ms : Nat) (P : PO) : List (Nat × OP) := [(0, oAld 1 1), (1, oGi 7 7 4), (4, oPush (.int 8) 6), (6, oIc (fun x y => x ≤ y) 11 9), (9, oPush (.int 0) 10), (10, oRetZ mc ms P), (11, oAld 0 12), (12, oAld 1 13), (13, oCallV d mc ms P 0 0 yX6_copyStatements (Cond.code yX6_copyStatements cX6_copyStatements 2 none) 1 6 16), (16, oAld 0 17), (17, oAld 1 18), (18, oGi 7 4 21), (21, oCallV d mc ms P 0 0 yX6_countOperations (Cond.code yX6_countOperations cX6_countOperations 4 none) 1 6 24), (24, oPush (.int 0) 25), (25, oIst 2 26), (26, oIld 2 27), (27, oPush (.int 8) 29), (29, oIc (fun x y => y ≤ x) 64 32), (32, oAld 0 33), (33, oGr 6 6 36), (36, oIld 2 37), (37, oAr 106 38), (38, oPush (.int 0) 39), (39, oPush (.int 100) 41), (41, oIld 2 42), (42, oI2 (fun x y => x + y) 43), (43, oSi 100 (fun x => x) 44), (44, oAld 0 45), (45, oGr 6 7 48), (48, oIld 2 49), (49, oPush (.int 1) 50), (50, oSi 100 (fun x => x) 51), (51, oAld 0 52), (52, oGr 6 9 55), (55, oIld 2 56), (56, oPush (.int 0) 57), (57, oSi 103 (fun x => vp_nar .boolean x) 58), (58, oInc 2 1 61), (61, oGoto 26), (64, oPush (.int 0) 65), (65, oIst 2 66), (66, oIld 2 67), (67, oAld 0 68), (68, oGi 6 3 71), (71, oIc (fun x y => y ≤ x) 90 74), (74, oAld 0 75), (75, oIld 2 76), (76, oCallV d mc ms P 0 0 yX6_assign (Cond.code yX6_assign cX6_assign 7 (some .boolean)) 1 6 79), (79, oIf (fun x => x = 0) 82 84), (82, oPush (.int 0) 83), (83, oRetZ mc ms P), (84, oInc 2 1 87), (87, oGoto 66), (90, oPush (.int 1) 91), (91, oRetZ mc ms P)]
set_option maxRecDepth 20000 in
theorem sX6_build {p : Program} {l : Launch} {e : Env} {s : State} {m : MethodId} {args : Array Value} {below : List Frame} {meth : Method} {c : Code} {D : va_G} {cA : Nat → ClassId} {ad0 : Nat → Nat} {n0 sz d mc ms : Nat} {P : PO} (hM : FM p l s m args meth c D cA 3 ad0 n0 sz cX6_build RX6 (some .boolean) [] yX6_build.name) : ∀ q ∈ tX6_build d mc ms P, Snd (jM p l e s m args below meth c D cA 3 ad0 n0 sz (d + 1) mc ms P) q.1 q.2 := by
  have hF := hM.1
  have hts := hF.2.2.2.2.1
  unfold tX6_build
  refine fmS (snd_aloadn hF (k := 1) rfl (by decide +kernel)) ?_
  refine fmS (snd_getiN hF okX7 (k := 7) (by decide) qw128 rfl rfl (by decide +kernel)) ?_
  refine fmS (snd_bipush hF (n := 8) (by decide +kernel) (by decide +kernel)) ?_
  refine fmS (snd_icmp_le hF (off := 5) (by decide) (by decide +kernel)) ?_
  refine fmS (snd_iconst hF (n := 0) rfl (by decide +kernel)) ?_
  refine fmS (snd_retZ hM (by decide +kernel)) ?_
  refine fmS (snd_aloadn hF (k := 0) rfl (by decide +kernel)) ?_
  refine fmS (snd_aloadn hF (k := 1) rfl (by decide +kernel)) ?_
  refine fmS (snd_callV hM k_X6_copyStatements okX6 qw582 qw584 (hts _ qw17) (by decide +kernel)) ?_
  refine fmS (snd_aloadn hF (k := 0) rfl (by decide +kernel)) ?_
  refine fmS (snd_aloadn hF (k := 1) rfl (by decide +kernel)) ?_
  refine fmS (snd_getiN hF okX7 (k := 4) (by decide) qw122 rfl rfl (by decide +kernel)) ?_
  refine fmS (snd_callV hM k_X6_countOperations okX6 qw587 qw589 (hts _ qw18) (by decide +kernel)) ?_
  refine fmS (snd_iconst hF (n := 0) rfl (by decide +kernel)) ?_
  refine fmS (snd_istoren hF (k := 2) rfl (by decide) (by decide +kernel)) ?_
  refine fmS (snd_iloadn hF (k := 2) rfl (by decide +kernel)) ?_
  refine fmS (snd_bipush hF (n := 8) (by decide +kernel) (by decide +kernel)) ?_
  refine fmS (snd_icmp_ge hF (off := 35) (by decide) (by decide +kernel)) ?_
  refine fmS (snd_aloadn hF (k := 0) rfl (by decide +kernel)) ?_
  refine fmS (snd_getr hF okX6 (k := 6) (by decide) qw273 rfl rfl (by decide +kernel)) ?_
  refine fmS (snd_iloadn hF (k := 2) rfl (by decide +kernel)) ?_
  refine fmS (snd_aaload106 hF (by decide +kernel)) ?_
  refine fmS (snd_iconst hF (n := 0) rfl (by decide +kernel)) ?_
  refine fmS (snd_bipush hF (n := 100) (by decide +kernel) (by decide +kernel)) ?_
  refine fmS (snd_iloadn hF (k := 2) rfl (by decide +kernel)) ?_
  refine fmS (snd_iadd hF (by decide +kernel)) ?_
  refine fmS (snd_iastore hF (by decide +kernel)) ?_
  refine fmS (snd_aloadn hF (k := 0) rfl (by decide +kernel)) ?_
  refine fmS (snd_getr hF okX6 (k := 7) (by decide) qw275 rfl rfl (by decide +kernel)) ?_
  refine fmS (snd_iloadn hF (k := 2) rfl (by decide +kernel)) ?_
  refine fmS (snd_iconst hF (n := 1) rfl (by decide +kernel)) ?_
  refine fmS (snd_iastore hF (by decide +kernel)) ?_
  refine fmS (snd_aloadn hF (k := 0) rfl (by decide +kernel)) ?_
  refine fmS (snd_getr hF okX6 (k := 9) (by decide) qw278 rfl rfl (by decide +kernel)) ?_
  refine fmS (snd_iloadn hF (k := 2) rfl (by decide +kernel)) ?_
  refine fmS (snd_iconst hF (n := 0) rfl (by decide +kernel)) ?_
  refine fmS (snd_bastore hF (by decide +kernel)) ?_
  refine fmS (snd_iinc hF (n := 1) (by decide +kernel) (by decide) (by decide +kernel)) ?_
  refine fmS (snd_goto hF (off := (-35)) (by decide) (by decide +kernel)) ?_
  refine fmS (snd_iconst hF (n := 0) rfl (by decide +kernel)) ?_
  refine fmS (snd_istoren hF (k := 2) rfl (by decide) (by decide +kernel)) ?_
  refine fmS (snd_iloadn hF (k := 2) rfl (by decide +kernel)) ?_
  refine fmS (snd_aloadn hF (k := 0) rfl (by decide +kernel)) ?_
  refine fmS (snd_geti hF okX6 (k := 3) (by decide) qw266 rfl rfl (by decide +kernel)) ?_
  refine fmS (snd_icmp_ge hF (off := 19) (by decide) (by decide +kernel)) ?_
  refine fmS (snd_aloadn hF (k := 0) rfl (by decide +kernel)) ?_
  refine fmS (snd_iloadn hF (k := 2) rfl (by decide +kernel)) ?_
  refine fmS (snd_callV hM k_X6_assign okX6 qw592 qw594 (hts _ qw19) (by decide +kernel)) ?_
  refine fmS (snd_if_ne hF (off := 5) (by decide) (by decide +kernel)) ?_
  refine fmS (snd_iconst hF (n := 0) rfl (by decide +kernel)) ?_
  refine fmS (snd_retZ hM (by decide +kernel)) ?_
  refine fmS (snd_iinc hF (n := 1) (by decide +kernel) (by decide) (by decide +kernel)) ?_
  refine fmS (snd_goto hF (off := (-21)) (by decide) (by decide +kernel)) ?_
  refine fmS (snd_iconst hF (n := 1) rfl (by decide +kernel)) ?_
  refine fmS (snd_retZ hM (by decide +kernel)) ?_
  exact fmE
theorem iX6_build {d mc ms n : Nat} {av : List Value} {M : PM} {P : PO} (hw : wid av ≤ 3) (hb : ∀ J : KT, (∀ (k : Nat) (stops : Nat → Bool) (pc : Nat) (lv : LV) (st : List Value) (nn : NN) (M : PM), lk (tX6_build d mc ms P) pc (wpN (tX6_build d mc ms P) stops k J) lv st nn M → J pc lv st nn M) → J 0 (entA 0 av) [] (n, 0, 0) M) : CallOK (d + 1) mc ms yX6_build (Cond.code yX6_build cX6_build 3 (some .boolean)) av n M P := call_intro (own := RX6) (by decide) rfl hw (fun _ _ _ _ _ _ _ _ _ _ _ _ _ hM => sX6_build hM) hb
def tX6_copyStatements (d mc ms : Nat) (P : PO) : List (Nat × OP) := [(0, oAld 0 1), (1, oAld 1 2), (2, oGi 7 7 5), (5, oPi 6 3 8), (8, oAld 1 9), (9, oGr 7 5 12), (12, oPush (.int 0) 13), (13, oAld 0 14), (14, oGr 6 1 17), (17, oPush (.int 0) 18), (18, oPush (.int 8) 20), (20, oCopy 23), (23, oAld 1 24), (24, oGr 7 6 27), (27, oPush (.int 0) 28), (28, oAld 0 29), (29, oGr 6 2 32), (32, oPush (.int 0) 33), (33, oPush (.int 8) 35), (35, oCopy 38), (38, oAld 1 39), (39, oGr 7 3 42), (42, oPush (.int 0) 43), (43, oAld 0 44), (44, oGr 6 0 47), (47, oPush (.int 0) 48), (48, oPush (.int 100) 50), (50, oCopy 53), (53, oRetV mc ms P)]
set_option maxRecDepth 20000 in
theorem sX6_copyStatements {p : Program} {l : Launch} {e : Env} {s : State} {m : MethodId} {args : Array Value} {below : List Frame} {meth : Method} {c : Code} {D : va_G} {cA : Nat → ClassId} {ad0 : Nat → Nat} {n0 sz d mc ms : Nat} {P : PO} (hM : FM p l s m args meth c D cA 2 ad0 n0 sz cX6_copyStatements RX6 none [] yX6_copyStatements.name) : ∀ q ∈ tX6_copyStatements d mc ms P, Snd (jM p l e s m args below meth c D cA 2 ad0 n0 sz (d + 1) mc ms P) q.1 q.2 := by
  have hF := hM.1
  have hts := hF.2.2.2.2.1
  unfold tX6_copyStatements
  refine fmS (snd_aloadn hF (k := 0) rfl (by decide +kernel)) ?_
  refine fmS (snd_aloadn hF (k := 1) rfl (by decide +kernel)) ?_
  refine fmS (snd_getiN hF okX7 (k := 7) (by decide) qw128 rfl rfl (by decide +kernel)) ?_
  refine fmS (snd_puti hF okX6 (k := 3) (by decide) qw266 rfl rfl rfl rfl (by decide +kernel)) ?_
  refine fmS (snd_aloadn hF (k := 1) rfl (by decide +kernel)) ?_
  refine fmS (snd_getrN hF okX7 (k := 5) (by decide) qw124 rfl rfl (by decide +kernel)) ?_
  refine fmS (snd_iconst hF (n := 0) rfl (by decide +kernel)) ?_
  refine fmS (snd_aloadn hF (k := 0) rfl (by decide +kernel)) ?_
  refine fmS (snd_getr hF okX6 (k := 1) (by decide) qw262 rfl rfl (by decide +kernel)) ?_
  refine fmS (snd_iconst hF (n := 0) rfl (by decide +kernel)) ?_
  refine fmS (snd_bipush hF (n := 8) (by decide +kernel) (by decide +kernel)) ?_
  refine fmS (snd_copy hM qw586 qw406 qw405 qw92 (by decide +kernel)) ?_
  refine fmS (snd_aloadn hF (k := 1) rfl (by decide +kernel)) ?_
  refine fmS (snd_getrN hF okX7 (k := 6) (by decide) qw126 rfl rfl (by decide +kernel)) ?_
  refine fmS (snd_iconst hF (n := 0) rfl (by decide +kernel)) ?_
  refine fmS (snd_aloadn hF (k := 0) rfl (by decide +kernel)) ?_
  refine fmS (snd_getr hF okX6 (k := 2) (by decide) qw264 rfl rfl (by decide +kernel)) ?_
  refine fmS (snd_iconst hF (n := 0) rfl (by decide +kernel)) ?_
  refine fmS (snd_bipush hF (n := 8) (by decide +kernel) (by decide +kernel)) ?_
  refine fmS (snd_copy hM qw586 qw406 qw405 qw92 (by decide +kernel)) ?_
  refine fmS (snd_aloadn hF (k := 1) rfl (by decide +kernel)) ?_
  refine fmS (snd_getrN hF okX7 (k := 3) (by decide) qw120 rfl rfl (by decide +kernel)) ?_
  refine fmS (snd_iconst hF (n := 0) rfl (by decide +kernel)) ?_
  refine fmS (snd_aloadn hF (k := 0) rfl (by decide +kernel)) ?_
  refine fmS (snd_getr hF okX6 (k := 0) (by decide) qw260 rfl rfl (by decide +kernel)) ?_
  refine fmS (snd_iconst hF (n := 0) rfl (by decide +kernel)) ?_
  refine fmS (snd_bipush hF (n := 100) (by decide +kernel) (by decide +kernel)) ?_
  refine fmS (snd_copy hM qw586 qw406 qw405 qw92 (by decide +kernel)) ?_
  refine fmS (snd_retV hM (by decide +kernel)) ?_
  exact fmE
theorem iX6_copyStatements {d mc ms n : Nat} {av : List Value} {M : PM} {P : PO} (hw : wid av ≤ 2) (hb : ∀ J : KT, (∀ (k : Nat) (stops : Nat → Bool) (pc : Nat) (lv : LV) (st : List Value) (nn : NN) (M : PM), lk (tX6_copyStatements d mc ms P) pc (wpN (tX6_copyStatements d mc ms P) stops k J) lv st nn M → J pc lv st nn M) → J 0 (entA 0 av) [] (n, 0, 0) M) : CallOK (d + 1) mc ms yX6_copyStatements (Cond.code yX6_copyStatements cX6_copyStatements 2 none) av n M P := call_intro (own := RX6) (by decide) rfl hw (fun _ _ _ _ _ _ _ _ _ _ _ _ _ hM => sX6_copyStatements hM) hb
def tX6_countOperations (d mc ms : Nat) (P : PO) : List (Nat × OP) := [(0, oAld 0 1), (1, oPush (.int 0) 2), (2, oPi 6 4 5), (5, oAld 0 6), (6, oPush (.int 0) 7), (7, oPz 6 5 10), (10, oPush (.int 0) 11), (11, oIst 2 12), (12, oIld 2 13), (13, oIld 1 14), (14, oIc (fun x y => y ≤ x) 79 17), (17, oIld 2 18), (18, oPush (.int 100) 20), (20, oIc (fun x y => y ≤ x) 79 23), (23, oAld 0 24), (24, oGr 6 0 27), (27, oIld 2 28), (28, oAi 100 29), (29, oIst 3 30), (30, oIld 3 31), (31, oCallS d mc ms P 0 0 yX9_operandsOf (Cond.code yX9_operandsOf cX9_operandsOf 1 (some .int)) 1 34), (34, oIf (fun x => x ≤ 0) 47 37), (37, oAld 0 38), (38, oDup 39), (39, oGi 6 4 42), (42, oPush (.int 1) 43), (43, oI2 (fun x y => x + y) 44), (44, oPi 6 4 47), (47, oIld 3 48), (48, oPush (.int 302) 51), (51, oIc (fun x y => x = y) 68 54), (54, oIld 3 55), (55, oPush (.int 303) 58), (58, oIc (fun x y => x = y) 68 61), (61, oIld 3 62), (62, oPush (.int 304) 65), (65, oIc (fun x y => x = y) 68 73), (68, oAld 0 69), (69, oPush (.int 1) 70), (70, oPz 6 5 73), (73, oInc 2 1 76), (76, oGoto 12), (79, oRetV mc ms P)]
set_option maxRecDepth 20000 in
theorem sX6_countOperations {p : Program} {l : Launch} {e : Env} {s : State} {m : MethodId} {args : Array Value} {below : List Frame} {meth : Method} {c : Code} {D : va_G} {cA : Nat → ClassId} {ad0 : Nat → Nat} {n0 sz d mc ms : Nat} {P : PO} (hM : FM p l s m args meth c D cA 4 ad0 n0 sz cX6_countOperations RX6 none [] yX6_countOperations.name) : ∀ q ∈ tX6_countOperations d mc ms P, Snd (jM p l e s m args below meth c D cA 4 ad0 n0 sz (d + 1) mc ms P) q.1 q.2 := by
  have hF := hM.1
  have hts := hF.2.2.2.2.1
  unfold tX6_countOperations
  refine fmS (snd_aloadn hF (k := 0) rfl (by decide +kernel)) ?_
  refine fmS (snd_iconst hF (n := 0) rfl (by decide +kernel)) ?_
  refine fmS (snd_puti hF okX6 (k := 4) (by decide) qw269 rfl rfl rfl rfl (by decide +kernel)) ?_
  refine fmS (snd_aloadn hF (k := 0) rfl (by decide +kernel)) ?_
  refine fmS (snd_iconst hF (n := 0) rfl (by decide +kernel)) ?_
  refine fmS (snd_putz hF okX6 (k := 5) (by decide) qw271 rfl rfl rfl rfl (by decide +kernel)) ?_
  refine fmS (snd_iconst hF (n := 0) rfl (by decide +kernel)) ?_
  refine fmS (snd_istoren hF (k := 2) rfl (by decide) (by decide +kernel)) ?_
  refine fmS (snd_iloadn hF (k := 2) rfl (by decide +kernel)) ?_
  refine fmS (snd_iloadn hF (k := 1) rfl (by decide +kernel)) ?_
  refine fmS (snd_icmp_ge hF (off := 65) (by decide) (by decide +kernel)) ?_
  refine fmS (snd_iloadn hF (k := 2) rfl (by decide +kernel)) ?_
  refine fmS (snd_bipush hF (n := 100) (by decide +kernel) (by decide +kernel)) ?_
  refine fmS (snd_icmp_ge hF (off := 59) (by decide) (by decide +kernel)) ?_
  refine fmS (snd_aloadn hF (k := 0) rfl (by decide +kernel)) ?_
  refine fmS (snd_getr hF okX6 (k := 0) (by decide) qw260 rfl rfl (by decide +kernel)) ?_
  refine fmS (snd_iloadn hF (k := 2) rfl (by decide +kernel)) ?_
  refine fmS (snd_iaload hF (by decide +kernel)) ?_
  refine fmS (snd_istoren hF (k := 3) rfl (by decide) (by decide +kernel)) ?_
  refine fmS (snd_iloadn hF (k := 3) rfl (by decide +kernel)) ?_
  refine fmS (snd_callSN hM k_X9_operandsOf qw591 qw560 (by decide +kernel)) ?_
  refine fmS (snd_if_le hF (off := 13) (by decide) (by decide +kernel)) ?_
  refine fmS (snd_aloadn hF (k := 0) rfl (by decide +kernel)) ?_
  refine fmS (snd_dup hF (by decide +kernel)) ?_
  refine fmS (snd_geti hF okX6 (k := 4) (by decide) qw269 rfl rfl (by decide +kernel)) ?_
  refine fmS (snd_iconst hF (n := 1) rfl (by decide +kernel)) ?_
  refine fmS (snd_iadd hF (by decide +kernel)) ?_
  refine fmS (snd_puti hF okX6 (k := 4) (by decide) qw269 rfl rfl rfl rfl (by decide +kernel)) ?_
  refine fmS (snd_iloadn hF (k := 3) rfl (by decide +kernel)) ?_
  refine fmS (snd_sipush hF (n := 302) (by decide +kernel) (by decide +kernel)) ?_
  refine fmS (snd_icmp_eq hF (off := 17) (by decide) (by decide +kernel)) ?_
  refine fmS (snd_iloadn hF (k := 3) rfl (by decide +kernel)) ?_
  refine fmS (snd_sipush hF (n := 303) (by decide +kernel) (by decide +kernel)) ?_
  refine fmS (snd_icmp_eq hF (off := 10) (by decide) (by decide +kernel)) ?_
  refine fmS (snd_iloadn hF (k := 3) rfl (by decide +kernel)) ?_
  refine fmS (snd_sipush hF (n := 304) (by decide +kernel) (by decide +kernel)) ?_
  refine fmS (snd_icmp_ne hF (off := 8) (by decide) (by decide +kernel)) ?_
  refine fmS (snd_aloadn hF (k := 0) rfl (by decide +kernel)) ?_
  refine fmS (snd_iconst hF (n := 1) rfl (by decide +kernel)) ?_
  refine fmS (snd_putz hF okX6 (k := 5) (by decide) qw271 rfl rfl rfl rfl (by decide +kernel)) ?_
  refine fmS (snd_iinc hF (n := 1) (by decide +kernel) (by decide) (by decide +kernel)) ?_
  refine fmS (snd_goto hF (off := (-64)) (by decide) (by decide +kernel)) ?_
  refine fmS (snd_retV hM (by decide +kernel)) ?_
  exact fmE
theorem iX6_countOperations {d mc ms n : Nat} {av : List Value} {M : PM} {P : PO} (hw : wid av ≤ 4) (hb : ∀ J : KT, (∀ (k : Nat) (stops : Nat → Bool) (pc : Nat) (lv : LV) (st : List Value) (nn : NN) (M : PM), lk (tX6_countOperations d mc ms P) pc (wpN (tX6_countOperations d mc ms P) stops k J) lv st nn M → J pc lv st nn M) → J 0 (entA 0 av) [] (n, 0, 0) M) : CallOK (d + 1) mc ms yX6_countOperations (Cond.code yX6_countOperations cX6_countOperations 4 none) av n M P := call_intro (own := RX6) (by decide) rfl hw (fun _ _ _ _ _ _ _ _ _ _ _ _ _ hM => sX6_countOperations hM) hb
def tX6_firstCodeOf (d mc ms : Nat) (P : PO) : List (Nat × OP) := [(0, oIld 1 1), (1, oIf (fun x => x ≤ 0) 21 4), (4, oIld 1 5), (5, oPush (.int 8) 7), (7, oIc (fun x y => y < x) 21 10), (10, oAld 0 11), (11, oGr 6 2 14), (14, oIld 1 15), (15, oPush (.int 1) 16), (16, oI2 (fun x y => x - y) 17), (17, oAi 100 18), (18, oGoto 22), (21, oPush (.int 0) 22), (22, oRetI mc ms P)]
set_option maxRecDepth 20000 in
theorem sX6_firstCodeOf {p : Program} {l : Launch} {e : Env} {s : State} {m : MethodId} {args : Array Value} {below : List Frame} {meth : Method} {c : Code} {D : va_G} {cA : Nat → ClassId} {ad0 : Nat → Nat} {n0 sz d mc ms : Nat} {P : PO} (hM : FM p l s m args meth c D cA 2 ad0 n0 sz cX6_firstCodeOf RX6 (some .int) [] yX6_firstCodeOf.name) : ∀ q ∈ tX6_firstCodeOf d mc ms P, Snd (jM p l e s m args below meth c D cA 2 ad0 n0 sz (d + 1) mc ms P) q.1 q.2 := by
  have hF := hM.1
  have hts := hF.2.2.2.2.1
  unfold tX6_firstCodeOf
  refine fmS (snd_iloadn hF (k := 1) rfl (by decide +kernel)) ?_
  refine fmS (snd_if_le hF (off := 20) (by decide) (by decide +kernel)) ?_
  refine fmS (snd_iloadn hF (k := 1) rfl (by decide +kernel)) ?_
  refine fmS (snd_bipush hF (n := 8) (by decide +kernel) (by decide +kernel)) ?_
  refine fmS (snd_icmp_gt hF (off := 14) (by decide) (by decide +kernel)) ?_
  refine fmS (snd_aloadn hF (k := 0) rfl (by decide +kernel)) ?_
  refine fmS (snd_getr hF okX6 (k := 2) (by decide) qw264 rfl rfl (by decide +kernel)) ?_
  refine fmS (snd_iloadn hF (k := 1) rfl (by decide +kernel)) ?_
  refine fmS (snd_iconst hF (n := 1) rfl (by decide +kernel)) ?_
  refine fmS (snd_isub hF (by decide +kernel)) ?_
  refine fmS (snd_iaload hF (by decide +kernel)) ?_
  refine fmS (snd_goto hF (off := 4) (by decide) (by decide +kernel)) ?_
  refine fmS (snd_iconst hF (n := 0) rfl (by decide +kernel)) ?_
  refine fmS (snd_retI hM (by decide +kernel)) ?_
  exact fmE
theorem iX6_firstCodeOf {d mc ms n : Nat} {av : List Value} {M : PM} {P : PO} (hw : wid av ≤ 2) (hb : ∀ J : KT, (∀ (k : Nat) (stops : Nat → Bool) (pc : Nat) (lv : LV) (st : List Value) (nn : NN) (M : PM), lk (tX6_firstCodeOf d mc ms P) pc (wpN (tX6_firstCodeOf d mc ms P) stops k J) lv st nn M → J pc lv st nn M) → J 0 (entA 0 av) [] (n, 0, 0) M) : CallOK (d + 1) mc ms yX6_firstCodeOf (Cond.code yX6_firstCodeOf cX6_firstCodeOf 2 (some .int)) av n M P := call_intro (own := RX6) (by decide) rfl hw (fun _ _ _ _ _ _ _ _ _ _ _ _ _ hM => sX6_firstCodeOf hM) hb
def tX6_assign (d mc ms : Nat) (P : PO) : List (Nat × OP) := [(0, oPush (.int 0) 1), (1, oIst 2 2), (2, oAld 0 3), (3, oGr 6 2 6), (6, oIld 1 7), (7, oAi 100 8), (8, oIst 3 9), (9, oAld 0 10), (10, oIld 1 11), (11, oCallV d mc ms P 0 0 yX6_firstCodeOf (Cond.code yX6_firstCodeOf cX6_firstCodeOf 2 (some .int)) 1 6 14), (14, oIst 4 16), (16, oIld 4 18), (18, oIld 3 19), (19, oIc (fun x y => y ≤ x) 125 22), (22, oIld 4 24), (24, oPush (.int 100) 26), (26, oIc (fun x y => y ≤ x) 125 29), (29, oAld 0 30), (30, oGr 6 0 33), (33, oIld 4 35), (35, oAi 100 36), (36, oIst 5 38), (38, oIld 5 40), (40, oCallS d mc ms P 0 0 yX9_isStart (Cond.code yX9_isStart cX9_isStart 1 (some .boolean)) 1 43), (43, oIf (fun x => x = 0) 59 46), (46, oAld 0 47), (47, oGr 6 7 50), (50, oIld 5 52), (52, oPush (.int 100) 54), (54, oI2 (fun x y => x - y) 55), (55, oAi 100 56), (56, oGoto 60), (59, oPush (.int 1) 60), (60, oIst 6 62), (62, oIld 2 63), (63, oIld 6 65), (65, oI2 (fun x y => x + y) 66), (66, oPush (.int 200) 69), (69, oIc (fun x y => x ≤ y) 74 72), (72, oPush (.int 0) 73), (73, oRetZ mc ms P), (74, oIld 5 76), (76, oCallS d mc ms P 0 0 yX9_isStart (Cond.code yX9_isStart cX9_isStart 1 (some .boolean)) 1 79), (79, oIf (fun x => x = 0) 106 82), (82, oAld 0 83), (83, oGr 6 6 86), (86, oIld 5 88), (88, oPush (.int 100) 90), (90, oI2 (fun x y => x - y) 91), (91, oAr 106 92), (92, oPush (.int 0) 93), (93, oAld 0 94), (94, oGr 6 8 97), (97, oIld 2 98), (98, oIld 6 100), (100, oCopy 103), (103, oGoto 114), (106, oAld 0 107), (107, oGr 6 8 110), (110, oIld 2 111), (111, oIld 5 113), (113, oSi 100 (fun x => x) 114), (114, oIld 2 115), (115, oIld 6 117), (117, oI2 (fun x y => x + y) 118), (118, oIst 2 119), (119, oInc 4 1 122), (122, oGoto 16), (125, oAld 0 126), (126, oGr 6 1 129), (129, oIld 1 130), (130, oAi 100 131), (131, oIst 4 133), (133, oAld 0 134), (134, oGr 6 8 137), (137, oPush (.int 0) 138), (138, oAld 0 139), (139, oGr 6 6 142), (142, oIld 4 144), (144, oAr 106 145), (145, oPush (.int 0) 146), (146, oIld 2 147), (147, oCopy 150), (150, oAld 0 151), (151, oGr 6 7 154), (154, oIld 4 156), (156, oIld 2 157), (157, oSi 100 (fun x => x) 158), (158, oAld 0 159), (159, oGr 6 9 162), (162, oIld 4 164), (164, oPush (.int 1) 165), (165, oSi 103 (fun x => vp_nar .boolean x) 166), (166, oPush (.int 1) 167), (167, oRetZ mc ms P)]
set_option maxRecDepth 20000 in
theorem sX6_assign {p : Program} {l : Launch} {e : Env} {s : State} {m : MethodId} {args : Array Value} {below : List Frame} {meth : Method} {c : Code} {D : va_G} {cA : Nat → ClassId} {ad0 : Nat → Nat} {n0 sz d mc ms : Nat} {P : PO} (hM : FM p l s m args meth c D cA 7 ad0 n0 sz cX6_assign RX6 (some .boolean) [] yX6_assign.name) : ∀ q ∈ tX6_assign d mc ms P, Snd (jM p l e s m args below meth c D cA 7 ad0 n0 sz (d + 1) mc ms P) q.1 q.2 := by
  have hF := hM.1
  have hts := hF.2.2.2.2.1
  unfold tX6_assign
  refine fmS (snd_iconst hF (n := 0) rfl (by decide +kernel)) ?_
  refine fmS (snd_istoren hF (k := 2) rfl (by decide) (by decide +kernel)) ?_
  refine fmS (snd_aloadn hF (k := 0) rfl (by decide +kernel)) ?_
  refine fmS (snd_getr hF okX6 (k := 2) (by decide) qw264 rfl rfl (by decide +kernel)) ?_
  refine fmS (snd_iloadn hF (k := 1) rfl (by decide +kernel)) ?_
  refine fmS (snd_iaload hF (by decide +kernel)) ?_
  refine fmS (snd_istoren hF (k := 3) rfl (by decide) (by decide +kernel)) ?_
  refine fmS (snd_aloadn hF (k := 0) rfl (by decide +kernel)) ?_
  refine fmS (snd_iloadn hF (k := 1) rfl (by decide +kernel)) ?_
  refine fmS (snd_callV hM k_X6_firstCodeOf okX6 qw596 qw598 (hts _ qw20) (by decide +kernel)) ?_
  refine fmS (snd_istore hF (by decide) (by decide +kernel)) ?_
  refine fmS (snd_iload hF (by decide +kernel)) ?_
  refine fmS (snd_iloadn hF (k := 3) rfl (by decide +kernel)) ?_
  refine fmS (snd_icmp_ge hF (off := 106) (by decide) (by decide +kernel)) ?_
  refine fmS (snd_iload hF (by decide +kernel)) ?_
  refine fmS (snd_bipush hF (n := 100) (by decide +kernel) (by decide +kernel)) ?_
  refine fmS (snd_icmp_ge hF (off := 99) (by decide) (by decide +kernel)) ?_
  refine fmS (snd_aloadn hF (k := 0) rfl (by decide +kernel)) ?_
  refine fmS (snd_getr hF okX6 (k := 0) (by decide) qw260 rfl rfl (by decide +kernel)) ?_
  refine fmS (snd_iload hF (by decide +kernel)) ?_
  refine fmS (snd_iaload hF (by decide +kernel)) ?_
  refine fmS (snd_istore hF (by decide) (by decide +kernel)) ?_
  refine fmS (snd_iload hF (by decide +kernel)) ?_
  refine fmS (snd_callSN hM k_X9_isStart qw600 qw601 (by decide +kernel)) ?_
  refine fmS (snd_if_eq hF (off := 16) (by decide) (by decide +kernel)) ?_
  refine fmS (snd_aloadn hF (k := 0) rfl (by decide +kernel)) ?_
  refine fmS (snd_getr hF okX6 (k := 7) (by decide) qw275 rfl rfl (by decide +kernel)) ?_
  refine fmS (snd_iload hF (by decide +kernel)) ?_
  refine fmS (snd_bipush hF (n := 100) (by decide +kernel) (by decide +kernel)) ?_
  refine fmS (snd_isub hF (by decide +kernel)) ?_
  refine fmS (snd_iaload hF (by decide +kernel)) ?_
  refine fmS (snd_goto hF (off := 4) (by decide) (by decide +kernel)) ?_
  refine fmS (snd_iconst hF (n := 1) rfl (by decide +kernel)) ?_
  refine fmS (snd_istore hF (by decide) (by decide +kernel)) ?_
  refine fmS (snd_iloadn hF (k := 2) rfl (by decide +kernel)) ?_
  refine fmS (snd_iload hF (by decide +kernel)) ?_
  refine fmS (snd_iadd hF (by decide +kernel)) ?_
  refine fmS (snd_sipush hF (n := 200) (by decide +kernel) (by decide +kernel)) ?_
  refine fmS (snd_icmp_le hF (off := 5) (by decide) (by decide +kernel)) ?_
  refine fmS (snd_iconst hF (n := 0) rfl (by decide +kernel)) ?_
  refine fmS (snd_retZ hM (by decide +kernel)) ?_
  refine fmS (snd_iload hF (by decide +kernel)) ?_
  refine fmS (snd_callSN hM k_X9_isStart qw600 qw601 (by decide +kernel)) ?_
  refine fmS (snd_if_eq hF (off := 27) (by decide) (by decide +kernel)) ?_
  refine fmS (snd_aloadn hF (k := 0) rfl (by decide +kernel)) ?_
  refine fmS (snd_getr hF okX6 (k := 6) (by decide) qw273 rfl rfl (by decide +kernel)) ?_
  refine fmS (snd_iload hF (by decide +kernel)) ?_
  refine fmS (snd_bipush hF (n := 100) (by decide +kernel) (by decide +kernel)) ?_
  refine fmS (snd_isub hF (by decide +kernel)) ?_
  refine fmS (snd_aaload106 hF (by decide +kernel)) ?_
  refine fmS (snd_iconst hF (n := 0) rfl (by decide +kernel)) ?_
  refine fmS (snd_aloadn hF (k := 0) rfl (by decide +kernel)) ?_
  refine fmS (snd_getr hF okX6 (k := 8) (by decide) qw277 rfl rfl (by decide +kernel)) ?_
  refine fmS (snd_iloadn hF (k := 2) rfl (by decide +kernel)) ?_
  refine fmS (snd_iload hF (by decide +kernel)) ?_
  refine fmS (snd_copy hM qw586 qw406 qw405 qw92 (by decide +kernel)) ?_
  refine fmS (snd_goto hF (off := 11) (by decide) (by decide +kernel)) ?_
  refine fmS (snd_aloadn hF (k := 0) rfl (by decide +kernel)) ?_
  refine fmS (snd_getr hF okX6 (k := 8) (by decide) qw277 rfl rfl (by decide +kernel)) ?_
  refine fmS (snd_iloadn hF (k := 2) rfl (by decide +kernel)) ?_
  refine fmS (snd_iload hF (by decide +kernel)) ?_
  refine fmS (snd_iastore hF (by decide +kernel)) ?_
  refine fmS (snd_iloadn hF (k := 2) rfl (by decide +kernel)) ?_
  refine fmS (snd_iload hF (by decide +kernel)) ?_
  refine fmS (snd_iadd hF (by decide +kernel)) ?_
  refine fmS (snd_istoren hF (k := 2) rfl (by decide) (by decide +kernel)) ?_
  refine fmS (snd_iinc hF (n := 1) (by decide +kernel) (by decide) (by decide +kernel)) ?_
  refine fmS (snd_goto hF (off := (-106)) (by decide) (by decide +kernel)) ?_
  refine fmS (snd_aloadn hF (k := 0) rfl (by decide +kernel)) ?_
  refine fmS (snd_getr hF okX6 (k := 1) (by decide) qw262 rfl rfl (by decide +kernel)) ?_
  refine fmS (snd_iloadn hF (k := 1) rfl (by decide +kernel)) ?_
  refine fmS (snd_iaload hF (by decide +kernel)) ?_
  refine fmS (snd_istore hF (by decide) (by decide +kernel)) ?_
  refine fmS (snd_aloadn hF (k := 0) rfl (by decide +kernel)) ?_
  refine fmS (snd_getr hF okX6 (k := 8) (by decide) qw277 rfl rfl (by decide +kernel)) ?_
  refine fmS (snd_iconst hF (n := 0) rfl (by decide +kernel)) ?_
  refine fmS (snd_aloadn hF (k := 0) rfl (by decide +kernel)) ?_
  refine fmS (snd_getr hF okX6 (k := 6) (by decide) qw273 rfl rfl (by decide +kernel)) ?_
  refine fmS (snd_iload hF (by decide +kernel)) ?_
  refine fmS (snd_aaload106 hF (by decide +kernel)) ?_
  refine fmS (snd_iconst hF (n := 0) rfl (by decide +kernel)) ?_
  refine fmS (snd_iloadn hF (k := 2) rfl (by decide +kernel)) ?_
  refine fmS (snd_copy hM qw586 qw406 qw405 qw92 (by decide +kernel)) ?_
  refine fmS (snd_aloadn hF (k := 0) rfl (by decide +kernel)) ?_
  refine fmS (snd_getr hF okX6 (k := 7) (by decide) qw275 rfl rfl (by decide +kernel)) ?_
  refine fmS (snd_iload hF (by decide +kernel)) ?_
  refine fmS (snd_iloadn hF (k := 2) rfl (by decide +kernel)) ?_
  refine fmS (snd_iastore hF (by decide +kernel)) ?_
  refine fmS (snd_aloadn hF (k := 0) rfl (by decide +kernel)) ?_
  refine fmS (snd_getr hF okX6 (k := 9) (by decide) qw278 rfl rfl (by decide +kernel)) ?_
  refine fmS (snd_iload hF (by decide +kernel)) ?_
  refine fmS (snd_iconst hF (n := 1) rfl (by decide +kernel)) ?_
  refine fmS (snd_bastore hF (by decide +kernel)) ?_
  refine fmS (snd_iconst hF (n := 1) rfl (by decide +kernel)) ?_
  refine fmS (snd_retZ hM (by decide +kernel)) ?_
  exact fmE
theorem iX6_assign {d mc ms n : Nat} {av : List Value} {M : PM} {P : PO} (hw : wid av ≤ 7) (hb : ∀ J : KT, (∀ (k : Nat) (stops : Nat → Bool) (pc : Nat) (lv : LV) (st : List Value) (nn : NN) (M : PM), lk (tX6_assign d mc ms P) pc (wpN (tX6_assign d mc ms P) stops k J) lv st nn M → J pc lv st nn M) → J 0 (entA 0 av) [] (n, 0, 0) M) : CallOK (d + 1) mc ms yX6_assign (Cond.code yX6_assign cX6_assign 7 (some .boolean)) av n M P := call_intro (own := RX6) (by decide) rfl hw (fun _ _ _ _ _ _ _ _ _ _ _ _ _ hM => sX6_assign hM) hb
def tX6_classify (d mc ms : Nat) (P : PO) : List (Nat × OP) := [(0, oPush (.int 0) 1), (1, oIst 2 2), (2, oIld 2 3), (3, oPush (.int 8) 5), (5, oIc (fun x y => y ≤ x) 25 8), (8, oAld 0 9), (9, oGr 6 10 12), (12, oIld 2 13), (13, oAld 0 14), (14, oIld 2 15), (15, oCallV d mc ms P 0 0 yX6_maskOf (Cond.code yX6_maskOf cX6_maskOf 5 (some .int)) 1 6 18), (18, oSi 100 (fun x => x) 19), (19, oInc 2 1 22), (22, oGoto 2), (25, oAld 0 26), (26, oPush (.int 0) 27), (27, oPi 6 14 30), (30, oAld 0 31), (31, oPush (.int 1) 32), (32, oPz 6 15 35), (35, oPush (.int 0) 36), (36, oIst 2 37), (37, oIld 2 38), (38, oPush (.int 8) 40), (40, oIc (fun x y => y ≤ x) 93 43), (43, oAld 0 44), (44, oIld 2 45), (45, oAld 1 46), (46, oCallV d mc ms P 0 0 yX6_kindOf (Cond.code yX6_kindOf cX6_kindOf 5 (some .int)) 2 6 49), (49, oIst 3 50), (50, oAld 0 51), (51, oGr 6 11 54), (54, oIld 2 55), (55, oIld 3 56), (56, oSi 100 (fun x => x) 57), (57, oIld 3 58), (58, oPush (.int 2) 59), (59, oIc (fun x y => x = y) 62 72), (62, oAld 0 63), (63, oDup 64), (64, oGi 6 14 67), (67, oPush (.int 1) 68), (68, oI2 (fun x y => x + y) 69), (69, oPi 6 14 72), (72, oIld 3 73), (73, oPush (.int 3) 74), (74, oIc (fun x y => x = y) 82 77), (77, oIld 3 78), (78, oPush (.int 4) 79), (79, oIc (fun x y => x = y) 82 87), (82, oAld 0 83), (83, oPush (.int 0) 84), (84, oPz 6 15 87), (87, oInc 2 1 90), (90, oGoto 37), (93, oRetV mc ms P)]
set_option maxRecDepth 20000 in
theorem sX6_classify {p : Program} {l : Launch} {e : Env} {s : State} {m : MethodId} {args : Array Value} {below : List Frame} {meth : Method} {c : Code} {D : va_G} {cA : Nat → ClassId} {ad0 : Nat → Nat} {n0 sz d mc ms : Nat} {P : PO} (hM : FM p l s m args meth c D cA 4 ad0 n0 sz cX6_classify RX6 none [] yX6_classify.name) : ∀ q ∈ tX6_classify d mc ms P, Snd (jM p l e s m args below meth c D cA 4 ad0 n0 sz (d + 1) mc ms P) q.1 q.2 := by
  have hF := hM.1
  have hts := hF.2.2.2.2.1
  unfold tX6_classify
  refine fmS (snd_iconst hF (n := 0) rfl (by decide +kernel)) ?_
  refine fmS (snd_istoren hF (k := 2) rfl (by decide) (by decide +kernel)) ?_
  refine fmS (snd_iloadn hF (k := 2) rfl (by decide +kernel)) ?_
  refine fmS (snd_bipush hF (n := 8) (by decide +kernel) (by decide +kernel)) ?_
  refine fmS (snd_icmp_ge hF (off := 20) (by decide) (by decide +kernel)) ?_
  refine fmS (snd_aloadn hF (k := 0) rfl (by decide +kernel)) ?_
  refine fmS (snd_getr hF okX6 (k := 10) (by decide) qw279 rfl rfl (by decide +kernel)) ?_
  refine fmS (snd_iloadn hF (k := 2) rfl (by decide +kernel)) ?_
  refine fmS (snd_aloadn hF (k := 0) rfl (by decide +kernel)) ?_
  refine fmS (snd_iloadn hF (k := 2) rfl (by decide +kernel)) ?_
  refine fmS (snd_callV hM k_X6_maskOf okX6 qw608 qw610 (hts _ qw22) (by decide +kernel)) ?_
  refine fmS (snd_iastore hF (by decide +kernel)) ?_
  refine fmS (snd_iinc hF (n := 1) (by decide +kernel) (by decide) (by decide +kernel)) ?_
  refine fmS (snd_goto hF (off := (-20)) (by decide) (by decide +kernel)) ?_
  refine fmS (snd_aloadn hF (k := 0) rfl (by decide +kernel)) ?_
  refine fmS (snd_iconst hF (n := 0) rfl (by decide +kernel)) ?_
  refine fmS (snd_puti hF okX6 (k := 14) (by decide) qw289 rfl rfl rfl rfl (by decide +kernel)) ?_
  refine fmS (snd_aloadn hF (k := 0) rfl (by decide +kernel)) ?_
  refine fmS (snd_iconst hF (n := 1) rfl (by decide +kernel)) ?_
  refine fmS (snd_putz hF okX6 (k := 15) (by decide) qw291 rfl rfl rfl rfl (by decide +kernel)) ?_
  refine fmS (snd_iconst hF (n := 0) rfl (by decide +kernel)) ?_
  refine fmS (snd_istoren hF (k := 2) rfl (by decide) (by decide +kernel)) ?_
  refine fmS (snd_iloadn hF (k := 2) rfl (by decide +kernel)) ?_
  refine fmS (snd_bipush hF (n := 8) (by decide +kernel) (by decide +kernel)) ?_
  refine fmS (snd_icmp_ge hF (off := 53) (by decide) (by decide +kernel)) ?_
  refine fmS (snd_aloadn hF (k := 0) rfl (by decide +kernel)) ?_
  refine fmS (snd_iloadn hF (k := 2) rfl (by decide +kernel)) ?_
  refine fmS (snd_aloadn hF (k := 1) rfl (by decide +kernel)) ?_
  refine fmS (snd_callV hM k_X6_kindOf okX6 qw612 qw614 (hts _ qw23) (by decide +kernel)) ?_
  refine fmS (snd_istoren hF (k := 3) rfl (by decide) (by decide +kernel)) ?_
  refine fmS (snd_aloadn hF (k := 0) rfl (by decide +kernel)) ?_
  refine fmS (snd_getr hF okX6 (k := 11) (by decide) qw281 rfl rfl (by decide +kernel)) ?_
  refine fmS (snd_iloadn hF (k := 2) rfl (by decide +kernel)) ?_
  refine fmS (snd_iloadn hF (k := 3) rfl (by decide +kernel)) ?_
  refine fmS (snd_iastore hF (by decide +kernel)) ?_
  refine fmS (snd_iloadn hF (k := 3) rfl (by decide +kernel)) ?_
  refine fmS (snd_iconst hF (n := 2) rfl (by decide +kernel)) ?_
  refine fmS (snd_icmp_ne hF (off := 13) (by decide) (by decide +kernel)) ?_
  refine fmS (snd_aloadn hF (k := 0) rfl (by decide +kernel)) ?_
  refine fmS (snd_dup hF (by decide +kernel)) ?_
  refine fmS (snd_geti hF okX6 (k := 14) (by decide) qw289 rfl rfl (by decide +kernel)) ?_
  refine fmS (snd_iconst hF (n := 1) rfl (by decide +kernel)) ?_
  refine fmS (snd_iadd hF (by decide +kernel)) ?_
  refine fmS (snd_puti hF okX6 (k := 14) (by decide) qw289 rfl rfl rfl rfl (by decide +kernel)) ?_
  refine fmS (snd_iloadn hF (k := 3) rfl (by decide +kernel)) ?_
  refine fmS (snd_iconst hF (n := 3) rfl (by decide +kernel)) ?_
  refine fmS (snd_icmp_eq hF (off := 8) (by decide) (by decide +kernel)) ?_
  refine fmS (snd_iloadn hF (k := 3) rfl (by decide +kernel)) ?_
  refine fmS (snd_iconst hF (n := 4) rfl (by decide +kernel)) ?_
  refine fmS (snd_icmp_ne hF (off := 8) (by decide) (by decide +kernel)) ?_
  refine fmS (snd_aloadn hF (k := 0) rfl (by decide +kernel)) ?_
  refine fmS (snd_iconst hF (n := 0) rfl (by decide +kernel)) ?_
  refine fmS (snd_putz hF okX6 (k := 15) (by decide) qw291 rfl rfl rfl rfl (by decide +kernel)) ?_
  refine fmS (snd_iinc hF (n := 1) (by decide +kernel) (by decide) (by decide +kernel)) ?_
  refine fmS (snd_goto hF (off := (-53)) (by decide) (by decide +kernel)) ?_
  refine fmS (snd_retV hM (by decide +kernel)) ?_
  exact fmE
theorem iX6_classify {d mc ms n : Nat} {av : List Value} {M : PM} {P : PO} (hw : wid av ≤ 4) (hb : ∀ J : KT, (∀ (k : Nat) (stops : Nat → Bool) (pc : Nat) (lv : LV) (st : List Value) (nn : NN) (M : PM), lk (tX6_classify d mc ms P) pc (wpN (tX6_classify d mc ms P) stops k J) lv st nn M → J pc lv st nn M) → J 0 (entA 0 av) [] (n, 0, 0) M) : CallOK (d + 1) mc ms yX6_classify (Cond.code yX6_classify cX6_classify 4 none) av n M P := call_intro (own := RX6) (by decide) rfl hw (fun _ _ _ _ _ _ _ _ _ _ _ _ _ hM => sX6_classify hM) hb
def tX6_maskOf (d mc ms : Nat) (P : PO) : List (Nat × OP) := [(0, oPush (.int 0) 1), (1, oIst 2 2), (2, oPush (.int 0) 3), (3, oIst 3 4), (4, oIld 3 5), (5, oAld 0 6), (6, oGr 6 7 9), (9, oIld 1 10), (10, oAi 100 11), (11, oIc (fun x y => y ≤ x) 55 14), (14, oIld 3 15), (15, oPush (.int 200) 18), (18, oIc (fun x y => y ≤ x) 55 21), (21, oAld 0 22), (22, oGr 6 6 25), (25, oIld 1 26), (26, oAr 106 27), (27, oIld 3 28), (28, oAi 100 29), (29, oIst 4 31), (31, oIld 4 33), (33, oCallS d mc ms P 0 0 yX9_isStart (Cond.code yX9_isStart cX9_isStart 1 (some .boolean)) 1 36), (36, oIf (fun x => x = 0) 49 39), (39, oIld 2 40), (40, oPush (.int 1) 41), (41, oIld 4 43), (43, oPush (.int 100) 45), (45, oI2 (fun x y => x - y) 46), (46, oI2 (fun x y => x <<< (y &&& 31)) 47), (47, oI2 (fun x y => x ||| y) 48), (48, oIst 2 49), (49, oInc 3 1 52), (52, oGoto 4), (55, oIld 2 56), (56, oRetI mc ms P)]
set_option maxRecDepth 20000 in
theorem sX6_maskOf {p : Program} {l : Launch} {e : Env} {s : State} {m : MethodId} {args : Array Value} {below : List Frame} {meth : Method} {c : Code} {D : va_G} {cA : Nat → ClassId} {ad0 : Nat → Nat} {n0 sz d mc ms : Nat} {P : PO} (hM : FM p l s m args meth c D cA 5 ad0 n0 sz cX6_maskOf RX6 (some .int) [] yX6_maskOf.name) : ∀ q ∈ tX6_maskOf d mc ms P, Snd (jM p l e s m args below meth c D cA 5 ad0 n0 sz (d + 1) mc ms P) q.1 q.2 := by
  have hF := hM.1
  have hts := hF.2.2.2.2.1
  unfold tX6_maskOf
  refine fmS (snd_iconst hF (n := 0) rfl (by decide +kernel)) ?_
  refine fmS (snd_istoren hF (k := 2) rfl (by decide) (by decide +kernel)) ?_
  refine fmS (snd_iconst hF (n := 0) rfl (by decide +kernel)) ?_
  refine fmS (snd_istoren hF (k := 3) rfl (by decide) (by decide +kernel)) ?_
  refine fmS (snd_iloadn hF (k := 3) rfl (by decide +kernel)) ?_
  refine fmS (snd_aloadn hF (k := 0) rfl (by decide +kernel)) ?_
  refine fmS (snd_getr hF okX6 (k := 7) (by decide) qw275 rfl rfl (by decide +kernel)) ?_
  refine fmS (snd_iloadn hF (k := 1) rfl (by decide +kernel)) ?_
  refine fmS (snd_iaload hF (by decide +kernel)) ?_
  refine fmS (snd_icmp_ge hF (off := 44) (by decide) (by decide +kernel)) ?_
  refine fmS (snd_iloadn hF (k := 3) rfl (by decide +kernel)) ?_
  refine fmS (snd_sipush hF (n := 200) (by decide +kernel) (by decide +kernel)) ?_
  refine fmS (snd_icmp_ge hF (off := 37) (by decide) (by decide +kernel)) ?_
  refine fmS (snd_aloadn hF (k := 0) rfl (by decide +kernel)) ?_
  refine fmS (snd_getr hF okX6 (k := 6) (by decide) qw273 rfl rfl (by decide +kernel)) ?_
  refine fmS (snd_iloadn hF (k := 1) rfl (by decide +kernel)) ?_
  refine fmS (snd_aaload106 hF (by decide +kernel)) ?_
  refine fmS (snd_iloadn hF (k := 3) rfl (by decide +kernel)) ?_
  refine fmS (snd_iaload hF (by decide +kernel)) ?_
  refine fmS (snd_istore hF (by decide) (by decide +kernel)) ?_
  refine fmS (snd_iload hF (by decide +kernel)) ?_
  refine fmS (snd_callSN hM k_X9_isStart qw600 qw601 (by decide +kernel)) ?_
  refine fmS (snd_if_eq hF (off := 13) (by decide) (by decide +kernel)) ?_
  refine fmS (snd_iloadn hF (k := 2) rfl (by decide +kernel)) ?_
  refine fmS (snd_iconst hF (n := 1) rfl (by decide +kernel)) ?_
  refine fmS (snd_iload hF (by decide +kernel)) ?_
  refine fmS (snd_bipush hF (n := 100) (by decide +kernel) (by decide +kernel)) ?_
  refine fmS (snd_isub hF (by decide +kernel)) ?_
  refine fmS (snd_ishl hF (by decide +kernel)) ?_
  refine fmS (snd_ior hF (by decide +kernel)) ?_
  refine fmS (snd_istoren hF (k := 2) rfl (by decide) (by decide +kernel)) ?_
  refine fmS (snd_iinc hF (n := 1) (by decide +kernel) (by decide) (by decide +kernel)) ?_
  refine fmS (snd_goto hF (off := (-48)) (by decide) (by decide +kernel)) ?_
  refine fmS (snd_iloadn hF (k := 2) rfl (by decide +kernel)) ?_
  refine fmS (snd_retI hM (by decide +kernel)) ?_
  exact fmE
theorem iX6_maskOf {d mc ms n : Nat} {av : List Value} {M : PM} {P : PO} (hw : wid av ≤ 5) (hb : ∀ J : KT, (∀ (k : Nat) (stops : Nat → Bool) (pc : Nat) (lv : LV) (st : List Value) (nn : NN) (M : PM), lk (tX6_maskOf d mc ms P) pc (wpN (tX6_maskOf d mc ms P) stops k J) lv st nn M → J pc lv st nn M) → J 0 (entA 0 av) [] (n, 0, 0) M) : CallOK (d + 1) mc ms yX6_maskOf (Cond.code yX6_maskOf cX6_maskOf 5 (some .int)) av n M P := call_intro (own := RX6) (by decide) rfl hw (fun _ _ _ _ _ _ _ _ _ _ _ _ _ hM => sX6_maskOf hM) hb
def tX6_kindOf (d mc ms : Nat) (P : PO) : List (Nat × OP) := [(0, oAld 0 1), (1, oGr 6 9 4), (4, oIld 1 5), (5, oAi 103 6), (6, oIf (fun x => x = 0) 9 11), (9, oPush (.int 0) 10), (10, oRetI mc ms P), (11, oAld 0 12), (12, oGr 6 10 15), (15, oIld 1 16), (16, oAi 100 17), (17, oIld 1 18), (18, oI2 (fun x y => x >>> (y &&& 31)) 19), (19, oPush (.int 1) 20), (20, oI2 (fun x y => x &&& y) 21), (21, oIf (fun x => x = 0) 28 24), (24, oPush (.int 1) 25), (25, oGoto 29), (28, oPush (.int 0) 29), (29, oIst 3 30), (30, oAld 0 31), (31, oIld 1 32), (32, oCallV d mc ms P 0 0 yX6_occursInOthers (Cond.code yX6_occursInOthers cX6_occursInOthers 3 (some .boolean)) 1 6 35), (35, oIst 4 37), (37, oIld 3 38), (38, oIf (fun x => x = 0) 41 48), (41, oIld 4 43), (43, oIf (fun x => x = 0) 46 48), (46, oPush (.int 1) 47), (47, oRetI mc ms P), (48, oAld 0 49), (49, oIld 1 50), (50, oAld 2 51), (51, oCallV d mc ms P 0 0 yX6_findChain (Cond.code yX6_findChain cX6_findChain 5 (some .boolean)) 2 6 54), (54, oIf (fun x => x = 0) 57 59), (57, oPush (.int 4) 58), (58, oRetI mc ms P), (59, oIld 4 61), (61, oIf (fun x => x = 0) 68 64), (64, oPush (.int 3) 65), (65, oGoto 69), (68, oPush (.int 2) 69), (69, oRetI mc ms P)]
set_option maxRecDepth 20000 in
theorem sX6_kindOf {p : Program} {l : Launch} {e : Env} {s : State} {m : MethodId} {args : Array Value} {below : List Frame} {meth : Method} {c : Code} {D : va_G} {cA : Nat → ClassId} {ad0 : Nat → Nat} {n0 sz d mc ms : Nat} {P : PO} (hM : FM p l s m args meth c D cA 5 ad0 n0 sz cX6_kindOf RX6 (some .int) [] yX6_kindOf.name) : ∀ q ∈ tX6_kindOf d mc ms P, Snd (jM p l e s m args below meth c D cA 5 ad0 n0 sz (d + 1) mc ms P) q.1 q.2 := by
  have hF := hM.1
  have hts := hF.2.2.2.2.1
  unfold tX6_kindOf
  refine fmS (snd_aloadn hF (k := 0) rfl (by decide +kernel)) ?_
  refine fmS (snd_getr hF okX6 (k := 9) (by decide) qw278 rfl rfl (by decide +kernel)) ?_
  refine fmS (snd_iloadn hF (k := 1) rfl (by decide +kernel)) ?_
  refine fmS (snd_baload hF (by decide +kernel)) ?_
  refine fmS (snd_if_ne hF (off := 5) (by decide) (by decide +kernel)) ?_
  refine fmS (snd_iconst hF (n := 0) rfl (by decide +kernel)) ?_
  refine fmS (snd_retI hM (by decide +kernel)) ?_
  refine fmS (snd_aloadn hF (k := 0) rfl (by decide +kernel)) ?_
  refine fmS (snd_getr hF okX6 (k := 10) (by decide) qw279 rfl rfl (by decide +kernel)) ?_
  refine fmS (snd_iloadn hF (k := 1) rfl (by decide +kernel)) ?_
  refine fmS (snd_iaload hF (by decide +kernel)) ?_
  refine fmS (snd_iloadn hF (k := 1) rfl (by decide +kernel)) ?_
  refine fmS (snd_ishr hF (by decide +kernel)) ?_
  refine fmS (snd_iconst hF (n := 1) rfl (by decide +kernel)) ?_
  refine fmS (snd_iand hF (by decide +kernel)) ?_
  refine fmS (snd_if_eq hF (off := 7) (by decide) (by decide +kernel)) ?_
  refine fmS (snd_iconst hF (n := 1) rfl (by decide +kernel)) ?_
  refine fmS (snd_goto hF (off := 4) (by decide) (by decide +kernel)) ?_
  refine fmS (snd_iconst hF (n := 0) rfl (by decide +kernel)) ?_
  refine fmS (snd_istoren hF (k := 3) rfl (by decide) (by decide +kernel)) ?_
  refine fmS (snd_aloadn hF (k := 0) rfl (by decide +kernel)) ?_
  refine fmS (snd_iloadn hF (k := 1) rfl (by decide +kernel)) ?_
  refine fmS (snd_callV hM k_X6_occursInOthers okX6 qw616 qw618 (hts _ qw24) (by decide +kernel)) ?_
  refine fmS (snd_istore hF (by decide) (by decide +kernel)) ?_
  refine fmS (snd_iloadn hF (k := 3) rfl (by decide +kernel)) ?_
  refine fmS (snd_if_ne hF (off := 10) (by decide) (by decide +kernel)) ?_
  refine fmS (snd_iload hF (by decide +kernel)) ?_
  refine fmS (snd_if_ne hF (off := 5) (by decide) (by decide +kernel)) ?_
  refine fmS (snd_iconst hF (n := 1) rfl (by decide +kernel)) ?_
  refine fmS (snd_retI hM (by decide +kernel)) ?_
  refine fmS (snd_aloadn hF (k := 0) rfl (by decide +kernel)) ?_
  refine fmS (snd_iloadn hF (k := 1) rfl (by decide +kernel)) ?_
  refine fmS (snd_aloadn hF (k := 2) rfl (by decide +kernel)) ?_
  refine fmS (snd_callV hM k_X6_findChain okX6 qw620 qw622 (hts _ qw25) (by decide +kernel)) ?_
  refine fmS (snd_if_ne hF (off := 5) (by decide) (by decide +kernel)) ?_
  refine fmS (snd_iconst hF (n := 4) rfl (by decide +kernel)) ?_
  refine fmS (snd_retI hM (by decide +kernel)) ?_
  refine fmS (snd_iload hF (by decide +kernel)) ?_
  refine fmS (snd_if_eq hF (off := 7) (by decide) (by decide +kernel)) ?_
  refine fmS (snd_iconst hF (n := 3) rfl (by decide +kernel)) ?_
  refine fmS (snd_goto hF (off := 4) (by decide) (by decide +kernel)) ?_
  refine fmS (snd_iconst hF (n := 2) rfl (by decide +kernel)) ?_
  refine fmS (snd_retI hM (by decide +kernel)) ?_
  exact fmE
theorem iX6_kindOf {d mc ms n : Nat} {av : List Value} {M : PM} {P : PO} (hw : wid av ≤ 5) (hb : ∀ J : KT, (∀ (k : Nat) (stops : Nat → Bool) (pc : Nat) (lv : LV) (st : List Value) (nn : NN) (M : PM), lk (tX6_kindOf d mc ms P) pc (wpN (tX6_kindOf d mc ms P) stops k J) lv st nn M → J pc lv st nn M) → J 0 (entA 0 av) [] (n, 0, 0) M) : CallOK (d + 1) mc ms yX6_kindOf (Cond.code yX6_kindOf cX6_kindOf 5 (some .int)) av n M P := call_intro (own := RX6) (by decide) rfl hw (fun _ _ _ _ _ _ _ _ _ _ _ _ _ hM => sX6_kindOf hM) hb
def tX6_occursInOthers (d mc ms : Nat) (P : PO) : List (Nat × OP) := [(0, oPush (.int 0) 1), (1, oIst 2 2), (2, oIld 2 3), (3, oPush (.int 8) 5), (5, oIc (fun x y => y ≤ x) 43 8), (8, oIld 2 9), (9, oIld 1 10), (10, oIc (fun x y => x = y) 37 13), (13, oAld 0 14), (14, oGr 6 9 17), (17, oIld 2 18), (18, oAi 103 19), (19, oIf (fun x => x = 0) 37 22), (22, oAld 0 23), (23, oGr 6 10 26), (26, oIld 2 27), (27, oAi 100 28), (28, oIld 1 29), (29, oI2 (fun x y => x >>> (y &&& 31)) 30), (30, oPush (.int 1) 31), (31, oI2 (fun x y => x &&& y) 32), (32, oIf (fun x => x = 0) 37 35), (35, oPush (.int 1) 36), (36, oRetZ mc ms P), (37, oInc 2 1 40), (40, oGoto 2), (43, oPush (.int 0) 44), (44, oRetZ mc ms P)]
set_option maxRecDepth 20000 in
theorem sX6_occursInOthers {p : Program} {l : Launch} {e : Env} {s : State} {m : MethodId} {args : Array Value} {below : List Frame} {meth : Method} {c : Code} {D : va_G} {cA : Nat → ClassId} {ad0 : Nat → Nat} {n0 sz d mc ms : Nat} {P : PO} (hM : FM p l s m args meth c D cA 3 ad0 n0 sz cX6_occursInOthers RX6 (some .boolean) [] yX6_occursInOthers.name) : ∀ q ∈ tX6_occursInOthers d mc ms P, Snd (jM p l e s m args below meth c D cA 3 ad0 n0 sz (d + 1) mc ms P) q.1 q.2 := by
  have hF := hM.1
  have hts := hF.2.2.2.2.1
  unfold tX6_occursInOthers
  refine fmS (snd_iconst hF (n := 0) rfl (by decide +kernel)) ?_
  refine fmS (snd_istoren hF (k := 2) rfl (by decide) (by decide +kernel)) ?_
  refine fmS (snd_iloadn hF (k := 2) rfl (by decide +kernel)) ?_
  refine fmS (snd_bipush hF (n := 8) (by decide +kernel) (by decide +kernel)) ?_
  refine fmS (snd_icmp_ge hF (off := 38) (by decide) (by decide +kernel)) ?_
  refine fmS (snd_iloadn hF (k := 2) rfl (by decide +kernel)) ?_
  refine fmS (snd_iloadn hF (k := 1) rfl (by decide +kernel)) ?_
  refine fmS (snd_icmp_eq hF (off := 27) (by decide) (by decide +kernel)) ?_
  refine fmS (snd_aloadn hF (k := 0) rfl (by decide +kernel)) ?_
  refine fmS (snd_getr hF okX6 (k := 9) (by decide) qw278 rfl rfl (by decide +kernel)) ?_
  refine fmS (snd_iloadn hF (k := 2) rfl (by decide +kernel)) ?_
  refine fmS (snd_baload hF (by decide +kernel)) ?_
  refine fmS (snd_if_eq hF (off := 18) (by decide) (by decide +kernel)) ?_
  refine fmS (snd_aloadn hF (k := 0) rfl (by decide +kernel)) ?_
  refine fmS (snd_getr hF okX6 (k := 10) (by decide) qw279 rfl rfl (by decide +kernel)) ?_
  refine fmS (snd_iloadn hF (k := 2) rfl (by decide +kernel)) ?_
  refine fmS (snd_iaload hF (by decide +kernel)) ?_
  refine fmS (snd_iloadn hF (k := 1) rfl (by decide +kernel)) ?_
  refine fmS (snd_ishr hF (by decide +kernel)) ?_
  refine fmS (snd_iconst hF (n := 1) rfl (by decide +kernel)) ?_
  refine fmS (snd_iand hF (by decide +kernel)) ?_
  refine fmS (snd_if_eq hF (off := 5) (by decide) (by decide +kernel)) ?_
  refine fmS (snd_iconst hF (n := 1) rfl (by decide +kernel)) ?_
  refine fmS (snd_retZ hM (by decide +kernel)) ?_
  refine fmS (snd_iinc hF (n := 1) (by decide +kernel) (by decide) (by decide +kernel)) ?_
  refine fmS (snd_goto hF (off := (-38)) (by decide) (by decide +kernel)) ?_
  refine fmS (snd_iconst hF (n := 0) rfl (by decide +kernel)) ?_
  refine fmS (snd_retZ hM (by decide +kernel)) ?_
  exact fmE
theorem iX6_occursInOthers {d mc ms n : Nat} {av : List Value} {M : PM} {P : PO} (hw : wid av ≤ 3) (hb : ∀ J : KT, (∀ (k : Nat) (stops : Nat → Bool) (pc : Nat) (lv : LV) (st : List Value) (nn : NN) (M : PM), lk (tX6_occursInOthers d mc ms P) pc (wpN (tX6_occursInOthers d mc ms P) stops k J) lv st nn M → J pc lv st nn M) → J 0 (entA 0 av) [] (n, 0, 0) M) : CallOK (d + 1) mc ms yX6_occursInOthers (Cond.code yX6_occursInOthers cX6_occursInOthers 3 (some .boolean)) av n M P := call_intro (own := RX6) (by decide) rfl hw (fun _ _ _ _ _ _ _ _ _ _ _ _ _ hM => sX6_occursInOthers hM) hb
def tX6_findChain (d mc ms : Nat) (P : PO) : List (Nat × OP) := [(0, oPush (.int 0) 1), (1, oIst 3 2), (2, oIld 3 3), (3, oPush (.int 7) 5), (5, oIc (fun x y => y ≤ x) 63 8), (8, oAld 2 9), (9, oAld 0 10), (10, oGr 6 6 13), (13, oIld 1 14), (14, oAr 106 15), (15, oAld 0 16), (16, oGr 6 7 19), (19, oIld 1 20), (20, oAi 100 21), (21, oPush (.int 100) 23), (23, oIld 1 24), (24, oI2 (fun x y => x + y) 25), (25, oPush (.int 300) 28), (28, oIld 3 29), (29, oI2 (fun x y => x + y) 30), (30, oCallV d mc ms P 0 0 yX0_countTerms (Cond.code yX0_countTerms cX0_countTerms 5 (some .int)) 4 0 33), (33, oIst 4 35), (35, oIld 4 37), (37, oIf (fun x => x < 0) 57 40), (40, oAld 0 41), (41, oGr 6 12 44), (44, oIld 1 45), (45, oIld 3 46), (46, oSi 100 (fun x => x) 47), (47, oAld 0 48), (48, oGr 6 13 51), (51, oIld 1 52), (52, oIld 4 54), (54, oSi 100 (fun x => x) 55), (55, oPush (.int 1) 56), (56, oRetZ mc ms P), (57, oInc 3 1 60), (60, oGoto 2), (63, oPush (.int 0) 64), (64, oRetZ mc ms P)]
set_option maxRecDepth 20000 in
theorem sX6_findChain {p : Program} {l : Launch} {e : Env} {s : State} {m : MethodId} {args : Array Value} {below : List Frame} {meth : Method} {c : Code} {D : va_G} {cA : Nat → ClassId} {ad0 : Nat → Nat} {n0 sz d mc ms : Nat} {P : PO} (hM : FM p l s m args meth c D cA 5 ad0 n0 sz cX6_findChain RX6 (some .boolean) [] yX6_findChain.name) : ∀ q ∈ tX6_findChain d mc ms P, Snd (jM p l e s m args below meth c D cA 5 ad0 n0 sz (d + 1) mc ms P) q.1 q.2 := by
  have hF := hM.1
  have hts := hF.2.2.2.2.1
  unfold tX6_findChain
  refine fmS (snd_iconst hF (n := 0) rfl (by decide +kernel)) ?_
  refine fmS (snd_istoren hF (k := 3) rfl (by decide) (by decide +kernel)) ?_
  refine fmS (snd_iloadn hF (k := 3) rfl (by decide +kernel)) ?_
  refine fmS (snd_bipush hF (n := 7) (by decide +kernel) (by decide +kernel)) ?_
  refine fmS (snd_icmp_ge hF (off := 58) (by decide) (by decide +kernel)) ?_
  refine fmS (snd_aloadn hF (k := 2) rfl (by decide +kernel)) ?_
  refine fmS (snd_aloadn hF (k := 0) rfl (by decide +kernel)) ?_
  refine fmS (snd_getr hF okX6 (k := 6) (by decide) qw273 rfl rfl (by decide +kernel)) ?_
  refine fmS (snd_iloadn hF (k := 1) rfl (by decide +kernel)) ?_
  refine fmS (snd_aaload106 hF (by decide +kernel)) ?_
  refine fmS (snd_aloadn hF (k := 0) rfl (by decide +kernel)) ?_
  refine fmS (snd_getr hF okX6 (k := 7) (by decide) qw275 rfl rfl (by decide +kernel)) ?_
  refine fmS (snd_iloadn hF (k := 1) rfl (by decide +kernel)) ?_
  refine fmS (snd_iaload hF (by decide +kernel)) ?_
  refine fmS (snd_bipush hF (n := 100) (by decide +kernel) (by decide +kernel)) ?_
  refine fmS (snd_iloadn hF (k := 1) rfl (by decide +kernel)) ?_
  refine fmS (snd_iadd hF (by decide +kernel)) ?_
  refine fmS (snd_sipush hF (n := 300) (by decide +kernel) (by decide +kernel)) ?_
  refine fmS (snd_iloadn hF (k := 3) rfl (by decide +kernel)) ?_
  refine fmS (snd_iadd hF (by decide +kernel)) ?_
  refine fmS (snd_callVN hM k_X0_countTerms okX0 qw624 qw626 (hts _ qw26) (by decide +kernel)) ?_
  refine fmS (snd_istore hF (by decide) (by decide +kernel)) ?_
  refine fmS (snd_iload hF (by decide +kernel)) ?_
  refine fmS (snd_if_lt hF (off := 20) (by decide) (by decide +kernel)) ?_
  refine fmS (snd_aloadn hF (k := 0) rfl (by decide +kernel)) ?_
  refine fmS (snd_getr hF okX6 (k := 12) (by decide) qw284 rfl rfl (by decide +kernel)) ?_
  refine fmS (snd_iloadn hF (k := 1) rfl (by decide +kernel)) ?_
  refine fmS (snd_iloadn hF (k := 3) rfl (by decide +kernel)) ?_
  refine fmS (snd_iastore hF (by decide +kernel)) ?_
  refine fmS (snd_aloadn hF (k := 0) rfl (by decide +kernel)) ?_
  refine fmS (snd_getr hF okX6 (k := 13) (by decide) qw287 rfl rfl (by decide +kernel)) ?_
  refine fmS (snd_iloadn hF (k := 1) rfl (by decide +kernel)) ?_
  refine fmS (snd_iload hF (by decide +kernel)) ?_
  refine fmS (snd_iastore hF (by decide +kernel)) ?_
  refine fmS (snd_iconst hF (n := 1) rfl (by decide +kernel)) ?_
  refine fmS (snd_retZ hM (by decide +kernel)) ?_
  refine fmS (snd_iinc hF (n := 1) (by decide +kernel) (by decide) (by decide +kernel)) ?_
  refine fmS (snd_goto hF (off := (-58)) (by decide) (by decide +kernel)) ?_
  refine fmS (snd_iconst hF (n := 0) rfl (by decide +kernel)) ?_
  refine fmS (snd_retZ hM (by decide +kernel)) ?_
  exact fmE
theorem iX6_findChain {d mc ms n : Nat} {av : List Value} {M : PM} {P : PO} (hw : wid av ≤ 5) (hb : ∀ J : KT, (∀ (k : Nat) (stops : Nat → Bool) (pc : Nat) (lv : LV) (st : List Value) (nn : NN) (M : PM), lk (tX6_findChain d mc ms P) pc (wpN (tX6_findChain d mc ms P) stops k J) lv st nn M → J pc lv st nn M) → J 0 (entA 0 av) [] (n, 0, 0) M) : CallOK (d + 1) mc ms yX6_findChain (Cond.code yX6_findChain cX6_findChain 5 (some .boolean)) av n M P := call_intro (own := RX6) (by decide) rfl hw (fun _ _ _ _ _ _ _ _ _ _ _ _ _ hM => sX6_findChain hM) hb
