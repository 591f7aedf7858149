def tX10_thrown (d mc ms : Nat) (P : PO) : List (Nat × OP) := [(0, oAld 0 1), (1, oGi 10 0 4), (4, oRetI mc ms P)]
set_option maxRecDepth 20000 in
theorem sX10_thrown {p : Program} {l : Launch} {e : Env} {s : State} {m : MethodId} {args : Array Value} {below : List Frame} {meth : Method} {c : Code} {D : va_G} {cA : Nat → ClassId} {ad0 : Nat → Nat} {n0 sz d mc ms : Nat} {P : PO} (hM : FM p l s m args meth c D cA 1 ad0 n0 sz cX10_thrown RX10 (some .int) [] yX10_thrown.name) : ∀ q ∈ tX10_thrown d mc ms P, Snd (jM p l e s m args below meth c D cA 1 ad0 n0 sz (d + 1) mc ms P) q.1 q.2 := by
  have hF := hM.1
  have hts := hF.2.2.2.2.1
  unfold tX10_thrown
  refine fmS (snd_aloadn hF (k := 0) rfl (by decide +kernel)) ?_
  refine fmS (snd_geti hF okX10 (k := 0) (by decide) qw1104 rfl rfl (by decide +kernel)) ?_
  refine fmS (snd_retI hM (by decide +kernel)) ?_
  exact fmE
theorem iX10_thrown {d mc ms n : Nat} {av : List Value} {M : PM} {P : PO} (hw : wid av ≤ 1) (hb : ∀ J : KT, (∀ (k : Nat) (stops : Nat → Bool) (pc : Nat) (lv : LV) (st : List Value) (nn : NN) (M : PM), lk (tX10_thrown d mc ms P) pc (wpN (tX10_thrown d mc ms P) stops k J) lv st nn M → J pc lv st nn M) → J 0 (entA 0 av) [] (n, 0, 0) M) : CallOK (d + 1) mc ms yX10_thrown (Cond.code yX10_thrown cX10_thrown 1 (some .int)) av n M P := call_intro (own := RX10) (by decide) rfl hw (fun _ _ _ _ _ _ _ _ _ _ _ _ _ hM => sX10_thrown hM) hb
def tX10_in (d mc ms : Nat) (P : PO) : List (Nat × OP) := [(0, oIld 0 1), (1, oIld 1 2), (2, oIc (fun x y => x < y) 14 5), (5, oIld 0 6), (6, oIld 2 7), (7, oIc (fun x y => y < x) 14 10), (10, oPush (.int 1) 11), (11, oGoto 15), (14, oPush (.int 0) 15), (15, oRetZ mc ms P)]
set_option maxRecDepth 20000 in
theorem sX10_in {p : Program} {l : Launch} {e : Env} {s : State} {m : MethodId} {args : Array Value} {below : List Frame} {meth : Method} {c : Code} {D : va_G} {cA : Nat → ClassId} {ad0 : Nat → Nat} {n0 sz d mc ms : Nat} {P : PO} (hM : FM p l s m args meth c D cA 3 ad0 n0 sz cX10_in RX10 (some .boolean) [] yX10_in.name) : ∀ q ∈ tX10_in d mc ms P, Snd (jM p l e s m args below meth c D cA 3 ad0 n0 sz (d + 1) mc ms P) q.1 q.2 := by
  have hF := hM.1
  have hts := hF.2.2.2.2.1
  unfold tX10_in
  refine fmS (snd_iloadn hF (k := 0) rfl (by decide +kernel)) ?_
  refine fmS (snd_iloadn hF (k := 1) rfl (by decide +kernel)) ?_
  refine fmS (snd_icmp_lt hF (off := 12) (by decide) (by decide +kernel)) ?_
  refine fmS (snd_iloadn hF (k := 0) rfl (by decide +kernel)) ?_
  refine fmS (snd_iloadn hF (k := 2) rfl (by decide +kernel)) ?_
  refine fmS (snd_icmp_gt hF (off := 7) (by decide) (by decide +kernel)) ?_
  refine fmS (snd_iconst hF (n := 1) rfl (by decide +kernel)) ?_
  refine fmS (snd_goto hF (off := 4) (by decide) (by decide +kernel)) ?_
  refine fmS (snd_iconst hF (n := 0) rfl (by decide +kernel)) ?_
  refine fmS (snd_retZ hM (by decide +kernel)) ?_
  exact fmE
theorem iX10_in {d mc ms n : Nat} {av : List Value} {M : PM} {P : PO} (hw : wid av ≤ 3) (hb : ∀ J : KT, (∀ (k : Nat) (stops : Nat → Bool) (pc : Nat) (lv : LV) (st : List Value) (nn : NN) (M : PM), lk (tX10_in d mc ms P) pc (wpN (tX10_in d mc ms P) stops k J) lv st nn M → J pc lv st nn M) → J 0 (entA 0 av) [] (n, 0, 0) M) : CallOK (d + 1) mc ms yX10_in (Cond.code yX10_in cX10_in 3 (some .boolean)) av n M P := call_intro (own := RX10) (by decide) rfl hw (fun _ _ _ _ _ _ _ _ _ _ _ _ _ hM => sX10_in hM) hb
def tX10_raises (d mc ms : Nat) (P : PO) : List (Nat × OP) := [(0, oAld 0 1), (1, oIld 1 2), (2, oPi 10 0 5), (5, oPush (.int 0) 6), (6, oRetI mc ms P)]
set_option maxRecDepth 20000 in
theorem sX10_raises {p : Program} {l : Launch} {e : Env} {s : State} {m : MethodId} {args : Array Value} {below : List Frame} {meth : Method} {c : Code} {D : va_G} {cA : Nat → ClassId} {ad0 : Nat → Nat} {n0 sz d mc ms : Nat} {P : PO} (hM : FM p l s m args meth c D cA 2 ad0 n0 sz cX10_raises RX10 (some .int) [] yX10_raises.name) : ∀ q ∈ tX10_raises d mc ms P, Snd (jM p l e s m args below meth c D cA 2 ad0 n0 sz (d + 1) mc ms P) q.1 q.2 := by
  have hF := hM.1
  have hts := hF.2.2.2.2.1
  unfold tX10_raises
  refine fmS (snd_aloadn hF (k := 0) rfl (by decide +kernel)) ?_
  refine fmS (snd_iloadn hF (k := 1) rfl (by decide +kernel)) ?_
  refine fmS (snd_puti hF okX10 (k := 0) (by decide) qw1104 rfl rfl rfl rfl (by decide +kernel)) ?_
  refine fmS (snd_iconst hF (n := 0) rfl (by decide +kernel)) ?_
  refine fmS (snd_retI hM (by decide +kernel)) ?_
  exact fmE
theorem iX10_raises {d mc ms n : Nat} {av : List Value} {M : PM} {P : PO} (hw : wid av ≤ 2) (hb : ∀ J : KT, (∀ (k : Nat) (stops : Nat → Bool) (pc : Nat) (lv : LV) (st : List Value) (nn : NN) (M : PM), lk (tX10_raises d mc ms P) pc (wpN (tX10_raises d mc ms P) stops k J) lv st nn M → J pc lv st nn M) → J 0 (entA 0 av) [] (n, 0, 0) M) : CallOK (d + 1) mc ms yX10_raises (Cond.code yX10_raises cX10_raises 2 (some .int)) av n M P := call_intro (own := RX10) (by decide) rfl hw (fun _ _ _ _ _ _ _ _ _ _ _ _ _ hM => sX10_raises hM) hb
def tX10_isVariable (d mc ms : Nat) (P : PO) : List (Nat × OP) := [(0, oIld 0 1), (1, oPush (.int 0) 2), (2, oPush (.int 7) 4), (4, oCallS d mc ms P 0 0 yX10_in (Cond.code yX10_in cX10_in 3 (some .boolean)) 3 7), (7, oRetZ mc ms P)]
set_option maxRecDepth 20000 in
theorem sX10_isVariable {p : Program} {l : Launch} {e : Env} {s : State} {m : MethodId} {args : Array Value} {below : List Frame} {meth : Method} {c : Code} {D : va_G} {cA : Nat → ClassId} {ad0 : Nat → Nat} {n0 sz d mc ms : Nat} {P : PO} (hM : FM p l s m args meth c D cA 1 ad0 n0 sz cX10_isVariable RX10 (some .boolean) [] yX10_isVariable.name) : ∀ q ∈ tX10_isVariable d mc ms P, Snd (jM p l e s m args below meth c D cA 1 ad0 n0 sz (d + 1) mc ms P) q.1 q.2 := by
  have hF := hM.1
  have hts := hF.2.2.2.2.1
  unfold tX10_isVariable
  refine fmS (snd_iloadn hF (k := 0) rfl (by decide +kernel)) ?_
  refine fmS (snd_iconst hF (n := 0) rfl (by decide +kernel)) ?_
  refine fmS (snd_bipush hF (n := 7) (by decide +kernel) (by decide +kernel)) ?_
  refine fmS (snd_callS hM k_X10_in qw1101 qw1102 (by decide +kernel)) ?_
  refine fmS (snd_retZ hM (by decide +kernel)) ?_
  exact fmE
theorem iX10_isVariable {d mc ms n : Nat} {av : List Value} {M : PM} {P : PO} (hw : wid av ≤ 1) (hb : ∀ J : KT, (∀ (k : Nat) (stops : Nat → Bool) (pc : Nat) (lv : LV) (st : List Value) (nn : NN) (M : PM), lk (tX10_isVariable d mc ms P) pc (wpN (tX10_isVariable d mc ms P) stops k J) lv st nn M → J pc lv st nn M) → J 0 (entA 0 av) [] (n, 0, 0) M) : CallOK (d + 1) mc ms yX10_isVariable (Cond.code yX10_isVariable cX10_isVariable 1 (some .boolean)) av n M P := call_intro (own := RX10) (by decide) rfl hw (fun _ _ _ _ _ _ _ _ _ _ _ _ _ hM => sX10_isVariable hM) hb
def tX10_append (d mc ms : Nat) (P : PO) : List (Nat × OP) := [(0, oAld 0 1), (1, oPush (.int 0) 2), (2, oPi 10 0 5), (5, oPush (.int 0) 6), (6, oIst 2 7), (7, oPush (.int 24) 9), (9, oIst 3 10), (10, oIld 3 11), (11, oIf (fun x => x < 0) 58 14), (14, oIld 1 15), (15, oIld 3 16), (16, oI2 (fun x y => (x.toUInt32 >>> (y.toUInt32 &&& Int32.toUInt32 31)).toInt32) 17), (17, oPush (.int 255) 20), (20, oI2 (fun x y => x &&& y) 21), (21, oIst 4 23), (23, oIld 4 25), (25, oIf (fun x => x = 0) 28 31), (28, oGoto 52), (31, oIld 4 33), (33, oPush (.int 33) 35), (35, oPush (.int 126) 37), (37, oCallS d mc ms P 0 0 yX10_in (Cond.code yX10_in cX10_in 3 (some .boolean)) 3 40), (40, oIf (fun x => x = 0) 43 49), (43, oAld 0 44), (44, oPush (.int 1) 45), (45, oCallV d mc ms P 0 0 yX10_raises (Cond.code yX10_raises cX10_raises 2 (some .int)) 1 10 48), (48, oRetI mc ms P), (49, oInc 2 1 52), (52, oInc 3 (-8) 55), (55, oGoto 10), (58, oAld 0 59), (59, oGi 10 6 62), (62, oIld 2 63), (63, oI2 (fun x y => x + y) 64), (64, oPush (.int 100) 66), (66, oIc (fun x y => x ≤ y) 75 69), (69, oAld 0 70), (70, oPush (.int 2) 71), (71, oCallV d mc ms P 0 0 yX10_raises (Cond.code yX10_raises cX10_raises 2 (some .int)) 1 10 74), (74, oRetI mc ms P), (75, oPush (.int 24) 77), (77, oIst 3 78), (78, oIld 3 79), (79, oIf (fun x => x < 0) 120 82), (82, oIld 1 83), (83, oIld 3 84), (84, oI2 (fun x y => (x.toUInt32 >>> (y.toUInt32 &&& Int32.toUInt32 31)).toInt32) 85), (85, oPush (.int 255) 88), (88, oI2 (fun x y => x &&& y) 89), (89, oIst 4 91), (91, oIld 4 93), (93, oIf (fun x => x = 0) 114 96), (96, oAld 0 97), (97, oGr 10 5 100), (100, oAld 0 101), (101, oDup 102), (102, oGi 10 6 105), (105, oDupx1 106), (106, oPush (.int 1) 107), (107, oI2 (fun x y => x + y) 108), (108, oPi 10 6 111), (111, oIld 4 113), (113, oSi 100 (fun x => x) 114), (114, oInc 3 (-8) 117), (117, oGoto 78), (120, oAld 0 121), (121, oGi 10 6 124), (124, oRetI mc ms P)]
set_option maxRecDepth 20000 in
theorem sX10_append {p : Program} {l : Launch} {e : Env} {s : State} {m : MethodId} {args : Array Value} {below : List Frame} {meth : Method} {c : Code} {D : va_G} {cA : Nat → ClassId} {ad0 : Nat → Nat} {n0 sz d mc ms : Nat} {P : PO} (hM : FM p l s m args meth c D cA 5 ad0 n0 sz cX10_append RX10 (some .int) [] yX10_append.name) : ∀ q ∈ tX10_append d mc ms P, Snd (jM p l e s m args below meth c D cA 5 ad0 n0 sz (d + 1) mc ms P) q.1 q.2 := by
  have hF := hM.1
  have hts := hF.2.2.2.2.1
  unfold tX10_append
  refine fmS (snd_aloadn hF (k := 0) rfl (by decide +kernel)) ?_
  refine fmS (snd_iconst hF (n := 0) rfl (by decide +kernel)) ?_
  refine fmS (snd_puti hF okX10 (k := 0) (by decide) qw1104 rfl rfl rfl rfl (by decide +kernel)) ?_
  refine fmS (snd_iconst hF (n := 0) rfl (by decide +kernel)) ?_
  refine fmS (snd_istoren hF (k := 2) rfl (by decide) (by decide +kernel)) ?_
  refine fmS (snd_bipush hF (n := 24) (by decide +kernel) (by decide +kernel)) ?_
  refine fmS (snd_istoren hF (k := 3) rfl (by decide) (by decide +kernel)) ?_
  refine fmS (snd_iloadn hF (k := 3) rfl (by decide +kernel)) ?_
  refine fmS (snd_if_lt hF (off := 47) (by decide) (by decide +kernel)) ?_
  refine fmS (snd_iloadn hF (k := 1) rfl (by decide +kernel)) ?_
  refine fmS (snd_iloadn hF (k := 3) rfl (by decide +kernel)) ?_
  refine fmS (snd_iushr hF (by decide +kernel)) ?_
  refine fmS (snd_sipush hF (n := 255) (by decide +kernel) (by decide +kernel)) ?_
  refine fmS (snd_iand hF (by decide +kernel)) ?_
  refine fmS (snd_istore hF (by decide) (by decide +kernel)) ?_
  refine fmS (snd_iload hF (by decide +kernel)) ?_
  refine fmS (snd_if_ne hF (off := 6) (by decide) (by decide +kernel)) ?_
  refine fmS (snd_goto hF (off := 24) (by decide) (by decide +kernel)) ?_
  refine fmS (snd_iload hF (by decide +kernel)) ?_
  refine fmS (snd_bipush hF (n := 33) (by decide +kernel) (by decide +kernel)) ?_
  refine fmS (snd_bipush hF (n := 126) (by decide +kernel) (by decide +kernel)) ?_
  refine fmS (snd_callS hM k_X10_in qw1101 qw1102 (by decide +kernel)) ?_
  refine fmS (snd_if_ne hF (off := 9) (by decide) (by decide +kernel)) ?_
  refine fmS (snd_aloadn hF (k := 0) rfl (by decide +kernel)) ?_
  refine fmS (snd_iconst hF (n := 1) rfl (by decide +kernel)) ?_
  refine fmS (snd_callV hM k_X10_raises okX10 qw1221 qw1223 (hts _ qw35) (by decide +kernel)) ?_
  refine fmS (snd_retI hM (by decide +kernel)) ?_
  refine fmS (snd_iinc hF (n := 1) (by decide +kernel) (by decide) (by decide +kernel)) ?_
  refine fmS (snd_iinc hF (n := (-8)) (by decide +kernel) (by decide) (by decide +kernel)) ?_
  refine fmS (snd_goto hF (off := (-45)) (by decide) (by decide +kernel)) ?_
  refine fmS (snd_aloadn hF (k := 0) rfl (by decide +kernel)) ?_
  refine fmS (snd_geti hF okX10 (k := 6) (by decide) qw1110 rfl rfl (by decide +kernel)) ?_
  refine fmS (snd_iloadn hF (k := 2) rfl (by decide +kernel)) ?_
  refine fmS (snd_iadd hF (by decide +kernel)) ?_
  refine fmS (snd_bipush hF (n := 100) (by decide +kernel) (by decide +kernel)) ?_
  refine fmS (snd_icmp_le hF (off := 9) (by decide) (by decide +kernel)) ?_
  refine fmS (snd_aloadn hF (k := 0) rfl (by decide +kernel)) ?_
  refine fmS (snd_iconst hF (n := 2) rfl (by decide +kernel)) ?_
  refine fmS (snd_callV hM k_X10_raises okX10 qw1221 qw1223 (hts _ qw35) (by decide +kernel)) ?_
  refine fmS (snd_retI hM (by decide +kernel)) ?_
  refine fmS (snd_bipush hF (n := 24) (by decide +kernel) (by decide +kernel)) ?_
  refine fmS (snd_istoren hF (k := 3) rfl (by decide) (by decide +kernel)) ?_
  refine fmS (snd_iloadn hF (k := 3) rfl (by decide +kernel)) ?_
  refine fmS (snd_if_lt hF (off := 41) (by decide) (by decide +kernel)) ?_
  refine fmS (snd_iloadn hF (k := 1) rfl (by decide +kernel)) ?_
  refine fmS (snd_iloadn hF (k := 3) rfl (by decide +kernel)) ?_
  refine fmS (snd_iushr hF (by decide +kernel)) ?_
  refine fmS (snd_sipush hF (n := 255) (by decide +kernel) (by decide +kernel)) ?_
  refine fmS (snd_iand hF (by decide +kernel)) ?_
  refine fmS (snd_istore hF (by decide) (by decide +kernel)) ?_
  refine fmS (snd_iload hF (by decide +kernel)) ?_
  refine fmS (snd_if_eq hF (off := 21) (by decide) (by decide +kernel)) ?_
  refine fmS (snd_aloadn hF (k := 0) rfl (by decide +kernel)) ?_
  refine fmS (snd_getr hF okX10 (k := 5) (by decide) qw1109 rfl rfl (by decide +kernel)) ?_
  refine fmS (snd_aloadn hF (k := 0) rfl (by decide +kernel)) ?_
  refine fmS (snd_dup hF (by decide +kernel)) ?_
  refine fmS (snd_geti hF okX10 (k := 6) (by decide) qw1110 rfl rfl (by decide +kernel)) ?_
  refine fmS (snd_dupx1 hF (by decide +kernel)) ?_
  refine fmS (snd_iconst hF (n := 1) rfl (by decide +kernel)) ?_
  refine fmS (snd_iadd hF (by decide +kernel)) ?_
  refine fmS (snd_puti hF okX10 (k := 6) (by decide) qw1110 rfl rfl rfl rfl (by decide +kernel)) ?_
  refine fmS (snd_iload hF (by decide +kernel)) ?_
  refine fmS (snd_iastore hF (by decide +kernel)) ?_
  refine fmS (snd_iinc hF (n := (-8)) (by decide +kernel) (by decide) (by decide +kernel)) ?_
  refine fmS (snd_goto hF (off := (-39)) (by decide) (by decide +kernel)) ?_
  refine fmS (snd_aloadn hF (k := 0) rfl (by decide +kernel)) ?_
  refine fmS (snd_geti hF okX10 (k := 6) (by decide) qw1110 rfl rfl (by decide +kernel)) ?_
  refine fmS (snd_retI hM (by decide +kernel)) ?_
  exact fmE
theorem iX10_append {d mc ms n : Nat} {av : List Value} {M : PM} {P : PO} (hw : wid av ≤ 5) (hb : ∀ J : KT, (∀ (k : Nat) (stops : Nat → Bool) (pc : Nat) (lv : LV) (st : List Value) (nn : NN) (M : PM), lk (tX10_append d mc ms P) pc (wpN (tX10_append d mc ms P) stops k J) lv st nn M → J pc lv st nn M) → J 0 (entA 0 av) [] (n, 0, 0) M) : CallOK (d + 1) mc ms yX10_append (Cond.code yX10_append cX10_append 5 (some .int)) av n M P := call_intro (own := RX10) (by decide) rfl hw (fun _ _ _ _ _ _ _ _ _ _ _ _ _ hM => sX10_append hM) hb
def tX10_here (d mc ms : Nat) (P : PO) : List (Nat × OP) := [(0, oAld 0 1), (1, oGi 10 7 4), (4, oAld 0 5), (5, oGi 10 6 8), (8, oIc (fun x y => y ≤ x) 23 11), (11, oAld 0 12), (12, oGr 10 5 15), (15, oAld 0 16), (16, oGi 10 7 19), (19, oAi 100 20), (20, oGoto 24), (23, oPush (.int 0) 24), (24, oRetI mc ms P)]
set_option maxRecDepth 20000 in
theorem sX10_here {p : Program} {l : Launch} {e : Env} {s : State} {m : MethodId} {args : Array Value} {below : List Frame} {meth : Method} {c : Code} {D : va_G} {cA : Nat → ClassId} {ad0 : Nat → Nat} {n0 sz d mc ms : Nat} {P : PO} (hM : FM p l s m args meth c D cA 1 ad0 n0 sz cX10_here RX10 (some .int) [] yX10_here.name) : ∀ q ∈ tX10_here d mc ms P, Snd (jM p l e s m args below meth c D cA 1 ad0 n0 sz (d + 1) mc ms P) q.1 q.2 := by
  have hF := hM.1
  have hts := hF.2.2.2.2.1
  unfold tX10_here
  refine fmS (snd_aloadn hF (k := 0) rfl (by decide +kernel)) ?_
  refine fmS (snd_geti hF okX10 (k := 7) (by decide) qw1111 rfl rfl (by decide +kernel)) ?_
  refine fmS (snd_aloadn hF (k := 0) rfl (by decide +kernel)) ?_
  refine fmS (snd_geti hF okX10 (k := 6) (by decide) qw1110 rfl rfl (by decide +kernel)) ?_
  refine fmS (snd_icmp_ge hF (off := 15) (by decide) (by decide +kernel)) ?_
  refine fmS (snd_aloadn hF (k := 0) rfl (by decide +kernel)) ?_
  refine fmS (snd_getr hF okX10 (k := 5) (by decide) qw1109 rfl rfl (by decide +kernel)) ?_
  refine fmS (snd_aloadn hF (k := 0) rfl (by decide +kernel)) ?_
  refine fmS (snd_geti hF okX10 (k := 7) (by decide) qw1111 rfl rfl (by decide +kernel)) ?_
  refine fmS (snd_iaload hF (by decide +kernel)) ?_
  refine fmS (snd_goto hF (off := 4) (by decide) (by decide +kernel)) ?_
  refine fmS (snd_iconst hF (n := 0) rfl (by decide +kernel)) ?_
  refine fmS (snd_retI hM (by decide +kernel)) ?_
  exact fmE
theorem iX10_here {d mc ms n : Nat} {av : List Value} {M : PM} {P : PO} (hw : wid av ≤ 1) (hb : ∀ J : KT, (∀ (k : Nat) (stops : Nat → Bool) (pc : Nat) (lv : LV) (st : List Value) (nn : NN) (M : PM), lk (tX10_here d mc ms P) pc (wpN (tX10_here d mc ms P) stops k J) lv st nn M → J pc lv st nn M) → J 0 (entA 0 av) [] (n, 0, 0) M) : CallOK (d + 1) mc ms yX10_here (Cond.code yX10_here cX10_here 1 (some .int)) av n M P := call_intro (own := RX10) (by decide) rfl hw (fun _ _ _ _ _ _ _ _ _ _ _ _ _ hM => sX10_here hM) hb
def tX10_takes (d mc ms : Nat) (P : PO) : List (Nat × OP) := [(0, oAld 0 1), (1, oGi 10 9 4), (4, oIf (fun x => x = 0) 7 15), (7, oAld 0 8), (8, oCallV d mc ms P 0 0 yX10_here (Cond.code yX10_here cX10_here 1 (some .int)) 0 10 11), (11, oIld 1 12), (12, oIc (fun x y => x = y) 17 15), (15, oPush (.int 0) 16), (16, oRetZ mc ms P), (17, oAld 0 18), (18, oDup 19), (19, oGi 10 7 22), (22, oPush (.int 1) 23), (23, oI2 (fun x y => x + y) 24), (24, oPi 10 7 27), (27, oPush (.int 1) 28), (28, oRetZ mc ms P)]
set_option maxRecDepth 20000 in
theorem sX10_takes {p : Program} {l : Launch} {e : Env} {s : State} {m : MethodId} {args : Array Value} {below : List Frame} {meth : Method} {c : Code} {D : va_G} {cA : Nat → ClassId} {ad0 : Nat → Nat} {n0 sz d mc ms : Nat} {P : PO} (hM : FM p l s m args meth c D cA 2 ad0 n0 sz cX10_takes RX10 (some .boolean) [] yX10_takes.name) : ∀ q ∈ tX10_takes d mc ms P, Snd (jM p l e s m args below meth c D cA 2 ad0 n0 sz (d + 1) mc ms P) q.1 q.2 := by
  have hF := hM.1
  have hts := hF.2.2.2.2.1
  unfold tX10_takes
  refine fmS (snd_aloadn hF (k := 0) rfl (by decide +kernel)) ?_
  refine fmS (snd_geti hF okX10 (k := 9) (by decide) qw1113 rfl rfl (by decide +kernel)) ?_
  refine fmS (snd_if_ne hF (off := 11) (by decide) (by decide +kernel)) ?_
  refine fmS (snd_aloadn hF (k := 0) rfl (by decide +kernel)) ?_
  refine fmS (snd_callV hM k_X10_here okX10 qw1233 qw1235 (hts _ qw37) (by decide +kernel)) ?_
  refine fmS (snd_iloadn hF (k := 1) rfl (by decide +kernel)) ?_
  refine fmS (snd_icmp_eq hF (off := 5) (by decide) (by decide +kernel)) ?_
  refine fmS (snd_iconst hF (n := 0) rfl (by decide +kernel)) ?_
  refine fmS (snd_retZ hM (by decide +kernel)) ?_
  refine fmS (snd_aloadn hF (k := 0) rfl (by decide +kernel)) ?_
  refine fmS (snd_dup hF (by decide +kernel)) ?_
  refine fmS (snd_geti hF okX10 (k := 7) (by decide) qw1111 rfl rfl (by decide +kernel)) ?_
  refine fmS (snd_iconst hF (n := 1) rfl (by decide +kernel)) ?_
  refine fmS (snd_iadd hF (by decide +kernel)) ?_
  refine fmS (snd_puti hF okX10 (k := 7) (by decide) qw1111 rfl rfl rfl rfl (by decide +kernel)) ?_
  refine fmS (snd_iconst hF (n := 1) rfl (by decide +kernel)) ?_
  refine fmS (snd_retZ hM (by decide +kernel)) ?_
  exact fmE
theorem iX10_takes {d mc ms n : Nat} {av : List Value} {M : PM} {P : PO} (hw : wid av ≤ 2) (hb : ∀ J : KT, (∀ (k : Nat) (stops : Nat → Bool) (pc : Nat) (lv : LV) (st : List Value) (nn : NN) (M : PM), lk (tX10_takes d mc ms P) pc (wpN (tX10_takes d mc ms P) stops k J) lv st nn M → J pc lv st nn M) → J 0 (entA 0 av) [] (n, 0, 0) M) : CallOK (d + 1) mc ms yX10_takes (Cond.code yX10_takes cX10_takes 2 (some .boolean)) av n M P := call_intro (own := RX10) (by decide) rfl hw (fun _ _ _ _ _ _ _ _ _ _ _ _ _ hM => sX10_takes hM) hb
def tX10_expects (d mc ms : Nat) (P : PO) : List (Nat × OP) := [(0, oAld 0 1), (1, oIld 1 2), (2, oCallV d mc ms P 0 0 yX10_takes (Cond.code yX10_takes cX10_takes 2 (some .boolean)) 1 10 5), (5, oIf (fun x => x = 0) 8 13), (8, oAld 0 9), (9, oPush (.int 1) 10), (10, oPz 10 9 13), (13, oRetV mc ms P)]
set_option maxRecDepth 20000 in
theorem sX10_expects {p : Program} {l : Launch} {e : Env} {s : State} {m : MethodId} {args : Array Value} {below : List Frame} {meth : Method} {c : Code} {D : va_G} {cA : Nat → ClassId} {ad0 : Nat → Nat} {n0 sz d mc ms : Nat} {P : PO} (hM : FM p l s m args meth c D cA 2 ad0 n0 sz cX10_expects RX10 none [] yX10_expects.name) : ∀ q ∈ tX10_expects d mc ms P, Snd (jM p l e s m args below meth c D cA 2 ad0 n0 sz (d + 1) mc ms P) q.1 q.2 := by
  have hF := hM.1
  have hts := hF.2.2.2.2.1
  unfold tX10_expects
  refine fmS (snd_aloadn hF (k := 0) rfl (by decide +kernel)) ?_
  refine fmS (snd_iloadn hF (k := 1) rfl (by decide +kernel)) ?_
  refine fmS (snd_callV hM k_X10_takes okX10 qw1241 qw1243 (hts _ qw39) (by decide +kernel)) ?_
  refine fmS (snd_if_ne hF (off := 8) (by decide) (by decide +kernel)) ?_
  refine fmS (snd_aloadn hF (k := 0) rfl (by decide +kernel)) ?_
  refine fmS (snd_iconst hF (n := 1) rfl (by decide +kernel)) ?_
  refine fmS (snd_putz hF okX10 (k := 9) (by decide) qw1113 rfl rfl rfl rfl (by decide +kernel)) ?_
  refine fmS (snd_retV hM (by decide +kernel)) ?_
  exact fmE
theorem iX10_expects {d mc ms n : Nat} {av : List Value} {M : PM} {P : PO} (hw : wid av ≤ 2) (hb : ∀ J : KT, (∀ (k : Nat) (stops : Nat → Bool) (pc : Nat) (lv : LV) (st : List Value) (nn : NN) (M : PM), lk (tX10_expects d mc ms P) pc (wpN (tX10_expects d mc ms P) stops k J) lv st nn M → J pc lv st nn M) → J 0 (entA 0 av) [] (n, 0, 0) M) : CallOK (d + 1) mc ms yX10_expects (Cond.code yX10_expects cX10_expects 2 none) av n M P := call_intro (own := RX10) (by decide) rfl hw (fun _ _ _ _ _ _ _ _ _ _ _ _ _ hM => sX10_expects hM) hb
def tX10_node (d mc ms : Nat) (P : PO) : List (Nat × OP) := [(0, oAld 0 1), (1, oGr 10 11 4), (4, oAld 0 5), (5, oGi 10 15 8), (8, oIld 1 9), (9, oSi 100 (fun x => x) 10), (10, oAld 0 11), (11, oGr 10 12 14), (14, oAld 0 15), (15, oGi 10 15 18), (18, oIld 2 19), (19, oSi 100 (fun x => x) 20), (20, oAld 0 21), (21, oGr 10 13 24), (24, oAld 0 25), (25, oGi 10 15 28), (28, oIld 3 29), (29, oSi 100 (fun x => x) 30), (30, oAld 0 31), (31, oGr 10 14 34), (34, oAld 0 35), (35, oGi 10 15 38), (38, oIld 4 40), (40, oSi 100 (fun x => x) 41), (41, oAld 0 42), (42, oDup 43), (43, oGi 10 15 46), (46, oDupx1 47), (47, oPush (.int 1) 48), (48, oI2 (fun x y => x + y) 49), (49, oPi 10 15 52), (52, oRetI mc ms P)]
set_option maxRecDepth 20000 in
theorem sX10_node {p : Program} {l : Launch} {e : Env} {s : State} {m : MethodId} {args : Array Value} {below : List Frame} {meth : Method} {c : Code} {D : va_G} {cA : Nat → ClassId} {ad0 : Nat → Nat} {n0 sz d mc ms : Nat} {P : PO} (hM : FM p l s m args meth c D cA 5 ad0 n0 sz cX10_node RX10 (some .int) [] yX10_node.name) : ∀ q ∈ tX10_node d mc ms P, Snd (jM p l e s m args below meth c D cA 5 ad0 n0 sz (d + 1) mc ms P) q.1 q.2 := by
  have hF := hM.1
  have hts := hF.2.2.2.2.1
  unfold tX10_node
  refine fmS (snd_aloadn hF (k := 0) rfl (by decide +kernel)) ?_
  refine fmS (snd_getr hF okX10 (k := 11) (by decide) qw1115 rfl rfl (by decide +kernel)) ?_
  refine fmS (snd_aloadn hF (k := 0) rfl (by decide +kernel)) ?_
  refine fmS (snd_geti hF okX10 (k := 15) (by decide) qw1119 rfl rfl (by decide +kernel)) ?_
  refine fmS (snd_iloadn hF (k := 1) rfl (by decide +kernel)) ?_
  refine fmS (snd_iastore hF (by decide +kernel)) ?_
  refine fmS (snd_aloadn hF (k := 0) rfl (by decide +kernel)) ?_
  refine fmS (snd_getr hF okX10 (k := 12) (by decide) qw1116 rfl rfl (by decide +kernel)) ?_
  refine fmS (snd_aloadn hF (k := 0) rfl (by decide +kernel)) ?_
  refine fmS (snd_geti hF okX10 (k := 15) (by decide) qw1119 rfl rfl (by decide +kernel)) ?_
  refine fmS (snd_iloadn hF (k := 2) rfl (by decide +kernel)) ?_
  refine fmS (snd_iastore hF (by decide +kernel)) ?_
  refine fmS (snd_aloadn hF (k := 0) rfl (by decide +kernel)) ?_
  refine fmS (snd_getr hF okX10 (k := 13) (by decide) qw1117 rfl rfl (by decide +kernel)) ?_
  refine fmS (snd_aloadn hF (k := 0) rfl (by decide +kernel)) ?_
  refine fmS (snd_geti hF okX10 (k := 15) (by decide) qw1119 rfl rfl (by decide +kernel)) ?_
  refine fmS (snd_iloadn hF (k := 3) rfl (by decide +kernel)) ?_
  refine fmS (snd_iastore hF (by decide +kernel)) ?_
  refine fmS (snd_aloadn hF (k := 0) rfl (by decide +kernel)) ?_
  refine fmS (snd_getr hF okX10 (k := 14) (by decide) qw1118 rfl rfl (by decide +kernel)) ?_
  refine fmS (snd_aloadn hF (k := 0) rfl (by decide +kernel)) ?_
  refine fmS (snd_geti hF okX10 (k := 15) (by decide) qw1119 rfl rfl (by decide +kernel)) ?_
  refine fmS (snd_iload hF (by decide +kernel)) ?_
  refine fmS (snd_iastore hF (by decide +kernel)) ?_
  refine fmS (snd_aloadn hF (k := 0) rfl (by decide +kernel)) ?_
  refine fmS (snd_dup hF (by decide +kernel)) ?_
  refine fmS (snd_geti hF okX10 (k := 15) (by decide) qw1119 rfl rfl (by decide +kernel)) ?_
  refine fmS (snd_dupx1 hF (by decide +kernel)) ?_
  refine fmS (snd_iconst hF (n := 1) rfl (by decide +kernel)) ?_
  refine fmS (snd_iadd hF (by decide +kernel)) ?_
  refine fmS (snd_puti hF okX10 (k := 15) (by decide) qw1119 rfl rfl rfl rfl (by decide +kernel)) ?_
  refine fmS (snd_retI hM (by decide +kernel)) ?_
  exact fmE
theorem iX10_node {d mc ms n : Nat} {av : List Value} {M : PM} {P : PO} (hw : wid av ≤ 5) (hb : ∀ J : KT, (∀ (k : Nat) (stops : Nat → Bool) (pc : Nat) (lv : LV) (st : List Value) (nn : NN) (M : PM), lk (tX10_node d mc ms P) pc (wpN (tX10_node d mc ms P) stops k J) lv st nn M → J pc lv st nn M) → J 0 (entA 0 av) [] (n, 0, 0) M) : CallOK (d + 1) mc ms yX10_node (Cond.code yX10_node cX10_node 5 (some .int)) av n M P := call_intro (own := RX10) (by decide) rfl hw (fun _ _ _ _ _ _ _ _ _ _ _ _ _ hM => sX10_node hM) hb
def tX10_expression (d mc ms : Nat) (P : PO) : List (Nat × OP) := [(0, oAld 0 1), (1, oCallV d mc ms P 0 0 yX10_sum (Cond.code yX10_sum cX10_sum 3 (some .int)) 0 10 4), (4, oIst 1 5), (5, oAld 0 6), (6, oGi 10 9 9), (9, oIf (fun x => x = 0) 12 98), (12, oAld 0 13), (13, oCallV d mc ms P 0 0 yX10_here (Cond.code yX10_here cX10_here 1 (some .int)) 0 10 16), (16, oPush (.int 38) 18), (18, oIc (fun x y => x = y) 39 21), (21, oAld 0 22), (22, oCallV d mc ms P 0 0 yX10_here (Cond.code yX10_here cX10_here 1 (some .int)) 0 10 25), (25, oPush (.int 124) 27), (27, oIc (fun x y => x = y) 39 30), (30, oAld 0 31), (31, oCallV d mc ms P 0 0 yX10_here (Cond.code yX10_here cX10_here 1 (some .int)) 0 10 34), (34, oPush (.int 94) 36), (36, oIc (fun x y => x = y) 39 98), (39, oAld 0 40), (40, oCallV d mc ms P 0 0 yX10_here (Cond.code yX10_here cX10_here 1 (some .int)) 0 10 43), (43, oPush (.int 38) 45), (45, oIc (fun x y => x = y) 48 54), (48, oPush (.int 302) 51), (51, oGoto 72), (54, oAld 0 55), (55, oCallV d mc ms P 0 0 yX10_here (Cond.code yX10_here cX10_here 1 (some .int)) 0 10 58), (58, oPush (.int 124) 60), (60, oIc (fun x y => x = y) 63 69), (63, oPush (.int 303) 66), (66, oGoto 72), (69, oPush (.int 304) 72), (72, oIst 2 73), (73, oAld 0 74), (74, oDup 75), (75, oGi 10 7 78), (78, oPush (.int 1) 79), (79, oI2 (fun x y => x + y) 80), (80, oPi 10 7 83), (83, oAld 0 84), (84, oIld 2 85), (85, oIld 1 86), (86, oAld 0 87), (87, oCallV d mc ms P 0 0 yX10_sum (Cond.code yX10_sum cX10_sum 3 (some .int)) 0 10 90), (90, oPush (.int 0) 91), (91, oCallV d mc ms P 0 0 yX10_node (Cond.code yX10_node cX10_node 5 (some .int)) 4 10 94), (94, oIst 1 95), (95, oGoto 5), (98, oIld 1 99), (99, oRetI mc ms P)]
set_option maxRecDepth 20000 in
theorem sX10_expression {p : Program} {l : Launch} {e : Env} {s : State} {m : MethodId} {args : Array Value} {below : List Frame} {meth : Method} {c : Code} {D : va_G} {cA : Nat → ClassId} {ad0 : Nat → Nat} {n0 sz d mc ms : Nat} {P : PO} (hM : FM p l s m args meth c D cA 3 ad0 n0 sz cX10_expression RX10 (some .int) [] yX10_expression.name) : ∀ q ∈ tX10_expression d mc ms P, Snd (jM p l e s m args below meth c D cA 3 ad0 n0 sz (d + 1) mc ms P) q.1 q.2 := by
  have hF := hM.1
  have hts := hF.2.2.2.2.1
  unfold tX10_expression
  refine fmS (snd_aloadn hF (k := 0) rfl (by decide +kernel)) ?_
  refine fmS (snd_callV hM k_X10_sum okX10 qw1249 qw1251 (hts _ qw41) (by decide +kernel)) ?_
  refine fmS (snd_istoren hF (k := 1) rfl (by decide) (by decide +kernel)) ?_
  refine fmS (snd_aloadn hF (k := 0) rfl (by decide +kernel)) ?_
  refine fmS (snd_geti hF okX10 (k := 9) (by decide) qw1113 rfl rfl (by decide +kernel)) ?_
  refine fmS (snd_if_ne hF (off := 89) (by decide) (by decide +kernel)) ?_
  refine fmS (snd_aloadn hF (k := 0) rfl (by decide +kernel)) ?_
  refine fmS (snd_callV hM k_X10_here okX10 qw1233 qw1235 (hts _ qw37) (by decide +kernel)) ?_
  refine fmS (snd_bipush hF (n := 38) (by decide +kernel) (by decide +kernel)) ?_
  refine fmS (snd_icmp_eq hF (off := 21) (by decide) (by decide +kernel)) ?_
  refine fmS (snd_aloadn hF (k := 0) rfl (by decide +kernel)) ?_
  refine fmS (snd_callV hM k_X10_here okX10 qw1233 qw1235 (hts _ qw37) (by decide +kernel)) ?_
  refine fmS (snd_bipush hF (n := 124) (by decide +kernel) (by decide +kernel)) ?_
  refine fmS (snd_icmp_eq hF (off := 12) (by decide) (by decide +kernel)) ?_
  refine fmS (snd_aloadn hF (k := 0) rfl (by decide +kernel)) ?_
  refine fmS (snd_callV hM k_X10_here okX10 qw1233 qw1235 (hts _ qw37) (by decide +kernel)) ?_
  refine fmS (snd_bipush hF (n := 94) (by decide +kernel) (by decide +kernel)) ?_
  refine fmS (snd_icmp_ne hF (off := 62) (by decide) (by decide +kernel)) ?_
  refine fmS (snd_aloadn hF (k := 0) rfl (by decide +kernel)) ?_
  refine fmS (snd_callV hM k_X10_here okX10 qw1233 qw1235 (hts _ qw37) (by decide +kernel)) ?_
  refine fmS (snd_bipush hF (n := 38) (by decide +kernel) (by decide +kernel)) ?_
  refine fmS (snd_icmp_ne hF (off := 9) (by decide) (by decide +kernel)) ?_
  refine fmS (snd_sipush hF (n := 302) (by decide +kernel) (by decide +kernel)) ?_
  refine fmS (snd_goto hF (off := 21) (by decide) (by decide +kernel)) ?_
  refine fmS (snd_aloadn hF (k := 0) rfl (by decide +kernel)) ?_
  refine fmS (snd_callV hM k_X10_here okX10 qw1233 qw1235 (hts _ qw37) (by decide +kernel)) ?_
  refine fmS (snd_bipush hF (n := 124) (by decide +kernel) (by decide +kernel)) ?_
  refine fmS (snd_icmp_ne hF (off := 9) (by decide) (by decide +kernel)) ?_
  refine fmS (snd_sipush hF (n := 303) (by decide +kernel) (by decide +kernel)) ?_
  refine fmS (snd_goto hF (off := 6) (by decide) (by decide +kernel)) ?_
  refine fmS (snd_sipush hF (n := 304) (by decide +kernel) (by decide +kernel)) ?_
  refine fmS (snd_istoren hF (k := 2) rfl (by decide) (by decide +kernel)) ?_
  refine fmS (snd_aloadn hF (k := 0) rfl (by decide +kernel)) ?_
  refine fmS (snd_dup hF (by decide +kernel)) ?_
  refine fmS (snd_geti hF okX10 (k := 7) (by decide) qw1111 rfl rfl (by decide +kernel)) ?_
  refine fmS (snd_iconst hF (n := 1) rfl (by decide +kernel)) ?_
  refine fmS (snd_iadd hF (by decide +kernel)) ?_
  refine fmS (snd_puti hF okX10 (k := 7) (by decide) qw1111 rfl rfl rfl rfl (by decide +kernel)) ?_
  refine fmS (snd_aloadn hF (k := 0) rfl (by decide +kernel)) ?_
  refine fmS (snd_iloadn hF (k := 2) rfl (by decide +kernel)) ?_
  refine fmS (snd_iloadn hF (k := 1) rfl (by decide +kernel)) ?_
  refine fmS (snd_aloadn hF (k := 0) rfl (by decide +kernel)) ?_
  refine fmS (snd_callV hM k_X10_sum okX10 qw1249 qw1251 (hts _ qw41) (by decide +kernel)) ?_
  refine fmS (snd_iconst hF (n := 0) rfl (by decide +kernel)) ?_
  refine fmS (snd_callV hM k_X10_node okX10 qw1261 qw1263 (hts _ qw44) (by decide +kernel)) ?_
  refine fmS (snd_istoren hF (k := 1) rfl (by decide) (by decide +kernel)) ?_
  refine fmS (snd_goto hF (off := (-90)) (by decide) (by decide +kernel)) ?_
  refine fmS (snd_iloadn hF (k := 1) rfl (by decide +kernel)) ?_
  refine fmS (snd_retI hM (by decide +kernel)) ?_
  exact fmE
theorem iX10_expression {d mc ms n : Nat} {av : List Value} {M : PM} {P : PO} (hw : wid av ≤ 3) (hb : ∀ J : KT, (∀ (k : Nat) (stops : Nat → Bool) (pc : Nat) (lv : LV) (st : List Value) (nn : NN) (M : PM), lk (tX10_expression d mc ms P) pc (wpN (tX10_expression d mc ms P) stops k J) lv st nn M → J pc lv st nn M) → J 0 (entA 0 av) [] (n, 0, 0) M) : CallOK (d + 1) mc ms yX10_expression (Cond.code yX10_expression cX10_expression 3 (some .int)) av n M P := call_intro (own := RX10) (by decide) rfl hw (fun _ _ _ _ _ _ _ _ _ _ _ _ _ hM => sX10_expression hM) hb
def tX10_sum (d mc ms : Nat) (P : PO) : List (Nat × OP) := [(0, oAld 0 1), (1, oCallV d mc ms P 0 0 yX10_product (Cond.code yX10_product cX10_product 2 (some .int)) 0 10 4), (4, oIst 1 5), (5, oAld 0 6), (6, oGi 10 9 9), (9, oIf (fun x => x = 0) 12 74), (12, oAld 0 13), (13, oCallV d mc ms P 0 0 yX10_here (Cond.code yX10_here cX10_here 1 (some .int)) 0 10 16), (16, oPush (.int 43) 18), (18, oIc (fun x y => x = y) 30 21), (21, oAld 0 22), (22, oCallV d mc ms P 0 0 yX10_here (Cond.code yX10_here cX10_here 1 (some .int)) 0 10 25), (25, oPush (.int 45) 27), (27, oIc (fun x y => x = y) 30 74), (30, oAld 0 31), (31, oCallV d mc ms P 0 0 yX10_here (Cond.code yX10_here cX10_here 1 (some .int)) 0 10 34), (34, oPush (.int 43) 36), (36, oIc (fun x y => x = y) 39 45), (39, oPush (.int 300) 42), (42, oGoto 48), (45, oPush (.int 307) 48), (48, oIst 2 49), (49, oAld 0 50), (50, oDup 51), (51, oGi 10 7 54), (54, oPush (.int 1) 55), (55, oI2 (fun x y => x + y) 56), (56, oPi 10 7 59), (59, oAld 0 60), (60, oIld 2 61), (61, oIld 1 62), (62, oAld 0 63), (63, oCallV d mc ms P 0 0 yX10_product (Cond.code yX10_product cX10_product 2 (some .int)) 0 10 66), (66, oPush (.int 0) 67), (67, oCallV d mc ms P 0 0 yX10_node (Cond.code yX10_node cX10_node 5 (some .int)) 4 10 70), (70, oIst 1 71), (71, oGoto 5), (74, oIld 1 75), (75, oRetI mc ms P)]
set_option maxRecDepth 20000 in
theorem sX10_sum {p : Program} {l : Launch} {e : Env} {s : State} {m : MethodId} {args : Array Value} {below : List Frame} {meth : Method} {c : Code} {D : va_G} {cA : Nat → ClassId} {ad0 : Nat → Nat} {n0 sz d mc ms : Nat} {P : PO} (hM : FM p l s m args meth c D cA 3 ad0 n0 sz cX10_sum RX10 (some .int) [] yX10_sum.name) : ∀ q ∈ tX10_sum d mc ms P, Snd (jM p l e s m args below meth c D cA 3 ad0 n0 sz (d + 1) mc ms P) q.1 q.2 := by
  have hF := hM.1
  have hts := hF.2.2.2.2.1
  unfold tX10_sum
  refine fmS (snd_aloadn hF (k := 0) rfl (by decide +kernel)) ?_
  refine fmS (snd_callV hM k_X10_product okX10 qw1253 qw1255 (hts _ qw42) (by decide +kernel)) ?_
  refine fmS (snd_istoren hF (k := 1) rfl (by decide) (by decide +kernel)) ?_
  refine fmS (snd_aloadn hF (k := 0) rfl (by decide +kernel)) ?_
  refine fmS (snd_geti hF okX10 (k := 9) (by decide) qw1113 rfl rfl (by decide +kernel)) ?_
  refine fmS (snd_if_ne hF (off := 65) (by decide) (by decide +kernel)) ?_
  refine fmS (snd_aloadn hF (k := 0) rfl (by decide +kernel)) ?_
  refine fmS (snd_callV hM k_X10_here okX10 qw1233 qw1235 (hts _ qw37) (by decide +kernel)) ?_
  refine fmS (snd_bipush hF (n := 43) (by decide +kernel) (by decide +kernel)) ?_
  refine fmS (snd_icmp_eq hF (off := 12) (by decide) (by decide +kernel)) ?_
  refine fmS (snd_aloadn hF (k := 0) rfl (by decide +kernel)) ?_
  refine fmS (snd_callV hM k_X10_here okX10 qw1233 qw1235 (hts _ qw37) (by decide +kernel)) ?_
  refine fmS (snd_bipush hF (n := 45) (by decide +kernel) (by decide +kernel)) ?_
  refine fmS (snd_icmp_ne hF (off := 47) (by decide) (by decide +kernel)) ?_
  refine fmS (snd_aloadn hF (k := 0) rfl (by decide +kernel)) ?_
  refine fmS (snd_callV hM k_X10_here okX10 qw1233 qw1235 (hts _ qw37) (by decide +kernel)) ?_
  refine fmS (snd_bipush hF (n := 43) (by decide +kernel) (by decide +kernel)) ?_
  refine fmS (snd_icmp_ne hF (off := 9) (by decide) (by decide +kernel)) ?_
  refine fmS (snd_sipush hF (n := 300) (by decide +kernel) (by decide +kernel)) ?_
  refine fmS (snd_goto hF (off := 6) (by decide) (by decide +kernel)) ?_
  refine fmS (snd_sipush hF (n := 307) (by decide +kernel) (by decide +kernel)) ?_
  refine fmS (snd_istoren hF (k := 2) rfl (by decide) (by decide +kernel)) ?_
  refine fmS (snd_aloadn hF (k := 0) rfl (by decide +kernel)) ?_
  refine fmS (snd_dup hF (by decide +kernel)) ?_
  refine fmS (snd_geti hF okX10 (k := 7) (by decide) qw1111 rfl rfl (by decide +kernel)) ?_
  refine fmS (snd_iconst hF (n := 1) rfl (by decide +kernel)) ?_
  refine fmS (snd_iadd hF (by decide +kernel)) ?_
  refine fmS (snd_puti hF okX10 (k := 7) (by decide) qw1111 rfl rfl rfl rfl (by decide +kernel)) ?_
  refine fmS (snd_aloadn hF (k := 0) rfl (by decide +kernel)) ?_
  refine fmS (snd_iloadn hF (k := 2) rfl (by decide +kernel)) ?_
  refine fmS (snd_iloadn hF (k := 1) rfl (by decide +kernel)) ?_
  refine fmS (snd_aloadn hF (k := 0) rfl (by decide +kernel)) ?_
  refine fmS (snd_callV hM k_X10_product okX10 qw1253 qw1255 (hts _ qw42) (by decide +kernel)) ?_
  refine fmS (snd_iconst hF (n := 0) rfl (by decide +kernel)) ?_
  refine fmS (snd_callV hM k_X10_node okX10 qw1261 qw1263 (hts _ qw44) (by decide +kernel)) ?_
  refine fmS (snd_istoren hF (k := 1) rfl (by decide) (by decide +kernel)) ?_
  refine fmS (snd_goto hF (off := (-66)) (by decide) (by decide +kernel)) ?_
  refine fmS (snd_iloadn hF (k := 1) rfl (by decide +kernel)) ?_
  refine fmS (snd_retI hM (by decide +kernel)) ?_
  exact fmE
theorem iX10_sum {d mc ms n : Nat} {av : List Value} {M : PM} {P : PO} (hw : wid av ≤ 3) (hb : ∀ J : KT, (∀ (k : Nat) (stops : Nat → Bool) (pc : Nat) (lv : LV) (st : List Value) (nn : NN) (M : PM), lk (tX10_sum d mc ms P) pc (wpN (tX10_sum d mc ms P) stops k J) lv st nn M → J pc lv st nn M) → J 0 (entA 0 av) [] (n, 0, 0) M) : CallOK (d + 1) mc ms yX10_sum (Cond.code yX10_sum cX10_sum 3 (some .int)) av n M P := call_intro (own := RX10) (by decide) rfl hw (fun _ _ _ _ _ _ _ _ _ _ _ _ _ hM => sX10_sum hM) hb
def tX10_product (d mc ms : Nat) (P : PO) : List (Nat × OP) := [(0, oAld 0 1), (1, oCallV d mc ms P 0 0 yX10_factor (Cond.code yX10_factor cX10_factor 3 (some .int)) 0 10 4), (4, oIst 1 5), (5, oAld 0 6), (6, oPush (.int 42) 8), (8, oCallV d mc ms P 0 0 yX10_takes (Cond.code yX10_takes cX10_takes 2 (some .boolean)) 1 10 11), (11, oIf (fun x => x = 0) 31 14), (14, oAld 0 15), (15, oPush (.int 301) 18), (18, oIld 1 19), (19, oAld 0 20), (20, oCallV d mc ms P 0 0 yX10_factor (Cond.code yX10_factor cX10_factor 3 (some .int)) 0 10 23), (23, oPush (.int 0) 24), (24, oCallV d mc ms P 0 0 yX10_node (Cond.code yX10_node cX10_node 5 (some .int)) 4 10 27), (27, oIst 1 28), (28, oGoto 5), (31, oIld 1 32), (32, oRetI mc ms P)]
set_option maxRecDepth 20000 in
theorem sX10_product {p : Program} {l : Launch} {e : Env} {s : State} {m : MethodId} {args : Array Value} {below : List Frame} {meth : Method} {c : Code} {D : va_G} {cA : Nat → ClassId} {ad0 : Nat → Nat} {n0 sz d mc ms : Nat} {P : PO} (hM : FM p l s m args meth c D cA 2 ad0 n0 sz cX10_product RX10 (some .int) [] yX10_product.name) : ∀ q ∈ tX10_product d mc ms P, Snd (jM p l e s m args below meth c D cA 2 ad0 n0 sz (d + 1) mc ms P) q.1 q.2 := by
  have hF := hM.1
  have hts := hF.2.2.2.2.1
  unfold tX10_product
  refine fmS (snd_aloadn hF (k := 0) rfl (by decide +kernel)) ?_
  refine fmS (snd_callV hM k_X10_factor okX10 qw1257 qw1259 (hts _ qw43) (by decide +kernel)) ?_
  refine fmS (snd_istoren hF (k := 1) rfl (by decide) (by decide +kernel)) ?_
  refine fmS (snd_aloadn hF (k := 0) rfl (by decide +kernel)) ?_
  refine fmS (snd_bipush hF (n := 42) (by decide +kernel) (by decide +kernel)) ?_
  refine fmS (snd_callV hM k_X10_takes okX10 qw1241 qw1243 (hts _ qw39) (by decide +kernel)) ?_
  refine fmS (snd_if_eq hF (off := 20) (by decide) (by decide +kernel)) ?_
  refine fmS (snd_aloadn hF (k := 0) rfl (by decide +kernel)) ?_
  refine fmS (snd_sipush hF (n := 301) (by decide +kernel) (by decide +kernel)) ?_
  refine fmS (snd_iloadn hF (k := 1) rfl (by decide +kernel)) ?_
  refine fmS (snd_aloadn hF (k := 0) rfl (by decide +kernel)) ?_
  refine fmS (snd_callV hM k_X10_factor okX10 qw1257 qw1259 (hts _ qw43) (by decide +kernel)) ?_
  refine fmS (snd_iconst hF (n := 0) rfl (by decide +kernel)) ?_
  refine fmS (snd_callV hM k_X10_node okX10 qw1261 qw1263 (hts _ qw44) (by decide +kernel)) ?_
  refine fmS (snd_istoren hF (k := 1) rfl (by decide) (by decide +kernel)) ?_
  refine fmS (snd_goto hF (off := (-23)) (by decide) (by decide +kernel)) ?_
  refine fmS (snd_iloadn hF (k := 1) rfl (by decide +kernel)) ?_
  refine fmS (snd_retI hM (by decide +kernel)) ?_
  exact fmE
theorem iX10_product {d mc ms n : Nat} {av : List Value} {M : PM} {P : PO} (hw : wid av ≤ 2) (hb : ∀ J : KT, (∀ (k : Nat) (stops : Nat → Bool) (pc : Nat) (lv : LV) (st : List Value) (nn : NN) (M : PM), lk (tX10_product d mc ms P) pc (wpN (tX10_product d mc ms P) stops k J) lv st nn M → J pc lv st nn M) → J 0 (entA 0 av) [] (n, 0, 0) M) : CallOK (d + 1) mc ms yX10_product (Cond.code yX10_product cX10_product 2 (some .int)) av n M P := call_intro (own := RX10) (by decide) rfl hw (fun _ _ _ _ _ _ _ _ _ _ _ _ _ hM => sX10_product hM) hb
def tX10_opens (d mc ms : Nat) (P : PO) : List (Nat × OP) := [(0, oAld 0 1), (1, oGi 10 10 4), (4, oPush (.int 4) 5), (5, oIc (fun x y => x = y) 8 13), (8, oAld 0 9), (9, oPush (.int 1) 10), (10, oPz 10 9 13), (13, oAld 0 14), (14, oPush (.int 40) 16), (16, oCallV d mc ms P 0 0 yX10_expects (Cond.code yX10_expects cX10_expects 2 none) 1 10 19), (19, oAld 0 20), (20, oDup 21), (21, oGi 10 10 24), (24, oPush (.int 1) 25), (25, oI2 (fun x y => x + y) 26), (26, oPi 10 10 29), (29, oRetV mc ms P)]
set_option maxRecDepth 20000 in
theorem sX10_opens {p : Program} {l : Launch} {e : Env} {s : State} {m : MethodId} {args : Array Value} {below : List Frame} {meth : Method} {c : Code} {D : va_G} {cA : Nat → ClassId} {ad0 : Nat → Nat} {n0 sz d mc ms : Nat} {P : PO} (hM : FM p l s m args meth c D cA 1 ad0 n0 sz cX10_opens RX10 none [] yX10_opens.name) : ∀ q ∈ tX10_opens d mc ms P, Snd (jM p l e s m args below meth c D cA 1 ad0 n0 sz (d + 1) mc ms P) q.1 q.2 := by
  have hF := hM.1
  have hts := hF.2.2.2.2.1
  unfold tX10_opens
  refine fmS (snd_aloadn hF (k := 0) rfl (by decide +kernel)) ?_
  refine fmS (snd_geti hF okX10 (k := 10) (by decide) qw1114 rfl rfl (by decide +kernel)) ?_
  refine fmS (snd_iconst hF (n := 4) rfl (by decide +kernel)) ?_
  refine fmS (snd_icmp_ne hF (off := 8) (by decide) (by decide +kernel)) ?_
  refine fmS (snd_aloadn hF (k := 0) rfl (by decide +kernel)) ?_
  refine fmS (snd_iconst hF (n := 1) rfl (by decide +kernel)) ?_
  refine fmS (snd_putz hF okX10 (k := 9) (by decide) qw1113 rfl rfl rfl rfl (by decide +kernel)) ?_
  refine fmS (snd_aloadn hF (k := 0) rfl (by decide +kernel)) ?_
  refine fmS (snd_bipush hF (n := 40) (by decide +kernel) (by decide +kernel)) ?_
  refine fmS (snd_callV hM k_X10_expects okX10 qw1237 qw1239 (hts _ qw38) (by decide +kernel)) ?_
  refine fmS (snd_aloadn hF (k := 0) rfl (by decide +kernel)) ?_
  refine fmS (snd_dup hF (by decide +kernel)) ?_
  refine fmS (snd_geti hF okX10 (k := 10) (by decide) qw1114 rfl rfl (by decide +kernel)) ?_
  refine fmS (snd_iconst hF (n := 1) rfl (by decide +kernel)) ?_
  refine fmS (snd_iadd hF (by decide +kernel)) ?_
  refine fmS (snd_puti hF okX10 (k := 10) (by decide) qw1114 rfl rfl rfl rfl (by decide +kernel)) ?_
  refine fmS (snd_retV hM (by decide +kernel)) ?_
  exact fmE
theorem iX10_opens {d mc ms n : Nat} {av : List Value} {M : PM} {P : PO} (hw : wid av ≤ 1) (hb : ∀ J : KT, (∀ (k : Nat) (stops : Nat → Bool) (pc : Nat) (lv : LV) (st : List Value) (nn : NN) (M : PM), lk (tX10_opens d mc ms P) pc (wpN (tX10_opens d mc ms P) stops k J) lv st nn M → J pc lv st nn M) → J 0 (entA 0 av) [] (n, 0, 0) M) : CallOK (d + 1) mc ms yX10_opens (Cond.code yX10_opens cX10_opens 1 none) av n M P := call_intro (own := RX10) (by decide) rfl hw (fun _ _ _ _ _ _ _ _ _ _ _ _ _ hM => sX10_opens hM) hb
def tX10_closes (d mc ms : Nat) (P : PO) : List (Nat × OP) := [(0, oAld 0 1), (1, oPush (.int 41) 3), (3, oCallV d mc ms P 0 0 yX10_expects (Cond.code yX10_expects cX10_expects 2 none) 1 10 6), (6, oAld 0 7), (7, oDup 8), (8, oGi 10 10 11), (11, oPush (.int 1) 12), (12, oI2 (fun x y => x - y) 13), (13, oPi 10 10 16), (16, oRetV mc ms P)]
set_option maxRecDepth 20000 in
theorem sX10_closes {p : Program} {l : Launch} {e : Env} {s : State} {m : MethodId} {args : Array Value} {below : List Frame} {meth : Method} {c : Code} {D : va_G} {cA : Nat → ClassId} {ad0 : Nat → Nat} {n0 sz d mc ms : Nat} {P : PO} (hM : FM p l s m args meth c D cA 1 ad0 n0 sz cX10_closes RX10 none [] yX10_closes.name) : ∀ q ∈ tX10_closes d mc ms P, Snd (jM p l e s m args below meth c D cA 1 ad0 n0 sz (d + 1) mc ms P) q.1 q.2 := by
  have hF := hM.1
  have hts := hF.2.2.2.2.1
  unfold tX10_closes
  refine fmS (snd_aloadn hF (k := 0) rfl (by decide +kernel)) ?_
  refine fmS (snd_bipush hF (n := 41) (by decide +kernel) (by decide +kernel)) ?_
  refine fmS (snd_callV hM k_X10_expects okX10 qw1237 qw1239 (hts _ qw38) (by decide +kernel)) ?_
  refine fmS (snd_aloadn hF (k := 0) rfl (by decide +kernel)) ?_
  refine fmS (snd_dup hF (by decide +kernel)) ?_
  refine fmS (snd_geti hF okX10 (k := 10) (by decide) qw1114 rfl rfl (by decide +kernel)) ?_
  refine fmS (snd_iconst hF (n := 1) rfl (by decide +kernel)) ?_
  refine fmS (snd_isub hF (by decide +kernel)) ?_
  refine fmS (snd_puti hF okX10 (k := 10) (by decide) qw1114 rfl rfl rfl rfl (by decide +kernel)) ?_
  refine fmS (snd_retV hM (by decide +kernel)) ?_
  exact fmE
theorem iX10_closes {d mc ms n : Nat} {av : List Value} {M : PM} {P : PO} (hw : wid av ≤ 1) (hb : ∀ J : KT, (∀ (k : Nat) (stops : Nat → Bool) (pc : Nat) (lv : LV) (st : List Value) (nn : NN) (M : PM), lk (tX10_closes d mc ms P) pc (wpN (tX10_closes d mc ms P) stops k J) lv st nn M → J pc lv st nn M) → J 0 (entA 0 av) [] (n, 0, 0) M) : CallOK (d + 1) mc ms yX10_closes (Cond.code yX10_closes cX10_closes 1 none) av n M P := call_intro (own := RX10) (by decide) rfl hw (fun _ _ _ _ _ _ _ _ _ _ _ _ _ hM => sX10_closes hM) hb
def tX10_function (d mc ms : Nat) (P : PO) : List (Nat × OP) := [(0, oAld 0 1), (1, oCallV d mc ms P 0 0 yX10_opens (Cond.code yX10_opens cX10_opens 1 none) 0 10 4), (4, oAld 0 5), (5, oCallV d mc ms P 0 0 yX10_expression (Cond.code yX10_expression cX10_expression 3 (some .int)) 0 10 8), (8, oIst 2 9), (9, oAld 0 10), (10, oPush (.int 44) 12), (12, oCallV d mc ms P 0 0 yX10_expects (Cond.code yX10_expects cX10_expects 2 none) 1 10 15), (15, oAld 0 16), (16, oCallV d mc ms P 0 0 yX10_expression (Cond.code yX10_expression cX10_expression 3 (some .int)) 0 10 19), (19, oIst 3 20), (20, oPush (.int 0) 21), (21, oIst 4 23), (23, oIld 1 24), (24, oPush (.int 308) 27), (27, oIc (fun x y => x = y) 30 42), (30, oAld 0 31), (31, oPush (.int 44) 33), (33, oCallV d mc ms P 0 0 yX10_expects (Cond.code yX10_expects cX10_expects 2 none) 1 10 36), (36, oAld 0 37), (37, oCallV d mc ms P 0 0 yX10_expression (Cond.code yX10_expression cX10_expression 3 (some .int)) 0 10 40), (40, oIst 4 42), (42, oAld 0 43), (43, oCallV d mc ms P 0 0 yX10_closes (Cond.code yX10_closes cX10_closes 1 none) 0 10 46), (46, oAld 0 47), (47, oIld 1 48), (48, oIld 2 49), (49, oIld 3 50), (50, oIld 4 52), (52, oCallV d mc ms P 0 0 yX10_node (Cond.code yX10_node cX10_node 5 (some .int)) 4 10 55), (55, oRetI mc ms P)]
set_option maxRecDepth 20000 in
theorem sX10_function {p : Program} {l : Launch} {e : Env} {s : State} {m : MethodId} {args : Array Value} {below : List Frame} {meth : Method} {c : Code} {D : va_G} {cA : Nat → ClassId} {ad0 : Nat → Nat} {n0 sz d mc ms : Nat} {P : PO} (hM : FM p l s m args meth c D cA 5 ad0 n0 sz cX10_function RX10 (some .int) [] yX10_function.name) : ∀ q ∈ tX10_function d mc ms P, Snd (jM p l e s m args below meth c D cA 5 ad0 n0 sz (d + 1) mc ms P) q.1 q.2 := by
  have hF := hM.1
  have hts := hF.2.2.2.2.1
  unfold tX10_function
  refine fmS (snd_aloadn hF (k := 0) rfl (by decide +kernel)) ?_
  refine fmS (snd_callV hM k_X10_opens okX10 qw1269 qw1271 (hts _ qw46) (by decide +kernel)) ?_
  refine fmS (snd_aloadn hF (k := 0) rfl (by decide +kernel)) ?_
  refine fmS (snd_callV hM k_X10_expression okX10 qw1245 qw1247 (hts _ qw40) (by decide +kernel)) ?_
  refine fmS (snd_istoren hF (k := 2) rfl (by decide) (by decide +kernel)) ?_
  refine fmS (snd_aloadn hF (k := 0) rfl (by decide +kernel)) ?_
  refine fmS (snd_bipush hF (n := 44) (by decide +kernel) (by decide +kernel)) ?_
  refine fmS (snd_callV hM k_X10_expects okX10 qw1237 qw1239 (hts _ qw38) (by decide +kernel)) ?_
  refine fmS (snd_aloadn hF (k := 0) rfl (by decide +kernel)) ?_
  refine fmS (snd_callV hM k_X10_expression okX10 qw1245 qw1247 (hts _ qw40) (by decide +kernel)) ?_
  refine fmS (snd_istoren hF (k := 3) rfl (by decide) (by decide +kernel)) ?_
  refine fmS (snd_iconst hF (n := 0) rfl (by decide +kernel)) ?_
  refine fmS (snd_istore hF (by decide) (by decide +kernel)) ?_
  refine fmS (snd_iloadn hF (k := 1) rfl (by decide +kernel)) ?_
  refine fmS (snd_sipush hF (n := 308) (by decide +kernel) (by decide +kernel)) ?_
  refine fmS (snd_icmp_ne hF (off := 15) (by decide) (by decide +kernel)) ?_
  refine fmS (snd_aloadn hF (k := 0) rfl (by decide +kernel)) ?_
  refine fmS (snd_bipush hF (n := 44) (by decide +kernel) (by decide +kernel)) ?_
  refine fmS (snd_callV hM k_X10_expects okX10 qw1237 qw1239 (hts _ qw38) (by decide +kernel)) ?_
  refine fmS (snd_aloadn hF (k := 0) rfl (by decide +kernel)) ?_
  refine fmS (snd_callV hM k_X10_expression okX10 qw1245 qw1247 (hts _ qw40) (by decide +kernel)) ?_
  refine fmS (snd_istore hF (by decide) (by decide +kernel)) ?_
  refine fmS (snd_aloadn hF (k := 0) rfl (by decide +kernel)) ?_
  refine fmS (snd_callV hM k_X10_closes okX10 qw1273 qw1275 (hts _ qw47) (by decide +kernel)) ?_
  refine fmS (snd_aloadn hF (k := 0) rfl (by decide +kernel)) ?_
  refine fmS (snd_iloadn hF (k := 1) rfl (by decide +kernel)) ?_
  refine fmS (snd_iloadn hF (k := 2) rfl (by decide +kernel)) ?_
  refine fmS (snd_iloadn hF (k := 3) rfl (by decide +kernel)) ?_
  refine fmS (snd_iload hF (by decide +kernel)) ?_
  refine fmS (snd_callV hM k_X10_node okX10 qw1261 qw1263 (hts _ qw44) (by decide +kernel)) ?_
  refine fmS (snd_retI hM (by decide +kernel)) ?_
  exact fmE
theorem iX10_function {d mc ms n : Nat} {av : List Value} {M : PM} {P : PO} (hw : wid av ≤ 5) (hb : ∀ J : KT, (∀ (k : Nat) (stops : Nat → Bool) (pc : Nat) (lv : LV) (st : List Value) (nn : NN) (M : PM), lk (tX10_function d mc ms P) pc (wpN (tX10_function d mc ms P) stops k J) lv st nn M → J pc lv st nn M) → J 0 (entA 0 av) [] (n, 0, 0) M) : CallOK (d + 1) mc ms yX10_function (Cond.code yX10_function cX10_function 5 (some .int)) av n M P := call_intro (own := RX10) (by decide) rfl hw (fun _ _ _ _ _ _ _ _ _ _ _ _ _ hM => sX10_function hM) hb
def tX10_factor (d mc ms : Nat) (P : PO) : List (Nat × OP) := [(0, oAld 0 1), (1, oCallV d mc ms P 0 0 yX10_here (Cond.code yX10_here cX10_here 1 (some .int)) 0 10 4), (4, oIst 1 5), (5, oAld 0 6), (6, oGi 10 9 9), (9, oIf (fun x => x = 0) 14 12), (12, oPush (.int 0) 13), (13, oRetI mc ms P), (14, oIld 1 15), (15, oPush (.int 48) 17), (17, oPush (.int 57) 19), (19, oCallS d mc ms P 0 0 yX10_in (Cond.code yX10_in cX10_in 3 (some .boolean)) 3 22), (22, oIf (fun x => x = 0) 92 25), (25, oAld 0 26), (26, oDup 27), (27, oGi 10 7 30), (30, oPush (.int 1) 31), (31, oI2 (fun x y => x + y) 32), (32, oPi 10 7 35), (35, oIld 1 36), (36, oPush (.int 48) 38), (38, oI2 (fun x y => x - y) 39), (39, oIst 2 40), (40, oIld 2 41), (41, oIf (fun x => x ≤ 0) 83 44), (44, oAld 0 45), (45, oCallV d mc ms P 0 0 yX10_here (Cond.code yX10_here cX10_here 1 (some .int)) 0 10 48), (48, oPush (.int 48) 50), (50, oPush (.int 57) 52), (52, oCallS d mc ms P 0 0 yX10_in (Cond.code yX10_in cX10_in 3 (some .boolean)) 3 55), (55, oIf (fun x => x = 0) 83 58), (58, oPush (.int 10) 60), (60, oIld 2 61), (61, oI2 (fun x y => x * y) 62), (62, oAld 0 63), (63, oGr 10 5 66), (66, oAld 0 67), (67, oDup 68), (68, oGi 10 7 71), (71, oDupx1 72), (72, oPush (.int 1) 73), (73, oI2 (fun x y => x + y) 74), (74, oPi 10 7 77), (77, oAi 100 78), (78, oI2 (fun x y => x + y) 79), (79, oPush (.int 48) 81), (81, oI2 (fun x y => x - y) 82), (82, oIst 2 83), (83, oAld 0 84), (84, oIld 2 85), (85, oPush (.int 0) 86), (86, oPush (.int 0) 87), (87, oPush (.int 0) 88), (88, oCallV d mc ms P 0 0 yX10_node (Cond.code yX10_node cX10_node 5 (some .int)) 4 10 91), (91, oRetI mc ms P), (92, oIld 1 93), (93, oPush (.int 115) 95), (95, oPush (.int 122) 97), (97, oCallS d mc ms P 0 0 yX10_in (Cond.code yX10_in cX10_in 3 (some .boolean)) 3 100), (100, oIf (fun x => x = 0) 128 103), (103, oAld 0 104), (104, oDup 105), (105, oGi 10 7 108), (108, oPush (.int 1) 109), (109, oI2 (fun x y => x + y) 110), (110, oPi 10 7 113), (113, oAld 0 114), (114, oPush (.int 100) 116), (116, oIld 1 117), (117, oI2 (fun x y => x + y) 118), (118, oPush (.int 115) 120), (120, oI2 (fun x y => x - y) 121), (121, oPush (.int 0) 122), (122, oPush (.int 0) 123), (123, oPush (.int 0) 124), (124, oCallV d mc ms P 0 0 yX10_node (Cond.code yX10_node cX10_node 5 (some .int)) 4 10 127), (127, oRetI mc ms P), (128, oIld 1 129), (129, oPush (.int 97) 131), (131, oPush (.int 99) 133), (133, oCallS d mc ms P 0 0 yX10_in (Cond.code yX10_in cX10_in 3 (some .boolean)) 3 136), (136, oIf (fun x => x = 0) 183 139), (139, oAld 0 140), (140, oDup 141), (141, oGi 10 7 144), (144, oPush (.int 1) 145), (145, oI2 (fun x y => x + y) 146), (146, oPi 10 7 149), (149, oAld 0 150), (150, oPush (.int 91) 152), (152, oCallV d mc ms P 0 0 yX10_expects (Cond.code yX10_expects cX10_expects 2 none) 1 10 155), (155, oAld 0 156), (156, oPush (.int 105) 158), (158, oCallV d mc ms P 0 0 yX10_expects (Cond.code yX10_expects cX10_expects 2 none) 1 10 161), (161, oAld 0 162), (162, oPush (.int 93) 164), (164, oCallV d mc ms P 0 0 yX10_expects (Cond.code yX10_expects cX10_expects 2 none) 1 10 167), (167, oAld 0 168), (168, oPush (.int 200) 171), (171, oIld 1 172), (172, oI2 (fun x y => x + y) 173), (173, oPush (.int 97) 175), (175, oI2 (fun x y => x - y) 176), (176, oPush (.int 0) 177), (177, oPush (.int 0) 178), (178, oPush (.int 0) 179), (179, oCallV d mc ms P 0 0 yX10_node (Cond.code yX10_node cX10_node 5 (some .int)) 4 10 182), (182, oRetI mc ms P), (183, oAld 0 184), (184, oPush (.int 109) 186), (186, oCallV d mc ms P 0 0 yX10_takes (Cond.code yX10_takes cX10_takes 2 (some .boolean)) 1 10 189), (189, oIf (fun x => x = 0) 235 192), (192, oAld 0 193), (193, oPush (.int 105) 195), (195, oCallV d mc ms P 0 0 yX10_takes (Cond.code yX10_takes cX10_takes 2 (some .boolean)) 1 10 198), (198, oIf (fun x => x = 0) 215 201), (201, oAld 0 202), (202, oPush (.int 110) 204), (204, oCallV d mc ms P 0 0 yX10_expects (Cond.code yX10_expects cX10_expects 2 none) 1 10 207), (207, oAld 0 208), (208, oPush (.int 305) 211), (211, oCallV d mc ms P 0 0 yX10_function (Cond.code yX10_function cX10_function 5 (some .int)) 1 10 214), (214, oRetI mc ms P), (215, oAld 0 216), (216, oPush (.int 97) 218), (218, oCallV d mc ms P 0 0 yX10_expects (Cond.code yX10_expects cX10_expects 2 none) 1 10 221), (221, oAld 0 222), (222, oPush (.int 120) 224), (224, oCallV d mc ms P 0 0 yX10_expects (Cond.code yX10_expects cX10_expects 2 none) 1 10 227), (227, oAld 0 228), (228, oPush (.int 306) 231), (231, oCallV d mc ms P 0 0 yX10_function (Cond.code yX10_function cX10_function 5 (some .int)) 1 10 234), (234, oRetI mc ms P), (235, oAld 0 236), (236, oPush (.int 105) 238), (238, oCallV d mc ms P 0 0 yX10_takes (Cond.code yX10_takes cX10_takes 2 (some .boolean)) 1 10 241), (241, oIf (fun x => x = 0) 258 244), (244, oAld 0 245), (245, oPush (.int 102) 247), (247, oCallV d mc ms P 0 0 yX10_expects (Cond.code yX10_expects cX10_expects 2 none) 1 10 250), (250, oAld 0 251), (251, oPush (.int 308) 254), (254, oCallV d mc ms P 0 0 yX10_function (Cond.code yX10_function cX10_function 5 (some .int)) 1 10 257), (257, oRetI mc ms P), (258, oAld 0 259), (259, oCallV d mc ms P 0 0 yX10_opens (Cond.code yX10_opens cX10_opens 1 none) 0 10 262), (262, oAld 0 263), (263, oCallV d mc ms P 0 0 yX10_expression (Cond.code yX10_expression cX10_expression 3 (some .int)) 0 10 266), (266, oIst 2 267), (267, oAld 0 268), (268, oCallV d mc ms P 0 0 yX10_closes (Cond.code yX10_closes cX10_closes 1 none) 0 10 271), (271, oIld 2 272), (272, oRetI mc ms P)]
set_option maxRecDepth 20000 in
theorem sX10_factor {p : Program} {l : Launch} {e : Env} {s : State} {m : MethodId} {args : Array Value} {below : List Frame} {meth : Method} {c : Code} {D : va_G} {cA : Nat → ClassId} {ad0 : Nat → Nat} {n0 sz d mc ms : Nat} {P : PO} (hM : FM p l s m args meth c D cA 3 ad0 n0 sz cX10_factor RX10 (some .int) [] yX10_factor.name) : ∀ q ∈ tX10_factor d mc ms P, Snd (jM p l e s m args below meth c D cA 3 ad0 n0 sz (d + 1) mc ms P) q.1 q.2 := by
  have hF := hM.1
  have hts := hF.2.2.2.2.1
  unfold tX10_factor
  refine fmS (snd_aloadn hF (k := 0) rfl (by decide +kernel)) ?_
  refine fmS (snd_callV hM k_X10_here okX10 qw1233 qw1235 (hts _ qw37) (by decide +kernel)) ?_
  refine fmS (snd_istoren hF (k := 1) rfl (by decide) (by decide +kernel)) ?_
  refine fmS (snd_aloadn hF (k := 0) rfl (by decide +kernel)) ?_
  refine fmS (snd_geti hF okX10 (k := 9) (by decide) qw1113 rfl rfl (by decide +kernel)) ?_
  refine fmS (snd_if_eq hF (off := 5) (by decide) (by decide +kernel)) ?_
  refine fmS (snd_iconst hF (n := 0) rfl (by decide +kernel)) ?_
  refine fmS (snd_retI hM (by decide +kernel)) ?_
  refine fmS (snd_iloadn hF (k := 1) rfl (by decide +kernel)) ?_
  refine fmS (snd_bipush hF (n := 48) (by decide +kernel) (by decide +kernel)) ?_
  refine fmS (snd_bipush hF (n := 57) (by decide +kernel) (by decide +kernel)) ?_
  refine fmS (snd_callS hM k_X10_in qw1101 qw1102 (by decide +kernel)) ?_
  refine fmS (snd_if_eq hF (off := 70) (by decide) (by decide +kernel)) ?_
  refine fmS (snd_aloadn hF (k := 0) rfl (by decide +kernel)) ?_
  refine fmS (snd_dup hF (by decide +kernel)) ?_
  refine fmS (snd_geti hF okX10 (k := 7) (by decide) qw1111 rfl rfl (by decide +kernel)) ?_
  refine fmS (snd_iconst hF (n := 1) rfl (by decide +kernel)) ?_
  refine fmS (snd_iadd hF (by decide +kernel)) ?_
  refine fmS (snd_puti hF okX10 (k := 7) (by decide) qw1111 rfl rfl rfl rfl (by decide +kernel)) ?_
  refine fmS (snd_iloadn hF (k := 1) rfl (by decide +kernel)) ?_
  refine fmS (snd_bipush hF (n := 48) (by decide +kernel) (by decide +kernel)) ?_
  refine fmS (snd_isub hF (by decide +kernel)) ?_
  refine fmS (snd_istoren hF (k := 2) rfl (by decide) (by decide +kernel)) ?_
  refine fmS (snd_iloadn hF (k := 2) rfl (by decide +kernel)) ?_
  refine fmS (snd_if_le hF (off := 42) (by decide) (by decide +kernel)) ?_
  refine fmS (snd_aloadn hF (k := 0) rfl (by decide +kernel)) ?_
  refine fmS (snd_callV hM k_X10_here okX10 qw1233 qw1235 (hts _ qw37) (by decide +kernel)) ?_
  refine fmS (snd_bipush hF (n := 48) (by decide +kernel) (by decide +kernel)) ?_
  refine fmS (snd_bipush hF (n := 57) (by decide +kernel) (by decide +kernel)) ?_
  refine fmS (snd_callS hM k_X10_in qw1101 qw1102 (by decide +kernel)) ?_
  refine fmS (snd_if_eq hF (off := 28) (by decide) (by decide +kernel)) ?_
  refine fmS (snd_bipush hF (n := 10) (by decide +kernel) (by decide +kernel)) ?_
  refine fmS (snd_iloadn hF (k := 2) rfl (by decide +kernel)) ?_
  refine fmS (snd_imul hF (by decide +kernel)) ?_
  refine fmS (snd_aloadn hF (k := 0) rfl (by decide +kernel)) ?_
  refine fmS (snd_getr hF okX10 (k := 5) (by decide) qw1109 rfl rfl (by decide +kernel)) ?_
  refine fmS (snd_aloadn hF (k := 0) rfl (by decide +kernel)) ?_
  refine fmS (snd_dup hF (by decide +kernel)) ?_
  refine fmS (snd_geti hF okX10 (k := 7) (by decide) qw1111 rfl rfl (by decide +kernel)) ?_
  refine fmS (snd_dupx1 hF (by decide +kernel)) ?_
  refine fmS (snd_iconst hF (n := 1) rfl (by decide +kernel)) ?_
  refine fmS (snd_iadd hF (by decide +kernel)) ?_
  refine fmS (snd_puti hF okX10 (k := 7) (by decide) qw1111 rfl rfl rfl rfl (by decide +kernel)) ?_
  refine fmS (snd_iaload hF (by decide +kernel)) ?_
  refine fmS (snd_iadd hF (by decide +kernel)) ?_
  refine fmS (snd_bipush hF (n := 48) (by decide +kernel) (by decide +kernel)) ?_
  refine fmS (snd_isub hF (by decide +kernel)) ?_
  refine fmS (snd_istoren hF (k := 2) rfl (by decide) (by decide +kernel)) ?_
  refine fmS (snd_aloadn hF (k := 0) rfl (by decide +kernel)) ?_
  refine fmS (snd_iloadn hF (k := 2) rfl (by decide +kernel)) ?_
  refine fmS (snd_iconst hF (n := 0) rfl (by decide +kernel)) ?_
  refine fmS (snd_iconst hF (n := 0) rfl (by decide +kernel)) ?_
  refine fmS (snd_iconst hF (n := 0) rfl (by decide +kernel)) ?_
  refine fmS (snd_callV hM k_X10_node okX10 qw1261 qw1263 (hts _ qw44) (by decide +kernel)) ?_
  refine fmS (snd_retI hM (by decide +kernel)) ?_
  refine fmS (snd_iloadn hF (k := 1) rfl (by decide +kernel)) ?_
  refine fmS (snd_bipush hF (n := 115) (by decide +kernel) (by decide +kernel)) ?_
  refine fmS (snd_bipush hF (n := 122) (by decide +kernel) (by decide +kernel)) ?_
  refine fmS (snd_callS hM k_X10_in qw1101 qw1102 (by decide +kernel)) ?_
  refine fmS (snd_if_eq hF (off := 28) (by decide) (by decide +kernel)) ?_
  refine fmS (snd_aloadn hF (k := 0) rfl (by decide +kernel)) ?_
  refine fmS (snd_dup hF (by decide +kernel)) ?_
  refine fmS (snd_geti hF okX10 (k := 7) (by decide) qw1111 rfl rfl (by decide +kernel)) ?_
  refine fmS (snd_iconst hF (n := 1) rfl (by decide +kernel)) ?_
  refine fmS (snd_iadd hF (by decide +kernel)) ?_
  refine fmS (snd_puti hF okX10 (k := 7) (by decide) qw1111 rfl rfl rfl rfl (by decide +kernel)) ?_
  refine fmS (snd_aloadn hF (k := 0) rfl (by decide +kernel)) ?_
  refine fmS (snd_bipush hF (n := 100) (by decide +kernel) (by decide +kernel)) ?_
  refine fmS (snd_iloadn hF (k := 1) rfl (by decide +kernel)) ?_
  refine fmS (snd_iadd hF (by decide +kernel)) ?_
  refine fmS (snd_bipush hF (n := 115) (by decide +kernel) (by decide +kernel)) ?_
  refine fmS (snd_isub hF (by decide +kernel)) ?_
  refine fmS (snd_iconst hF (n := 0) rfl (by decide +kernel)) ?_
  refine fmS (snd_iconst hF (n := 0) rfl (by decide +kernel)) ?_
  refine fmS (snd_iconst hF (n := 0) rfl (by decide +kernel)) ?_
  refine fmS (snd_callV hM k_X10_node okX10 qw1261 qw1263 (hts _ qw44) (by decide +kernel)) ?_
  refine fmS (snd_retI hM (by decide +kernel)) ?_
  refine fmS (snd_iloadn hF (k := 1) rfl (by decide +kernel)) ?_
  refine fmS (snd_bipush hF (n := 97) (by decide +kernel) (by decide +kernel)) ?_
  refine fmS (snd_bipush hF (n := 99) (by decide +kernel) (by decide +kernel)) ?_
  refine fmS (snd_callS hM k_X10_in qw1101 qw1102 (by decide +kernel)) ?_
  refine fmS (snd_if_eq hF (off := 47) (by decide) (by decide +kernel)) ?_
  refine fmS (snd_aloadn hF (k := 0) rfl (by decide +kernel)) ?_
  refine fmS (snd_dup hF (by decide +kernel)) ?_
  refine fmS (snd_geti hF okX10 (k := 7) (by decide) qw1111 rfl rfl (by decide +kernel)) ?_
  refine fmS (snd_iconst hF (n := 1) rfl (by decide +kernel)) ?_
  refine fmS (snd_iadd hF (by decide +kernel)) ?_
  refine fmS (snd_puti hF okX10 (k := 7) (by decide) qw1111 rfl rfl rfl rfl (by decide +kernel)) ?_
  refine fmS (snd_aloadn hF (k := 0) rfl (by decide +kernel)) ?_
  refine fmS (snd_bipush hF (n := 91) (by decide +kernel) (by decide +kernel)) ?_
  refine fmS (snd_callV hM k_X10_expects okX10 qw1237 qw1239 (hts _ qw38) (by decide +kernel)) ?_
  refine fmS (snd_aloadn hF (k := 0) rfl (by decide +kernel)) ?_
  refine fmS (snd_bipush hF (n := 105) (by decide +kernel) (by decide +kernel)) ?_
  refine fmS (snd_callV hM k_X10_expects okX10 qw1237 qw1239 (hts _ qw38) (by decide +kernel)) ?_
  refine fmS (snd_aloadn hF (k := 0) rfl (by decide +kernel)) ?_
  refine fmS (snd_bipush hF (n := 93) (by decide +kernel) (by decide +kernel)) ?_
  refine fmS (snd_callV hM k_X10_expects okX10 qw1237 qw1239 (hts _ qw38) (by decide +kernel)) ?_
  refine fmS (snd_aloadn hF (k := 0) rfl (by decide +kernel)) ?_
  refine fmS (snd_sipush hF (n := 200) (by decide +kernel) (by decide +kernel)) ?_
  refine fmS (snd_iloadn hF (k := 1) rfl (by decide +kernel)) ?_
  refine fmS (snd_iadd hF (by decide +kernel)) ?_
  refine fmS (snd_bipush hF (n := 97) (by decide +kernel) (by decide +kernel)) ?_
  refine fmS (snd_isub hF (by decide +kernel)) ?_
  refine fmS (snd_iconst hF (n := 0) rfl (by decide +kernel)) ?_
  refine fmS (snd_iconst hF (n := 0) rfl (by decide +kernel)) ?_
  refine fmS (snd_iconst hF (n := 0) rfl (by decide +kernel)) ?_
  refine fmS (snd_callV hM k_X10_node okX10 qw1261 qw1263 (hts _ qw44) (by decide +kernel)) ?_
  refine fmS (snd_retI hM (by decide +kernel)) ?_
  refine fmS (snd_aloadn hF (k := 0) rfl (by decide +kernel)) ?_
  refine fmS (snd_bipush hF (n := 109) (by decide +kernel) (by decide +kernel)) ?_
  refine fmS (snd_callV hM k_X10_takes okX10 qw1241 qw1243 (hts _ qw39) (by decide +kernel)) ?_
  refine fmS (snd_if_eq hF (off := 46) (by decide) (by decide +kernel)) ?_
  refine fmS (snd_aloadn hF (k := 0) rfl (by decide +kernel)) ?_
  refine fmS (snd_bipush hF (n := 105) (by decide +kernel) (by decide +kernel)) ?_
  refine fmS (snd_callV hM k_X10_takes okX10 qw1241 qw1243 (hts _ qw39) (by decide +kernel)) ?_
  refine fmS (snd_if_eq hF (off := 17) (by decide) (by decide +kernel)) ?_
  refine fmS (snd_aloadn hF (k := 0) rfl (by decide +kernel)) ?_
  refine fmS (snd_bipush hF (n := 110) (by decide +kernel) (by decide +kernel)) ?_
  refine fmS (snd_callV hM k_X10_expects okX10 qw1237 qw1239 (hts _ qw38) (by decide +kernel)) ?_
  refine fmS (snd_aloadn hF (k := 0) rfl (by decide +kernel)) ?_
  refine fmS (snd_sipush hF (n := 305) (by decide +kernel) (by decide +kernel)) ?_
  refine fmS (snd_callV hM k_X10_function okX10 qw1265 qw1267 (hts _ qw45) (by decide +kernel)) ?_
  refine fmS (snd_retI hM (by decide +kernel)) ?_
  refine fmS (snd_aloadn hF (k := 0) rfl (by decide +kernel)) ?_
  refine fmS (snd_bipush hF (n := 97) (by decide +kernel) (by decide +kernel)) ?_
  refine fmS (snd_callV hM k_X10_expects okX10 qw1237 qw1239 (hts _ qw38) (by decide +kernel)) ?_
  refine fmS (snd_aloadn hF (k := 0) rfl (by decide +kernel)) ?_
  refine fmS (snd_bipush hF (n := 120) (by decide +kernel) (by decide +kernel)) ?_
  refine fmS (snd_callV hM k_X10_expects okX10 qw1237 qw1239 (hts _ qw38) (by decide +kernel)) ?_
  refine fmS (snd_aloadn hF (k := 0) rfl (by decide +kernel)) ?_
  refine fmS (snd_sipush hF (n := 306) (by decide +kernel) (by decide +kernel)) ?_
  refine fmS (snd_callV hM k_X10_function okX10 qw1265 qw1267 (hts _ qw45) (by decide +kernel)) ?_
  refine fmS (snd_retI hM (by decide +kernel)) ?_
  refine fmS (snd_aloadn hF (k := 0) rfl (by decide +kernel)) ?_
  refine fmS (snd_bipush hF (n := 105) (by decide +kernel) (by decide +kernel)) ?_
  refine fmS (snd_callV hM k_X10_takes okX10 qw1241 qw1243 (hts _ qw39) (by decide +kernel)) ?_
  refine fmS (snd_if_eq hF (off := 17) (by decide) (by decide +kernel)) ?_
  refine fmS (snd_aloadn hF (k := 0) rfl (by decide +kernel)) ?_
  refine fmS (snd_bipush hF (n := 102) (by decide +kernel) (by decide +kernel)) ?_
  refine fmS (snd_callV hM k_X10_expects okX10 qw1237 qw1239 (hts _ qw38) (by decide +kernel)) ?_
  refine fmS (snd_aloadn hF (k := 0) rfl (by decide +kernel)) ?_
  refine fmS (snd_sipush hF (n := 308) (by decide +kernel) (by decide +kernel)) ?_
  refine fmS (snd_callV hM k_X10_function okX10 qw1265 qw1267 (hts _ qw45) (by decide +kernel)) ?_
  refine fmS (snd_retI hM (by decide +kernel)) ?_
  refine fmS (snd_aloadn hF (k := 0) rfl (by decide +kernel)) ?_
  refine fmS (snd_callV hM k_X10_opens okX10 qw1269 qw1271 (hts _ qw46) (by decide +kernel)) ?_
  refine fmS (snd_aloadn hF (k := 0) rfl (by decide +kernel)) ?_
  refine fmS (snd_callV hM k_X10_expression okX10 qw1245 qw1247 (hts _ qw40) (by decide +kernel)) ?_
  refine fmS (snd_istoren hF (k := 2) rfl (by decide) (by decide +kernel)) ?_
  refine fmS (snd_aloadn hF (k := 0) rfl (by decide +kernel)) ?_
  refine fmS (snd_callV hM k_X10_closes okX10 qw1273 qw1275 (hts _ qw47) (by decide +kernel)) ?_
  refine fmS (snd_iloadn hF (k := 2) rfl (by decide +kernel)) ?_
  refine fmS (snd_retI hM (by decide +kernel)) ?_
  exact fmE
theorem iX10_factor {d mc ms n : Nat} {av : List Value} {M : PM} {P : PO} (hw : wid av ≤ 3) (hb : ∀ J : KT, (∀ (k : Nat) (stops : Nat → Bool) (pc : Nat) (lv : LV) (st : List Value) (nn : NN) (M : PM), lk (tX10_factor d mc ms P) pc (wpN (tX10_factor d mc ms P) stops k J) lv st nn M → J pc lv st nn M) → J 0 (entA 0 av) [] (n, 0, 0) M) : CallOK (d + 1) mc ms yX10_factor (Cond.code yX10_factor cX10_factor 3 (some .int)) av n M P := call_intro (own := RX10) (by decide) rfl hw (fun _ _ _ _ _ _ _ _ _ _ _ _ _ hM => sX10_factor hM) hb
def tX10_operands (d mc ms : Nat) (P : PO) : List (Nat × OP) := [(0, oIld 0 1), (1, oPush (.int 308) 4), (4, oIc (fun x y => x = y) 7 11), (7, oPush (.int 3) 8), (8, oGoto 23), (11, oIld 0 12), (12, oPush (.int 300) 15), (15, oIc (fun x y => x < y) 22 18), (18, oPush (.int 2) 19), (19, oGoto 23), (22, oPush (.int 0) 23), (23, oRetI mc ms P)]
set_option maxRecDepth 20000 in
theorem sX10_operands {p : Program} {l : Launch} {e : Env} {s : State} {m : MethodId} {args : Array Value} {below : List Frame} {meth : Method} {c : Code} {D : va_G} {cA : Nat → ClassId} {ad0 : Nat → Nat} {n0 sz d mc ms : Nat} {P : PO} (hM : FM p l s m args meth c D cA 1 ad0 n0 sz cX10_operands RX10 (some .int) [] yX10_operands.name) : ∀ q ∈ tX10_operands d mc ms P, Snd (jM p l e s m args below meth c D cA 1 ad0 n0 sz (d + 1) mc ms P) q.1 q.2 := by
  have hF := hM.1
  have hts := hF.2.2.2.2.1
  unfold tX10_operands
  refine fmS (snd_iloadn hF (k := 0) rfl (by decide +kernel)) ?_
  refine fmS (snd_sipush hF (n := 308) (by decide +kernel) (by decide +kernel)) ?_
  refine fmS (snd_icmp_ne hF (off := 7) (by decide) (by decide +kernel)) ?_
  refine fmS (snd_iconst hF (n := 3) rfl (by decide +kernel)) ?_
  refine fmS (snd_goto hF (off := 15) (by decide) (by decide +kernel)) ?_
  refine fmS (snd_iloadn hF (k := 0) rfl (by decide +kernel)) ?_
  refine fmS (snd_sipush hF (n := 300) (by decide +kernel) (by decide +kernel)) ?_
  refine fmS (snd_icmp_lt hF (off := 7) (by decide) (by decide +kernel)) ?_
  refine fmS (snd_iconst hF (n := 2) rfl (by decide +kernel)) ?_
  refine fmS (snd_goto hF (off := 4) (by decide) (by decide +kernel)) ?_
  refine fmS (snd_iconst hF (n := 0) rfl (by decide +kernel)) ?_
  refine fmS (snd_retI hM (by decide +kernel)) ?_
  exact fmE
theorem iX10_operands {d mc ms n : Nat} {av : List Value} {M : PM} {P : PO} (hw : wid av ≤ 1) (hb : ∀ J : KT, (∀ (k : Nat) (stops : Nat → Bool) (pc : Nat) (lv : LV) (st : List Value) (nn : NN) (M : PM), lk (tX10_operands d mc ms P) pc (wpN (tX10_operands d mc ms P) stops k J) lv st nn M → J pc lv st nn M) → J 0 (entA 0 av) [] (n, 0, 0) M) : CallOK (d + 1) mc ms yX10_operands (Cond.code yX10_operands cX10_operands 1 (some .int)) av n M P := call_intro (own := RX10) (by decide) rfl hw (fun _ _ _ _ _ _ _ _ _ _ _ _ _ hM => sX10_operands hM) hb
def tX10_writes (d mc ms : Nat) (P : PO) : List (Nat × OP) := [(0, oAld 0 1), (1, oGr 10 18 4), (4, oAld 0 5), (5, oDup 6), (6, oGi 10 19 9), (9, oDupx1 10), (10, oPush (.int 1) 11), (11, oI2 (fun x y => x + y) 12), (12, oPi 10 19 15), (15, oAld 0 16), (16, oGr 10 11 19), (19, oIld 1 20), (20, oAi 100 21), (21, oSi 100 (fun x => x) 22), (22, oAld 0 23), (23, oGr 10 11 26), (26, oIld 1 27), (27, oAi 100 28), (28, oCallS d mc ms P 0 0 yX10_operands (Cond.code yX10_operands cX10_operands 1 (some .int)) 1 31), (31, oIst 2 32), (32, oIld 2 33), (33, oIf (fun x => x ≤ 0) 46 36), (36, oAld 0 37), (37, oAld 0 38), (38, oGr 10 12 41), (41, oIld 1 42), (42, oAi 100 43), (43, oCallV d mc ms P 0 0 yX10_writes (Cond.code yX10_writes cX10_writes 3 none) 1 10 46), (46, oIld 2 47), (47, oPush (.int 1) 48), (48, oIc (fun x y => x ≤ y) 61 51), (51, oAld 0 52), (52, oAld 0 53), (53, oGr 10 13 56), (56, oIld 1 57), (57, oAi 100 58), (58, oCallV d mc ms P 0 0 yX10_writes (Cond.code yX10_writes cX10_writes 3 none) 1 10 61), (61, oIld 2 62), (62, oPush (.int 2) 63), (63, oIc (fun x y => x ≤ y) 76 66), (66, oAld 0 67), (67, oAld 0 68), (68, oGr 10 14 71), (71, oIld 1 72), (72, oAi 100 73), (73, oCallV d mc ms P 0 0 yX10_writes (Cond.code yX10_writes cX10_writes 3 none) 1 10 76), (76, oRetV mc ms P)]
set_option maxRecDepth 20000 in
theorem sX10_writes {p : Program} {l : Launch} {e : Env} {s : State} {m : MethodId} {args : Array Value} {below : List Frame} {meth : Method} {c : Code} {D : va_G} {cA : Nat → ClassId} {ad0 : Nat → Nat} {n0 sz d mc ms : Nat} {P : PO} (hM : FM p l s m args meth c D cA 3 ad0 n0 sz cX10_writes RX10 none [] yX10_writes.name) : ∀ q ∈ tX10_writes d mc ms P, Snd (jM p l e s m args below meth c D cA 3 ad0 n0 sz (d + 1) mc ms P) q.1 q.2 := by
  have hF := hM.1
  have hts := hF.2.2.2.2.1
  unfold tX10_writes
  refine fmS (snd_aloadn hF (k := 0) rfl (by decide +kernel)) ?_
  refine fmS (snd_getr hF okX10 (k := 18) (by decide) qw1122 rfl rfl (by decide +kernel)) ?_
  refine fmS (snd_aloadn hF (k := 0) rfl (by decide +kernel)) ?_
  refine fmS (snd_dup hF (by decide +kernel)) ?_
  refine fmS (snd_geti hF okX10 (k := 19) (by decide) qw1123 rfl rfl (by decide +kernel)) ?_
  refine fmS (snd_dupx1 hF (by decide +kernel)) ?_
  refine fmS (snd_iconst hF (n := 1) rfl (by decide +kernel)) ?_
  refine fmS (snd_iadd hF (by decide +kernel)) ?_
  refine fmS (snd_puti hF okX10 (k := 19) (by decide) qw1123 rfl rfl rfl rfl (by decide +kernel)) ?_
  refine fmS (snd_aloadn hF (k := 0) rfl (by decide +kernel)) ?_
  refine fmS (snd_getr hF okX10 (k := 11) (by decide) qw1115 rfl rfl (by decide +kernel)) ?_
  refine fmS (snd_iloadn hF (k := 1) rfl (by decide +kernel)) ?_
  refine fmS (snd_iaload hF (by decide +kernel)) ?_
  refine fmS (snd_iastore hF (by decide +kernel)) ?_
  refine fmS (snd_aloadn hF (k := 0) rfl (by decide +kernel)) ?_
  refine fmS (snd_getr hF okX10 (k := 11) (by decide) qw1115 rfl rfl (by decide +kernel)) ?_
  refine fmS (snd_iloadn hF (k := 1) rfl (by decide +kernel)) ?_
  refine fmS (snd_iaload hF (by decide +kernel)) ?_
  refine fmS (snd_callS hM k_X10_operands qw1281 qw1282 (by decide +kernel)) ?_
  refine fmS (snd_istoren hF (k := 2) rfl (by decide) (by decide +kernel)) ?_
  refine fmS (snd_iloadn hF (k := 2) rfl (by decide +kernel)) ?_
  refine fmS (snd_if_le hF (off := 13) (by decide) (by decide +kernel)) ?_
  refine fmS (snd_aloadn hF (k := 0) rfl (by decide +kernel)) ?_
  refine fmS (snd_aloadn hF (k := 0) rfl (by decide +kernel)) ?_
  refine fmS (snd_getr hF okX10 (k := 12) (by decide) qw1116 rfl rfl (by decide +kernel)) ?_
  refine fmS (snd_iloadn hF (k := 1) rfl (by decide +kernel)) ?_
  refine fmS (snd_iaload hF (by decide +kernel)) ?_
  refine fmS (snd_callV hM k_X10_writes okX10 qw1277 qw1279 (hts _ qw48) (by decide +kernel)) ?_
  refine fmS (snd_iloadn hF (k := 2) rfl (by decide +kernel)) ?_
  refine fmS (snd_iconst hF (n := 1) rfl (by decide +kernel)) ?_
  refine fmS (snd_icmp_le hF (off := 13) (by decide) (by decide +kernel)) ?_
  refine fmS (snd_aloadn hF (k := 0) rfl (by decide +kernel)) ?_
  refine fmS (snd_aloadn hF (k := 0) rfl (by decide +kernel)) ?_
  refine fmS (snd_getr hF okX10 (k := 13) (by decide) qw1117 rfl rfl (by decide +kernel)) ?_
  refine fmS (snd_iloadn hF (k := 1) rfl (by decide +kernel)) ?_
  refine fmS (snd_iaload hF (by decide +kernel)) ?_
  refine fmS (snd_callV hM k_X10_writes okX10 qw1277 qw1279 (hts _ qw48) (by decide +kernel)) ?_
  refine fmS (snd_iloadn hF (k := 2) rfl (by decide +kernel)) ?_
  refine fmS (snd_iconst hF (n := 2) rfl (by decide +kernel)) ?_
  refine fmS (snd_icmp_le hF (off := 13) (by decide) (by decide +kernel)) ?_
  refine fmS (snd_aloadn hF (k := 0) rfl (by decide +kernel)) ?_
  refine fmS (snd_aloadn hF (k := 0) rfl (by decide +kernel)) ?_
  refine fmS (snd_getr hF okX10 (k := 14) (by decide) qw1118 rfl rfl (by decide +kernel)) ?_
  refine fmS (snd_iloadn hF (k := 1) rfl (by decide +kernel)) ?_
  refine fmS (snd_iaload hF (by decide +kernel)) ?_
  refine fmS (snd_callV hM k_X10_writes okX10 qw1277 qw1279 (hts _ qw48) (by decide +kernel)) ?_
  refine fmS (snd_retV hM (by decide +kernel)) ?_
  exact fmE
theorem iX10_writes {d mc ms n : Nat} {av : List Value} {M : PM} {P : PO} (hw : wid av ≤ 3) (hb : ∀ J : KT, (∀ (k : Nat) (stops : Nat → Bool) (pc : Nat) (lv : LV) (st : List Value) (nn : NN) (M : PM), lk (tX10_writes d mc ms P) pc (wpN (tX10_writes d mc ms P) stops k J) lv st nn M → J pc lv st nn M) → J 0 (entA 0 av) [] (n, 0, 0) M) : CallOK (d + 1) mc ms yX10_writes (Cond.code yX10_writes cX10_writes 3 none) av n M P := call_intro (own := RX10) (by decide) rfl hw (fun _ _ _ _ _ _ _ _ _ _ _ _ _ hM => sX10_writes hM) hb
def tX10_reads (d mc ms : Nat) (P : PO) : List (Nat × OP) := [(0, oAld 0 1), (1, oPush (.int 0) 2), (2, oPi 10 7 5), (5, oAld 0 6), (6, oPush (.int 0) 7), (7, oPz 10 9 10), (10, oAld 0 11), (11, oPush (.int 0) 12), (12, oPi 10 19 15), (15, oAld 0 16), (16, oPush (.int 0) 17), (17, oPi 10 15 20), (20, oPush (.int 0) 21), (21, oIst 1 22), (22, oAld 0 23), (23, oGi 10 9 26), (26, oIf (fun x => x = 0) 29 143), (29, oAld 0 30), (30, oGi 10 7 33), (33, oAld 0 34), (34, oGi 10 6 37), (37, oIc (fun x y => x < y) 44 40), (40, oIld 1 41), (41, oIf (fun x => x = 0) 44 143), (44, oAld 0 45), (45, oPush (.int 0) 46), (46, oPi 10 10 49), (49, oAld 0 50), (50, oCallV d mc ms P 0 0 yX10_here (Cond.code yX10_here cX10_here 1 (some .int)) 0 10 53), (53, oIst 2 54), (54, oIld 2 55), (55, oPush (.int 115) 57), (57, oPush (.int 122) 59), (59, oCallS d mc ms P 0 0 yX10_in (Cond.code yX10_in cX10_in 3 (some .boolean)) 3 62), (62, oIf (fun x => x = 0) 65 67), (65, oPush (.int (-1)) 66), (66, oRetI mc ms P), (67, oAld 0 68), (68, oDup 69), (69, oGi 10 7 72), (72, oPush (.int 1) 73), (73, oI2 (fun x y => x + y) 74), (74, oPi 10 7 77), (77, oAld 0 78), (78, oPush (.int 61) 80), (80, oCallV d mc ms P 0 0 yX10_expects (Cond.code yX10_expects cX10_expects 2 none) 1 10 83), (83, oAld 0 84), (84, oCallV d mc ms P 0 0 yX10_expression (Cond.code yX10_expression cX10_expression 3 (some .int)) 0 10 87), (87, oIst 3 88), (88, oAld 0 89), (89, oPush (.int 59) 91), (91, oCallV d mc ms P 0 0 yX10_expects (Cond.code yX10_expects cX10_expects 2 none) 1 10 94), (94, oAld 0 95), (95, oGi 10 9 98), (98, oIf (fun x => x = 0) 103 101), (101, oPush (.int (-1)) 102), (102, oRetI mc ms P), (103, oAld 0 104), (104, oGi 10 19 107), (107, oIst 4 109), (109, oAld 0 110), (110, oIld 3 111), (111, oCallV d mc ms P 0 0 yX10_writes (Cond.code yX10_writes cX10_writes 3 none) 1 10 114), (114, oAld 0 115), (115, oGr 10 16 118), (118, oIld 1 119), (119, oIld 2 120), (120, oPush (.int 115) 122), (122, oI2 (fun x y => x - y) 123), (123, oSi 100 (fun x => x) 124), (124, oAld 0 125), (125, oGr 10 17 128), (128, oIld 1 129), (129, oInc 1 1 132), (132, oAld 0 133), (133, oGi 10 19 136), (136, oIld 4 138), (138, oI2 (fun x y => x - y) 139), (139, oSi 100 (fun x => x) 140), (140, oGoto 22), (143, oIld 1 144), (144, oRetI mc ms P)]
set_option maxRecDepth 20000 in
theorem sX10_reads {p : Program} {l : Launch} {e : Env} {s : State} {m : MethodId} {args : Array Value} {below : List Frame} {meth : Method} {c : Code} {D : va_G} {cA : Nat → ClassId} {ad0 : Nat → Nat} {n0 sz d mc ms : Nat} {P : PO} (hM : FM p l s m args meth c D cA 5 ad0 n0 sz cX10_reads RX10 (some .int) [] yX10_reads.name) : ∀ q ∈ tX10_reads d mc ms P, Snd (jM p l e s m args below meth c D cA 5 ad0 n0 sz (d + 1) mc ms P) q.1 q.2 := by
  have hF := hM.1
  have hts := hF.2.2.2.2.1
  unfold tX10_reads
  refine fmS (snd_aloadn hF (k := 0) rfl (by decide +kernel)) ?_
  refine fmS (snd_iconst hF (n := 0) rfl (by decide +kernel)) ?_
  refine fmS (snd_puti hF okX10 (k := 7) (by decide) qw1111 rfl rfl rfl rfl (by decide +kernel)) ?_
  refine fmS (snd_aloadn hF (k := 0) rfl (by decide +kernel)) ?_
  refine fmS (snd_iconst hF (n := 0) rfl (by decide +kernel)) ?_
  refine fmS (snd_putz hF okX10 (k := 9) (by decide) qw1113 rfl rfl rfl rfl (by decide +kernel)) ?_
  refine fmS (snd_aloadn hF (k := 0) rfl (by decide +kernel)) ?_
  refine fmS (snd_iconst hF (n := 0) rfl (by decide +kernel)) ?_
  refine fmS (snd_puti hF okX10 (k := 19) (by decide) qw1123 rfl rfl rfl rfl (by decide +kernel)) ?_
  refine fmS (snd_aloadn hF (k := 0) rfl (by decide +kernel)) ?_
  refine fmS (snd_iconst hF (n := 0) rfl (by decide +kernel)) ?_
  refine fmS (snd_puti hF okX10 (k := 15) (by decide) qw1119 rfl rfl rfl rfl (by decide +kernel)) ?_
  refine fmS (snd_iconst hF (n := 0) rfl (by decide +kernel)) ?_
  refine fmS (snd_istoren hF (k := 1) rfl (by decide) (by decide +kernel)) ?_
  refine fmS (snd_aloadn hF (k := 0) rfl (by decide +kernel)) ?_
  refine fmS (snd_geti hF okX10 (k := 9) (by decide) qw1113 rfl rfl (by decide +kernel)) ?_
  refine fmS (snd_if_ne hF (off := 117) (by decide) (by decide +kernel)) ?_
  refine fmS (snd_aloadn hF (k := 0) rfl (by decide +kernel)) ?_
  refine fmS (snd_geti hF okX10 (k := 7) (by decide) qw1111 rfl rfl (by decide +kernel)) ?_
  refine fmS (snd_aloadn hF (k := 0) rfl (by decide +kernel)) ?_
  refine fmS (snd_geti hF okX10 (k := 6) (by decide) qw1110 rfl rfl (by decide +kernel)) ?_
  refine fmS (snd_icmp_lt hF (off := 7) (by decide) (by decide +kernel)) ?_
  refine fmS (snd_iloadn hF (k := 1) rfl (by decide +kernel)) ?_
  refine fmS (snd_if_ne hF (off := 102) (by decide) (by decide +kernel)) ?_
  refine fmS (snd_aloadn hF (k := 0) rfl (by decide +kernel)) ?_
  refine fmS (snd_iconst hF (n := 0) rfl (by decide +kernel)) ?_
  refine fmS (snd_puti hF okX10 (k := 10) (by decide) qw1114 rfl rfl rfl rfl (by decide +kernel)) ?_
  refine fmS (snd_aloadn hF (k := 0) rfl (by decide +kernel)) ?_
  refine fmS (snd_callV hM k_X10_here okX10 qw1233 qw1235 (hts _ qw37) (by decide +kernel)) ?_
  refine fmS (snd_istoren hF (k := 2) rfl (by decide) (by decide +kernel)) ?_
  refine fmS (snd_iloadn hF (k := 2) rfl (by decide +kernel)) ?_
  refine fmS (snd_bipush hF (n := 115) (by decide +kernel) (by decide +kernel)) ?_
  refine fmS (snd_bipush hF (n := 122) (by decide +kernel) (by decide +kernel)) ?_
  refine fmS (snd_callS hM k_X10_in qw1101 qw1102 (by decide +kernel)) ?_
  refine fmS (snd_if_ne hF (off := 5) (by decide) (by decide +kernel)) ?_
  refine fmS (snd_iconst hF (n := (-1)) rfl (by decide +kernel)) ?_
  refine fmS (snd_retI hM (by decide +kernel)) ?_
  refine fmS (snd_aloadn hF (k := 0) rfl (by decide +kernel)) ?_
  refine fmS (snd_dup hF (by decide +kernel)) ?_
  refine fmS (snd_geti hF okX10 (k := 7) (by decide) qw1111 rfl rfl (by decide +kernel)) ?_
  refine fmS (snd_iconst hF (n := 1) rfl (by decide +kernel)) ?_
  refine fmS (snd_iadd hF (by decide +kernel)) ?_
  refine fmS (snd_puti hF okX10 (k := 7) (by decide) qw1111 rfl rfl rfl rfl (by decide +kernel)) ?_
  refine fmS (snd_aloadn hF (k := 0) rfl (by decide +kernel)) ?_
  refine fmS (snd_bipush hF (n := 61) (by decide +kernel) (by decide +kernel)) ?_
  refine fmS (snd_callV hM k_X10_expects okX10 qw1237 qw1239 (hts _ qw38) (by decide +kernel)) ?_
  refine fmS (snd_aloadn hF (k := 0) rfl (by decide +kernel)) ?_
  refine fmS (snd_callV hM k_X10_expression okX10 qw1245 qw1247 (hts _ qw40) (by decide +kernel)) ?_
  refine fmS (snd_istoren hF (k := 3) rfl (by decide) (by decide +kernel)) ?_
  refine fmS (snd_aloadn hF (k := 0) rfl (by decide +kernel)) ?_
  refine fmS (snd_bipush hF (n := 59) (by decide +kernel) (by decide +kernel)) ?_
  refine fmS (snd_callV hM k_X10_expects okX10 qw1237 qw1239 (hts _ qw38) (by decide +kernel)) ?_
  refine fmS (snd_aloadn hF (k := 0) rfl (by decide +kernel)) ?_
  refine fmS (snd_geti hF okX10 (k := 9) (by decide) qw1113 rfl rfl (by decide +kernel)) ?_
  refine fmS (snd_if_eq hF (off := 5) (by decide) (by decide +kernel)) ?_
  refine fmS (snd_iconst hF (n := (-1)) rfl (by decide +kernel)) ?_
  refine fmS (snd_retI hM (by decide +kernel)) ?_
  refine fmS (snd_aloadn hF (k := 0) rfl (by decide +kernel)) ?_
  refine fmS (snd_geti hF okX10 (k := 19) (by decide) qw1123 rfl rfl (by decide +kernel)) ?_
  refine fmS (snd_istore hF (by decide) (by decide +kernel)) ?_
  refine fmS (snd_aloadn hF (k := 0) rfl (by decide +kernel)) ?_
  refine fmS (snd_iloadn hF (k := 3) rfl (by decide +kernel)) ?_
  refine fmS (snd_callV hM k_X10_writes okX10 qw1277 qw1279 (hts _ qw48) (by decide +kernel)) ?_
  refine fmS (snd_aloadn hF (k := 0) rfl (by decide +kernel)) ?_
  refine fmS (snd_getr hF okX10 (k := 16) (by decide) qw1120 rfl rfl (by decide +kernel)) ?_
  refine fmS (snd_iloadn hF (k := 1) rfl (by decide +kernel)) ?_
  refine fmS (snd_iloadn hF (k := 2) rfl (by decide +kernel)) ?_
  refine fmS (snd_bipush hF (n := 115) (by decide +kernel) (by decide +kernel)) ?_
  refine fmS (snd_isub hF (by decide +kernel)) ?_
  refine fmS (snd_iastore hF (by decide +kernel)) ?_
  refine fmS (snd_aloadn hF (k := 0) rfl (by decide +kernel)) ?_
  refine fmS (snd_getr hF okX10 (k := 17) (by decide) qw1121 rfl rfl (by decide +kernel)) ?_
  refine fmS (snd_iloadn hF (k := 1) rfl (by decide +kernel)) ?_
  refine fmS (snd_iinc hF (n := 1) (by decide +kernel) (by decide) (by decide +kernel)) ?_
  refine fmS (snd_aloadn hF (k := 0) rfl (by decide +kernel)) ?_
  refine fmS (snd_geti hF okX10 (k := 19) (by decide) qw1123 rfl rfl (by decide +kernel)) ?_
  refine fmS (snd_iload hF (by decide +kernel)) ?_
  refine fmS (snd_isub hF (by decide +kernel)) ?_
  refine fmS (snd_iastore hF (by decide +kernel)) ?_
  refine fmS (snd_goto hF (off := (-118)) (by decide) (by decide +kernel)) ?_
  refine fmS (snd_iloadn hF (k := 1) rfl (by decide +kernel)) ?_
  refine fmS (snd_retI hM (by decide +kernel)) ?_
  exact fmE
theorem iX10_reads {d mc ms n : Nat} {av : List Value} {M : PM} {P : PO} (hw : wid av ≤ 5) (hb : ∀ J : KT, (∀ (k : Nat) (stops : Nat → Bool) (pc : Nat) (lv : LV) (st : List Value) (nn : NN) (M : PM), lk (tX10_reads d mc ms P) pc (wpN (tX10_reads d mc ms P) stops k J) lv st nn M → J pc lv st nn M) → J 0 (entA 0 av) [] (n, 0, 0) M) : CallOK (d + 1) mc ms yX10_reads (Cond.code yX10_reads cX10_reads 5 (some .int)) av n M P := call_intro (own := RX10) (by decide) rfl hw (fun _ _ _ _ _ _ _ _ _ _ _ _ _ hM => sX10_reads hM) hb
def tX10_code (d mc ms : Nat) (P : PO) : List (Nat × OP) := [(0, oPush (.int 75) 2), (2, oPush (.int 100) 4), (4, oIld 0 5), (5, oI2 (fun x y => x * y) 6), (6, oI2 (fun x y => x + y) 7), (7, oRetI mc ms P)]
set_option maxRecDepth 20000 in
theorem sX10_code {p : Program} {l : Launch} {e : Env} {s : State} {m : MethodId} {args : Array Value} {below : List Frame} {meth : Method} {c : Code} {D : va_G} {cA : Nat → ClassId} {ad0 : Nat → Nat} {n0 sz d mc ms : Nat} {P : PO} (hM : FM p l s m args meth c D cA 1 ad0 n0 sz cX10_code RX10 (some .int) [] yX10_code.name) : ∀ q ∈ tX10_code d mc ms P, Snd (jM p l e s m args below meth c D cA 1 ad0 n0 sz (d + 1) mc ms P) q.1 q.2 := by
  have hF := hM.1
  have hts := hF.2.2.2.2.1
  unfold tX10_code
  refine fmS (snd_bipush hF (n := 75) (by decide +kernel) (by decide +kernel)) ?_
  refine fmS (snd_bipush hF (n := 100) (by decide +kernel) (by decide +kernel)) ?_
  refine fmS (snd_iloadn hF (k := 0) rfl (by decide +kernel)) ?_
  refine fmS (snd_imul hF (by decide +kernel)) ?_
  refine fmS (snd_iadd hF (by decide +kernel)) ?_
  refine fmS (snd_retI hM (by decide +kernel)) ?_
  exact fmE
theorem iX10_code {d mc ms n : Nat} {av : List Value} {M : PM} {P : PO} (hw : wid av ≤ 1) (hb : ∀ J : KT, (∀ (k : Nat) (stops : Nat → Bool) (pc : Nat) (lv : LV) (st : List Value) (nn : NN) (M : PM), lk (tX10_code d mc ms P) pc (wpN (tX10_code d mc ms P) stops k J) lv st nn M → J pc lv st nn M) → J 0 (entA 0 av) [] (n, 0, 0) M) : CallOK (d + 1) mc ms yX10_code (Cond.code yX10_code cX10_code 1 (some .int)) av n M P := call_intro (own := RX10) (by decide) rfl hw (fun _ _ _ _ _ _ _ _ _ _ _ _ _ hM => sX10_code hM) hb
def tX10_ends (d mc ms : Nat) (P : PO) : List (Nat × OP) := [(0, oPush (.int 0) 1), (1, oIst 1 2), (2, oIld 1 3), (3, oPush (.int 8) 5), (5, oIc (fun x y => y ≤ x) 35 8), (8, oAld 0 9), (9, oGr 10 21 12), (12, oIld 1 13), (13, oPush (.int 1) 14), (14, oSi 100 (fun x => x) 15), (15, oAld 0 16), (16, oGr 10 20 19), (19, oPush (.int 200) 22), (22, oIld 1 23), (23, oI2 (fun x y => x * y) 24), (24, oPush (.int 100) 26), (26, oIld 1 27), (27, oI2 (fun x y => x + y) 28), (28, oSi 100 (fun x => x) 29), (29, oInc 1 1 32), (32, oGoto 2), (35, oPush (.int 0) 36), (36, oIst 1 37), (37, oIld 1 38), (38, oAld 0 39), (39, oGr 10 1 42), (42, oPush (.int 0) 43), (43, oAi 100 44), (44, oIc (fun x y => y ≤ x) 253 47), (47, oAld 0 48), (48, oPush (.int 0) 49), (49, oPi 10 23 52), (52, oPush (.int 0) 53), (53, oIst 2 54), (54, oIld 2 55), (55, oAld 0 56), (56, oGr 10 1 59), (59, oPush (.int 11) 61), (61, oIld 1 62), (62, oI2 (fun x y => x + y) 63), (63, oAi 100 64), (64, oIc (fun x y => y ≤ x) 194 67), (67, oAld 0 68), (68, oGr 10 1 71), (71, oIld 1 72), (72, oCallS d mc ms P 0 0 yX10_code (Cond.code yX10_code cX10_code 1 (some .int)) 1 75), (75, oIld 2 76), (76, oI2 (fun x y => x + y) 77), (77, oAi 100 78), (78, oIst 3 79), (79, oIld 3 80), (80, oPush (.int 100) 82), (82, oPush (.int 107) 84), (84, oCallS d mc ms P 0 0 yX10_in (Cond.code yX10_in cX10_in 3 (some .boolean)) 3 87), (87, oIf (fun x => x = 0) 97 90), (90, oIld 3 91), (91, oPush (.int 100) 93), (93, oI2 (fun x y => x - y) 94), (94, oGoto 98), (97, oPush (.int (-1)) 98), (98, oIst 4 100), (100, oIld 4 102), (102, oIf (fun x => 0 ≤ x) 109 105), (105, oPush (.int 1) 106), (106, oGoto 116), (109, oAld 0 110), (110, oGr 10 21 113), (113, oIld 4 115), (115, oAi 100 116), (116, oIst 5 118), (118, oAld 0 119), (119, oGi 10 23 122), (122, oIld 5 124), (124, oI2 (fun x y => x + y) 125), (125, oPush (.int 200) 128), (128, oIc (fun x y => x ≤ y) 133 131), (131, oPush (.int 0) 132), (132, oRetZ mc ms P), (133, oPush (.int 0) 134), (134, oIst 6 136), (136, oIld 6 138), (138, oIld 5 140), (140, oIc (fun x y => y ≤ x) 188 143), (143, oAld 0 144), (144, oGr 10 22 147), (147, oAld 0 148), (148, oDup 149), (149, oGi 10 23 152), (152, oDupx1 153), (153, oPush (.int 1) 154), (154, oI2 (fun x y => x + y) 155), (155, oPi 10 23 158), (158, oIld 4 160), (160, oIf (fun x => 0 ≤ x) 167 163), (163, oIld 3 164), (164, oGoto 181), (167, oAld 0 168), (168, oGr 10 20 171), (171, oPush (.int 200) 174), (174, oIld 4 176), (176, oI2 (fun x y => x * y) 177), (177, oIld 6 179), (179, oI2 (fun x y => x + y) 180), (180, oAi 100 181), (181, oSi 100 (fun x => x) 182), (182, oInc 6 1 185), (185, oGoto 136), (188, oInc 2 1 191), (191, oGoto 54), (194, oAld 0 195), (195, oGr 10 1 198), (198, oPush (.int 3) 199), (199, oIld 1 200), (200, oI2 (fun x y => x + y) 201), (201, oAi 100 202), (202, oIst 2 203), (203, oAld 0 204), (204, oGr 10 21 207), (207, oIld 2 208), (208, oAld 0 209), (209, oGi 10 23 212), (212, oSi 100 (fun x => x) 213), (213, oPush (.int 0) 214), (214, oIst 3 215), (215, oIld 3 216), (216, oAld 0 217), (217, oGi 10 23 220), (220, oIc (fun x y => y ≤ x) 247 223), (223, oAld 0 224), (224, oGr 10 20 227), (227, oPush (.int 200) 230), (230, oIld 2 231), (231, oI2 (fun x y => x * y) 232), (232, oIld 3 233), (233, oI2 (fun x y => x + y) 234), (234, oAld 0 235), (235, oGr 10 22 238), (238, oIld 3 239), (239, oAi 100 240), (240, oSi 100 (fun x => x) 241), (241, oInc 3 1 244), (244, oGoto 215), (247, oInc 1 1 250), (250, oGoto 37), (253, oPush (.int 1) 254), (254, oRetZ mc ms P)]
set_option maxRecDepth 20000 in
theorem sX10_ends {p : Program} {l : Launch} {e : Env} {s : State} {m : MethodId} {args : Array Value} {below : List Frame} {meth : Method} {c : Code} {D : va_G} {cA : Nat → ClassId} {ad0 : Nat → Nat} {n0 sz d mc ms : Nat} {P : PO} (hM : FM p l s m args meth c D cA 7 ad0 n0 sz cX10_ends RX10 (some .boolean) [] yX10_ends.name) : ∀ q ∈ tX10_ends d mc ms P, Snd (jM p l e s m args below meth c D cA 7 ad0 n0 sz (d + 1) mc ms P) q.1 q.2 := by
  have hF := hM.1
  have hts := hF.2.2.2.2.1
  unfold tX10_ends
  refine fmS (snd_iconst hF (n := 0) rfl (by decide +kernel)) ?_
  refine fmS (snd_istoren hF (k := 1) rfl (by decide) (by decide +kernel)) ?_
  refine fmS (snd_iloadn hF (k := 1) rfl (by decide +kernel)) ?_
  refine fmS (snd_bipush hF (n := 8) (by decide +kernel) (by decide +kernel)) ?_
  refine fmS (snd_icmp_ge hF (off := 30) (by decide) (by decide +kernel)) ?_
  refine fmS (snd_aloadn hF (k := 0) rfl (by decide +kernel)) ?_
  refine fmS (snd_getr hF okX10 (k := 21) (by decide) qw1125 rfl rfl (by decide +kernel)) ?_
  refine fmS (snd_iloadn hF (k := 1) rfl (by decide +kernel)) ?_
  refine fmS (snd_iconst hF (n := 1) rfl (by decide +kernel)) ?_
  refine fmS (snd_iastore hF (by decide +kernel)) ?_
  refine fmS (snd_aloadn hF (k := 0) rfl (by decide +kernel)) ?_
  refine fmS (snd_getr hF okX10 (k := 20) (by decide) qw1124 rfl rfl (by decide +kernel)) ?_
  refine fmS (snd_sipush hF (n := 200) (by decide +kernel) (by decide +kernel)) ?_
  refine fmS (snd_iloadn hF (k := 1) rfl (by decide +kernel)) ?_
  refine fmS (snd_imul hF (by decide +kernel)) ?_
  refine fmS (snd_bipush hF (n := 100) (by decide +kernel) (by decide +kernel)) ?_
  refine fmS (snd_iloadn hF (k := 1) rfl (by decide +kernel)) ?_
  refine fmS (snd_iadd hF (by decide +kernel)) ?_
  refine fmS (snd_iastore hF (by decide +kernel)) ?_
  refine fmS (snd_iinc hF (n := 1) (by decide +kernel) (by decide) (by decide +kernel)) ?_
  refine fmS (snd_goto hF (off := (-30)) (by decide) (by decide +kernel)) ?_
  refine fmS (snd_iconst hF (n := 0) rfl (by decide +kernel)) ?_
  refine fmS (snd_istoren hF (k := 1) rfl (by decide) (by decide +kernel)) ?_
  refine fmS (snd_iloadn hF (k := 1) rfl (by decide +kernel)) ?_
  refine fmS (snd_aloadn hF (k := 0) rfl (by decide +kernel)) ?_
  refine fmS (snd_getr hF okX10 (k := 1) (by decide) qw1105 rfl rfl (by decide +kernel)) ?_
  refine fmS (snd_iconst hF (n := 0) rfl (by decide +kernel)) ?_
  refine fmS (snd_iaload hF (by decide +kernel)) ?_
  refine fmS (snd_icmp_ge hF (off := 209) (by decide) (by decide +kernel)) ?_
  refine fmS (snd_aloadn hF (k := 0) rfl (by decide +kernel)) ?_
  refine fmS (snd_iconst hF (n := 0) rfl (by decide +kernel)) ?_
  refine fmS (snd_puti hF okX10 (k := 23) (by decide) qw1127 rfl rfl rfl rfl (by decide +kernel)) ?_
  refine fmS (snd_iconst hF (n := 0) rfl (by decide +kernel)) ?_
  refine fmS (snd_istoren hF (k := 2) rfl (by decide) (by decide +kernel)) ?_
  refine fmS (snd_iloadn hF (k := 2) rfl (by decide +kernel)) ?_
  refine fmS (snd_aloadn hF (k := 0) rfl (by decide +kernel)) ?_
  refine fmS (snd_getr hF okX10 (k := 1) (by decide) qw1105 rfl rfl (by decide +kernel)) ?_
  refine fmS (snd_bipush hF (n := 11) (by decide +kernel) (by decide +kernel)) ?_
  refine fmS (snd_iloadn hF (k := 1) rfl (by decide +kernel)) ?_
  refine fmS (snd_iadd hF (by decide +kernel)) ?_
  refine fmS (snd_iaload hF (by decide +kernel)) ?_
  refine fmS (snd_icmp_ge hF (off := 130) (by decide) (by decide +kernel)) ?_
  refine fmS (snd_aloadn hF (k := 0) rfl (by decide +kernel)) ?_
  refine fmS (snd_getr hF okX10 (k := 1) (by decide) qw1105 rfl rfl (by decide +kernel)) ?_
  refine fmS (snd_iloadn hF (k := 1) rfl (by decide +kernel)) ?_
  refine fmS (snd_callS hM k_X10_code qw1098 qw1099 (by decide +kernel)) ?_
  refine fmS (snd_iloadn hF (k := 2) rfl (by decide +kernel)) ?_
  refine fmS (snd_iadd hF (by decide +kernel)) ?_
  refine fmS (snd_iaload hF (by decide +kernel)) ?_
  refine fmS (snd_istoren hF (k := 3) rfl (by decide) (by decide +kernel)) ?_
  refine fmS (snd_iloadn hF (k := 3) rfl (by decide +kernel)) ?_
  refine fmS (snd_bipush hF (n := 100) (by decide +kernel) (by decide +kernel)) ?_
  refine fmS (snd_bipush hF (n := 107) (by decide +kernel) (by decide +kernel)) ?_
  refine fmS (snd_callS hM k_X10_in qw1101 qw1102 (by decide +kernel)) ?_
  refine fmS (snd_if_eq hF (off := 10) (by decide) (by decide +kernel)) ?_
  refine fmS (snd_iloadn hF (k := 3) rfl (by decide +kernel)) ?_
  refine fmS (snd_bipush hF (n := 100) (by decide +kernel) (by decide +kernel)) ?_
  refine fmS (snd_isub hF (by decide +kernel)) ?_
  refine fmS (snd_goto hF (off := 4) (by decide) (by decide +kernel)) ?_
  refine fmS (snd_iconst hF (n := (-1)) rfl (by decide +kernel)) ?_
  refine fmS (snd_istore hF (by decide) (by decide +kernel)) ?_
  refine fmS (snd_iload hF (by decide +kernel)) ?_
  refine fmS (snd_if_ge hF (off := 7) (by decide) (by decide +kernel)) ?_
  refine fmS (snd_iconst hF (n := 1) rfl (by decide +kernel)) ?_
  refine fmS (snd_goto hF (off := 10) (by decide) (by decide +kernel)) ?_
  refine fmS (snd_aloadn hF (k := 0) rfl (by decide +kernel)) ?_
  refine fmS (snd_getr hF okX10 (k := 21) (by decide) qw1125 rfl rfl (by decide +kernel)) ?_
  refine fmS (snd_iload hF (by decide +kernel)) ?_
  refine fmS (snd_iaload hF (by decide +kernel)) ?_
  refine fmS (snd_istore hF (by decide) (by decide +kernel)) ?_
  refine fmS (snd_aloadn hF (k := 0) rfl (by decide +kernel)) ?_
  refine fmS (snd_geti hF okX10 (k := 23) (by decide) qw1127 rfl rfl (by decide +kernel)) ?_
  refine fmS (snd_iload hF (by decide +kernel)) ?_
  refine fmS (snd_iadd hF (by decide +kernel)) ?_
  refine fmS (snd_sipush hF (n := 200) (by decide +kernel) (by decide +kernel)) ?_
  refine fmS (snd_icmp_le hF (off := 5) (by decide) (by decide +kernel)) ?_
  refine fmS (snd_iconst hF (n := 0) rfl (by decide +kernel)) ?_
  refine fmS (snd_retZ hM (by decide +kernel)) ?_
  refine fmS (snd_iconst hF (n := 0) rfl (by decide +kernel)) ?_
  refine fmS (snd_istore hF (by decide) (by decide +kernel)) ?_
  refine fmS (snd_iload hF (by decide +kernel)) ?_
  refine fmS (snd_iload hF (by decide +kernel)) ?_
  refine fmS (snd_icmp_ge hF (off := 48) (by decide) (by decide +kernel)) ?_
  refine fmS (snd_aloadn hF (k := 0) rfl (by decide +kernel)) ?_
  refine fmS (snd_getr hF okX10 (k := 22) (by decide) qw1126 rfl rfl (by decide +kernel)) ?_
  refine fmS (snd_aloadn hF (k := 0) rfl (by decide +kernel)) ?_
  refine fmS (snd_dup hF (by decide +kernel)) ?_
  refine fmS (snd_geti hF okX10 (k := 23) (by decide) qw1127 rfl rfl (by decide +kernel)) ?_
  refine fmS (snd_dupx1 hF (by decide +kernel)) ?_
  refine fmS (snd_iconst hF (n := 1) rfl (by decide +kernel)) ?_
  refine fmS (snd_iadd hF (by decide +kernel)) ?_
  refine fmS (snd_puti hF okX10 (k := 23) (by decide) qw1127 rfl rfl rfl rfl (by decide +kernel)) ?_
  refine fmS (snd_iload hF (by decide +kernel)) ?_
  refine fmS (snd_if_ge hF (off := 7) (by decide) (by decide +kernel)) ?_
  refine fmS (snd_iloadn hF (k := 3) rfl (by decide +kernel)) ?_
  refine fmS (snd_goto hF (off := 17) (by decide) (by decide +kernel)) ?_
  refine fmS (snd_aloadn hF (k := 0) rfl (by decide +kernel)) ?_
  refine fmS (snd_getr hF okX10 (k := 20) (by decide) qw1124 rfl rfl (by decide +kernel)) ?_
  refine fmS (snd_sipush hF (n := 200) (by decide +kernel) (by decide +kernel)) ?_
  refine fmS (snd_iload hF (by decide +kernel)) ?_
  refine fmS (snd_imul hF (by decide +kernel)) ?_
  refine fmS (snd_iload hF (by decide +kernel)) ?_
  refine fmS (snd_iadd hF (by decide +kernel)) ?_
  refine fmS (snd_iaload hF (by decide +kernel)) ?_
  refine fmS (snd_iastore hF (by decide +kernel)) ?_
  refine fmS (snd_iinc hF (n := 1) (by decide +kernel) (by decide) (by decide +kernel)) ?_
  refine fmS (snd_goto hF (off := (-49)) (by decide) (by decide +kernel)) ?_
  refine fmS (snd_iinc hF (n := 1) (by decide +kernel) (by decide) (by decide +kernel)) ?_
  refine fmS (snd_goto hF (off := (-137)) (by decide) (by decide +kernel)) ?_
  refine fmS (snd_aloadn hF (k := 0) rfl (by decide +kernel)) ?_
  refine fmS (snd_getr hF okX10 (k := 1) (by decide) qw1105 rfl rfl (by decide +kernel)) ?_
  refine fmS (snd_iconst hF (n := 3) rfl (by decide +kernel)) ?_
  refine fmS (snd_iloadn hF (k := 1) rfl (by decide +kernel)) ?_
  refine fmS (snd_iadd hF (by decide +kernel)) ?_
  refine fmS (snd_iaload hF (by decide +kernel)) ?_
  refine fmS (snd_istoren hF (k := 2) rfl (by decide) (by decide +kernel)) ?_
  refine fmS (snd_aloadn hF (k := 0) rfl (by decide +kernel)) ?_
  refine fmS (snd_getr hF okX10 (k := 21) (by decide) qw1125 rfl rfl (by decide +kernel)) ?_
  refine fmS (snd_iloadn hF (k := 2) rfl (by decide +kernel)) ?_
  refine fmS (snd_aloadn hF (k := 0) rfl (by decide +kernel)) ?_
  refine fmS (snd_geti hF okX10 (k := 23) (by decide) qw1127 rfl rfl (by decide +kernel)) ?_
  refine fmS (snd_iastore hF (by decide +kernel)) ?_
  refine fmS (snd_iconst hF (n := 0) rfl (by decide +kernel)) ?_
  refine fmS (snd_istoren hF (k := 3) rfl (by decide) (by decide +kernel)) ?_
  refine fmS (snd_iloadn hF (k := 3) rfl (by decide +kernel)) ?_
  refine fmS (snd_aloadn hF (k := 0) rfl (by decide +kernel)) ?_
  refine fmS (snd_geti hF okX10 (k := 23) (by decide) qw1127 rfl rfl (by decide +kernel)) ?_
  refine fmS (snd_icmp_ge hF (off := 27) (by decide) (by decide +kernel)) ?_
  refine fmS (snd_aloadn hF (k := 0) rfl (by decide +kernel)) ?_
  refine fmS (snd_getr hF okX10 (k := 20) (by decide) qw1124 rfl rfl (by decide +kernel)) ?_
  refine fmS (snd_sipush hF (n := 200) (by decide +kernel) (by decide +kernel)) ?_
  refine fmS (snd_iloadn hF (k := 2) rfl (by decide +kernel)) ?_
  refine fmS (snd_imul hF (by decide +kernel)) ?_
  refine fmS (snd_iloadn hF (k := 3) rfl (by decide +kernel)) ?_
  refine fmS (snd_iadd hF (by decide +kernel)) ?_
  refine fmS (snd_aloadn hF (k := 0) rfl (by decide +kernel)) ?_
  refine fmS (snd_getr hF okX10 (k := 22) (by decide) qw1126 rfl rfl (by decide +kernel)) ?_
  refine fmS (snd_iloadn hF (k := 3) rfl (by decide +kernel)) ?_
  refine fmS (snd_iaload hF (by decide +kernel)) ?_
  refine fmS (snd_iastore hF (by decide +kernel)) ?_
  refine fmS (snd_iinc hF (n := 1) (by decide +kernel) (by decide) (by decide +kernel)) ?_
  refine fmS (snd_goto hF (off := (-29)) (by decide) (by decide +kernel)) ?_
  refine fmS (snd_iinc hF (n := 1) (by decide +kernel) (by decide) (by decide +kernel)) ?_
  refine fmS (snd_goto hF (off := (-213)) (by decide) (by decide +kernel)) ?_
  refine fmS (snd_iconst hF (n := 1) rfl (by decide +kernel)) ?_
  refine fmS (snd_retZ hM (by decide +kernel)) ?_
  exact fmE
theorem iX10_ends {d mc ms n : Nat} {av : List Value} {M : PM} {P : PO} (hw : wid av ≤ 7) (hb : ∀ J : KT, (∀ (k : Nat) (stops : Nat → Bool) (pc : Nat) (lv : LV) (st : List Value) (nn : NN) (M : PM), lk (tX10_ends d mc ms P) pc (wpN (tX10_ends d mc ms P) stops k J) lv st nn M → J pc lv st nn M) → J 0 (entA 0 av) [] (n, 0, 0) M) : CallOK (d + 1) mc ms yX10_ends (Cond.code yX10_ends cX10_ends 7 (some .boolean)) av n M P := call_intro (own := RX10) (by decide) rfl hw (fun _ _ _ _ _ _ _ _ _ _ _ _ _ hM => sX10_ends hM) hb
def tX10_keeps (d mc ms : Nat) (P : PO) : List (Nat × OP) := [(0, oPush (.int 0) 1), (1, oIst 3 2), (2, oIld 3 3), (3, oPush (.int 875) 6), (6, oIc (fun x y => y ≤ x) 21 9), (9, oAld 2 10), (10, oIld 3 11), (11, oAld 1 12), (12, oIld 3 13), (13, oAi 100 14), (14, oSi 100 (fun x => x) 15), (15, oInc 3 1 18), (18, oGoto 2), (21, oRetV mc ms P)]
set_option maxRecDepth 20000 in
theorem sX10_keeps {p : Program} {l : Launch} {e : Env} {s : State} {m : MethodId} {args : Array Value} {below : List Frame} {meth : Method} {c : Code} {D : va_G} {cA : Nat → ClassId} {ad0 : Nat → Nat} {n0 sz d mc ms : Nat} {P : PO} (hM : FM p l s m args meth c D cA 4 ad0 n0 sz cX10_keeps RX10 none [] yX10_keeps.name) : ∀ q ∈ tX10_keeps d mc ms P, Snd (jM p l e s m args below meth c D cA 4 ad0 n0 sz (d + 1) mc ms P) q.1 q.2 := by
  have hF := hM.1
  have hts := hF.2.2.2.2.1
  unfold tX10_keeps
  refine fmS (snd_iconst hF (n := 0) rfl (by decide +kernel)) ?_
  refine fmS (snd_istoren hF (k := 3) rfl (by decide) (by decide +kernel)) ?_
  refine fmS (snd_iloadn hF (k := 3) rfl (by decide +kernel)) ?_
  refine fmS (snd_sipush hF (n := 875) (by decide +kernel) (by decide +kernel)) ?_
  refine fmS (snd_icmp_ge hF (off := 15) (by decide) (by decide +kernel)) ?_
  refine fmS (snd_aloadn hF (k := 2) rfl (by decide +kernel)) ?_
  refine fmS (snd_iloadn hF (k := 3) rfl (by decide +kernel)) ?_
  refine fmS (snd_aloadn hF (k := 1) rfl (by decide +kernel)) ?_
  refine fmS (snd_iloadn hF (k := 3) rfl (by decide +kernel)) ?_
  refine fmS (snd_iaload hF (by decide +kernel)) ?_
  refine fmS (snd_iastore hF (by decide +kernel)) ?_
  refine fmS (snd_iinc hF (n := 1) (by decide +kernel) (by decide) (by decide +kernel)) ?_
  refine fmS (snd_goto hF (off := (-16)) (by decide) (by decide +kernel)) ?_
  refine fmS (snd_retV hM (by decide +kernel)) ?_
  exact fmE
theorem iX10_keeps {d mc ms n : Nat} {av : List Value} {M : PM} {P : PO} (hw : wid av ≤ 4) (hb : ∀ J : KT, (∀ (k : Nat) (stops : Nat → Bool) (pc : Nat) (lv : LV) (st : List Value) (nn : NN) (M : PM), lk (tX10_keeps d mc ms P) pc (wpN (tX10_keeps d mc ms P) stops k J) lv st nn M → J pc lv st nn M) → J 0 (entA 0 av) [] (n, 0, 0) M) : CallOK (d + 1) mc ms yX10_keeps (Cond.code yX10_keeps cX10_keeps 4 none) av n M P := call_intro (own := RX10) (by decide) rfl hw (fun _ _ _ _ _ _ _ _ _ _ _ _ _ hM => sX10_keeps hM) hb
def tX10_drops (d mc ms : Nat) (P : PO) : List (Nat × OP) := [(0, oAld 0 1), (1, oPush (.int (-1)) 2), (2, oPi 10 29 5), (5, oAld 0 6), (6, oPush (.int (-1)) 7), (7, oPi 10 34 10), (10, oRetV mc ms P)]
set_option maxRecDepth 20000 in
theorem sX10_drops {p : Program} {l : Launch} {e : Env} {s : State} {m : MethodId} {args : Array Value} {below : List Frame} {meth : Method} {c : Code} {D : va_G} {cA : Nat → ClassId} {ad0 : Nat → Nat} {n0 sz d mc ms : Nat} {P : PO} (hM : FM p l s m args meth c D cA 1 ad0 n0 sz cX10_drops RX10 none [] yX10_drops.name) : ∀ q ∈ tX10_drops d mc ms P, Snd (jM p l e s m args below meth c D cA 1 ad0 n0 sz (d + 1) mc ms P) q.1 q.2 := by
  have hF := hM.1
  have hts := hF.2.2.2.2.1
  unfold tX10_drops
  refine fmS (snd_aloadn hF (k := 0) rfl (by decide +kernel)) ?_
  refine fmS (snd_iconst hF (n := (-1)) rfl (by decide +kernel)) ?_
  refine fmS (snd_puti hF okX10 (k := 29) (by decide) qw1133 rfl rfl rfl rfl (by decide +kernel)) ?_
  refine fmS (snd_aloadn hF (k := 0) rfl (by decide +kernel)) ?_
  refine fmS (snd_iconst hF (n := (-1)) rfl (by decide +kernel)) ?_
  refine fmS (snd_puti hF okX10 (k := 34) (by decide) qw1138 rfl rfl rfl rfl (by decide +kernel)) ?_
  refine fmS (snd_retV hM (by decide +kernel)) ?_
  exact fmE
theorem iX10_drops {d mc ms n : Nat} {av : List Value} {M : PM} {P : PO} (hw : wid av ≤ 1) (hb : ∀ J : KT, (∀ (k : Nat) (stops : Nat → Bool) (pc : Nat) (lv : LV) (st : List Value) (nn : NN) (M : PM), lk (tX10_drops d mc ms P) pc (wpN (tX10_drops d mc ms P) stops k J) lv st nn M → J pc lv st nn M) → J 0 (entA 0 av) [] (n, 0, 0) M) : CallOK (d + 1) mc ms yX10_drops (Cond.code yX10_drops cX10_drops 1 none) av n M P := call_intro (own := RX10) (by decide) rfl hw (fun _ _ _ _ _ _ _ _ _ _ _ _ _ hM => sX10_drops hM) hb
def tX10_load (d mc ms : Nat) (P : PO) : List (Nat × OP) := [(0, oAld 0 1), (1, oPush (.int 0) 2), (2, oPi 10 0 5), (5, oAld 0 6), (6, oCallV d mc ms P 0 0 yX10_reads (Cond.code yX10_reads cX10_reads 5 (some .int)) 0 10 9), (9, oIst 1 10), (10, oAld 0 11), (11, oPush (.int 0) 12), (12, oPi 10 6 15), (15, oAld 0 16), (16, oIld 1 17), (17, oIf (fun x => 0 ≤ x) 27 20), (20, oAld 0 21), (21, oGi 10 7 24), (24, oGoto 28), (27, oPush (.int (-1)) 28), (28, oPi 10 8 31), (31, oIld 1 32), (32, oIf (fun x => 0 ≤ x) 41 35), (35, oAld 0 36), (36, oPush (.int 1) 37), (37, oCallV d mc ms P 0 0 yX10_raises (Cond.code yX10_raises cX10_raises 2 (some .int)) 1 10 40), (40, oRetI mc ms P), (41, oIld 1 42), (42, oPush (.int 8) 44), (44, oIc (fun x y => x ≤ y) 53 47), (47, oAld 0 48), (48, oPush (.int 2) 49), (49, oCallV d mc ms P 0 0 yX10_raises (Cond.code yX10_raises cX10_raises 2 (some .int)) 1 10 52), (52, oRetI mc ms P), (53, oAld 0 54), (54, oAld 0 55), (55, oGr 10 1 58), (58, oAld 0 59), (59, oGr 10 4 62), (62, oCallV d mc ms P 0 0 yX10_keeps (Cond.code yX10_keeps cX10_keeps 4 none) 2 10 65), (65, oAld 0 66), (66, oGr 10 1 69), (69, oPush (.int 0) 70), (70, oIld 1 71), (71, oSi 100 (fun x => x) 72), (72, oPush (.int 0) 73), (73, oIst 2 74), (74, oPush (.int 0) 75), (75, oIst 3 76), (76, oIld 3 77), (77, oIld 1 78), (78, oIc (fun x y => y ≤ x) 157 81), (81, oAld 0 82), (82, oGr 10 1 85), (85, oPush (.int 3) 86), (86, oIld 3 87), (87, oI2 (fun x y => x + y) 88), (88, oAld 0 89), (89, oGr 10 16 92), (92, oIld 3 93), (93, oAi 100 94), (94, oSi 100 (fun x => x) 95), (95, oAld 0 96), (96, oGr 10 1 99), (99, oPush (.int 11) 101), (101, oIld 3 102), (102, oI2 (fun x y => x + y) 103), (103, oAld 0 104), (104, oGr 10 17 107), (107, oIld 3 108), (108, oAi 100 109), (109, oSi 100 (fun x => x) 110), (110, oPush (.int 0) 111), (111, oIst 4 113), (113, oIld 4 115), (115, oAld 0 116), (116, oGr 10 17 119), (119, oIld 3 120), (120, oAi 100 121), (121, oIc (fun x y => y ≤ x) 151 124), (124, oAld 0 125), (125, oGr 10 1 128), (128, oIld 3 129), (129, oCallS d mc ms P 0 0 yX10_code (Cond.code yX10_code cX10_code 1 (some .int)) 1 132), (132, oIld 4 134), (134, oI2 (fun x y => x + y) 135), (135, oAld 0 136), (136, oGr 10 18 139), (139, oIld 2 140), (140, oInc 2 1 143), (143, oAi 100 144), (144, oSi 100 (fun x => x) 145), (145, oInc 4 1 148), (148, oGoto 113), (151, oInc 3 1 154), (154, oGoto 76), (157, oAld 0 158), (158, oCallV d mc ms P 0 0 yX10_ends (Cond.code yX10_ends cX10_ends 7 (some .boolean)) 0 10 161), (161, oIf (fun x => x = 0) 164 187), (164, oAld 0 165), (165, oAld 0 166), (166, oGr 10 4 169), (169, oAld 0 170), (170, oGr 10 1 173), (173, oCallV d mc ms P 0 0 yX10_keeps (Cond.code yX10_keeps cX10_keeps 4 none) 2 10 176), (176, oAld 0 177), (177, oCallV d mc ms P 0 0 yX10_ends (Cond.code yX10_ends cX10_ends 7 (some .boolean)) 0 10 180), (180, oPop 181), (181, oAld 0 182), (182, oPush (.int 2) 183), (183, oCallV d mc ms P 0 0 yX10_raises (Cond.code yX10_raises cX10_raises 2 (some .int)) 1 10 186), (186, oRetI mc ms P), (187, oAld 0 188), (188, oCallV d mc ms P 0 0 yX10_drops (Cond.code yX10_drops cX10_drops 1 none) 0 10 191), (191, oIld 1 192), (192, oRetI mc ms P)]
set_option maxRecDepth 20000 in
theorem sX10_load {p : Program} {l : Launch} {e : Env} {s : State} {m : MethodId} {args : Array Value} {below : List Frame} {meth : Method} {c : Code} {D : va_G} {cA : Nat → ClassId} {ad0 : Nat → Nat} {n0 sz d mc ms : Nat} {P : PO} (hM : FM p l s m args meth c D cA 5 ad0 n0 sz cX10_load RX10 (some .int) [] yX10_load.name) : ∀ q ∈ tX10_load d mc ms P, Snd (jM p l e s m args below meth c D cA 5 ad0 n0 sz (d + 1) mc ms P) q.1 q.2 := by
  have hF := hM.1
  have hts := hF.2.2.2.2.1
  unfold tX10_load
  refine fmS (snd_aloadn hF (k := 0) rfl (by decide +kernel)) ?_
  refine fmS (snd_iconst hF (n := 0) rfl (by decide +kernel)) ?_
  refine fmS (snd_puti hF okX10 (k := 0) (by decide) qw1104 rfl rfl rfl rfl (by decide +kernel)) ?_
  refine fmS (snd_aloadn hF (k := 0) rfl (by decide +kernel)) ?_
  refine fmS (snd_callV hM k_X10_reads okX10 qw1229 qw1231 (hts _ qw36) (by decide +kernel)) ?_
  refine fmS (snd_istoren hF (k := 1) rfl (by decide) (by decide +kernel)) ?_
  refine fmS (snd_aloadn hF (k := 0) rfl (by decide +kernel)) ?_
  refine fmS (snd_iconst hF (n := 0) rfl (by decide +kernel)) ?_
  refine fmS (snd_puti hF okX10 (k := 6) (by decide) qw1110 rfl rfl rfl rfl (by decide +kernel)) ?_
  refine fmS (snd_aloadn hF (k := 0) rfl (by decide +kernel)) ?_
  refine fmS (snd_iloadn hF (k := 1) rfl (by decide +kernel)) ?_
  refine fmS (snd_if_ge hF (off := 10) (by decide) (by decide +kernel)) ?_
  refine fmS (snd_aloadn hF (k := 0) rfl (by decide +kernel)) ?_
  refine fmS (snd_geti hF okX10 (k := 7) (by decide) qw1111 rfl rfl (by decide +kernel)) ?_
  refine fmS (snd_goto hF (off := 4) (by decide) (by decide +kernel)) ?_
  refine fmS (snd_iconst hF (n := (-1)) rfl (by decide +kernel)) ?_
  refine fmS (snd_puti hF okX10 (k := 8) (by decide) qw1112 rfl rfl rfl rfl (by decide +kernel)) ?_
  refine fmS (snd_iloadn hF (k := 1) rfl (by decide +kernel)) ?_
  refine fmS (snd_if_ge hF (off := 9) (by decide) (by decide +kernel)) ?_
  refine fmS (snd_aloadn hF (k := 0) rfl (by decide +kernel)) ?_
  refine fmS (snd_iconst hF (n := 1) rfl (by decide +kernel)) ?_
  refine fmS (snd_callV hM k_X10_raises okX10 qw1221 qw1223 (hts _ qw35) (by decide +kernel)) ?_
  refine fmS (snd_retI hM (by decide +kernel)) ?_
  refine fmS (snd_iloadn hF (k := 1) rfl (by decide +kernel)) ?_
  refine fmS (snd_bipush hF (n := 8) (by decide +kernel) (by decide +kernel)) ?_
  refine fmS (snd_icmp_le hF (off := 9) (by decide) (by decide +kernel)) ?_
  refine fmS (snd_aloadn hF (k := 0) rfl (by decide +kernel)) ?_
  refine fmS (snd_iconst hF (n := 2) rfl (by decide +kernel)) ?_
  refine fmS (snd_callV hM k_X10_raises okX10 qw1221 qw1223 (hts _ qw35) (by decide +kernel)) ?_
  refine fmS (snd_retI hM (by decide +kernel)) ?_
  refine fmS (snd_aloadn hF (k := 0) rfl (by decide +kernel)) ?_
  refine fmS (snd_aloadn hF (k := 0) rfl (by decide +kernel)) ?_
  refine fmS (snd_getr hF okX10 (k := 1) (by decide) qw1105 rfl rfl (by decide +kernel)) ?_
  refine fmS (snd_aloadn hF (k := 0) rfl (by decide +kernel)) ?_
  refine fmS (snd_getr hF okX10 (k := 4) (by decide) qw1108 rfl rfl (by decide +kernel)) ?_
  refine fmS (snd_callV hM k_X10_keeps okX10 qw1284 qw1286 (hts _ qw49) (by decide +kernel)) ?_
  refine fmS (snd_aloadn hF (k := 0) rfl (by decide +kernel)) ?_
  refine fmS (snd_getr hF okX10 (k := 1) (by decide) qw1105 rfl rfl (by decide +kernel)) ?_
  refine fmS (snd_iconst hF (n := 0) rfl (by decide +kernel)) ?_
  refine fmS (snd_iloadn hF (k := 1) rfl (by decide +kernel)) ?_
  refine fmS (snd_iastore hF (by decide +kernel)) ?_
  refine fmS (snd_iconst hF (n := 0) rfl (by decide +kernel)) ?_
  refine fmS (snd_istoren hF (k := 2) rfl (by decide) (by decide +kernel)) ?_
  refine fmS (snd_iconst hF (n := 0) rfl (by decide +kernel)) ?_
  refine fmS (snd_istoren hF (k := 3) rfl (by decide) (by decide +kernel)) ?_
  refine fmS (snd_iloadn hF (k := 3) rfl (by decide +kernel)) ?_
  refine fmS (snd_iloadn hF (k := 1) rfl (by decide +kernel)) ?_
  refine fmS (snd_icmp_ge hF (off := 79) (by decide) (by decide +kernel)) ?_
  refine fmS (snd_aloadn hF (k := 0) rfl (by decide +kernel)) ?_
  refine fmS (snd_getr hF okX10 (k := 1) (by decide) qw1105 rfl rfl (by decide +kernel)) ?_
  refine fmS (snd_iconst hF (n := 3) rfl (by decide +kernel)) ?_
  refine fmS (snd_iloadn hF (k := 3) rfl (by decide +kernel)) ?_
  refine fmS (snd_iadd hF (by decide +kernel)) ?_
  refine fmS (snd_aloadn hF (k := 0) rfl (by decide +kernel)) ?_
  refine fmS (snd_getr hF okX10 (k := 16) (by decide) qw1120 rfl rfl (by decide +kernel)) ?_
  refine fmS (snd_iloadn hF (k := 3) rfl (by decide +kernel)) ?_
  refine fmS (snd_iaload hF (by decide +kernel)) ?_
  refine fmS (snd_iastore hF (by decide +kernel)) ?_
  refine fmS (snd_aloadn hF (k := 0) rfl (by decide +kernel)) ?_
  refine fmS (snd_getr hF okX10 (k := 1) (by decide) qw1105 rfl rfl (by decide +kernel)) ?_
  refine fmS (snd_bipush hF (n := 11) (by decide +kernel) (by decide +kernel)) ?_
  refine fmS (snd_iloadn hF (k := 3) rfl (by decide +kernel)) ?_
  refine fmS (snd_iadd hF (by decide +kernel)) ?_
  refine fmS (snd_aloadn hF (k := 0) rfl (by decide +kernel)) ?_
  refine fmS (snd_getr hF okX10 (k := 17) (by decide) qw1121 rfl rfl (by decide +kernel)) ?_
  refine fmS (snd_iloadn hF (k := 3) rfl (by decide +kernel)) ?_
  refine fmS (snd_iaload hF (by decide +kernel)) ?_
  refine fmS (snd_iastore hF (by decide +kernel)) ?_
  refine fmS (snd_iconst hF (n := 0) rfl (by decide +kernel)) ?_
  refine fmS (snd_istore hF (by decide) (by decide +kernel)) ?_
  refine fmS (snd_iload hF (by decide +kernel)) ?_
  refine fmS (snd_aloadn hF (k := 0) rfl (by decide +kernel)) ?_
  refine fmS (snd_getr hF okX10 (k := 17) (by decide) qw1121 rfl rfl (by decide +kernel)) ?_
  refine fmS (snd_iloadn hF (k := 3) rfl (by decide +kernel)) ?_
  refine fmS (snd_iaload hF (by decide +kernel)) ?_
  refine fmS (snd_icmp_ge hF (off := 30) (by decide) (by decide +kernel)) ?_
  refine fmS (snd_aloadn hF (k := 0) rfl (by decide +kernel)) ?_
  refine fmS (snd_getr hF okX10 (k := 1) (by decide) qw1105 rfl rfl (by decide +kernel)) ?_
  refine fmS (snd_iloadn hF (k := 3) rfl (by decide +kernel)) ?_
  refine fmS (snd_callS hM k_X10_code qw1098 qw1099 (by decide +kernel)) ?_
  refine fmS (snd_iload hF (by decide +kernel)) ?_
  refine fmS (snd_iadd hF (by decide +kernel)) ?_
  refine fmS (snd_aloadn hF (k := 0) rfl (by decide +kernel)) ?_
  refine fmS (snd_getr hF okX10 (k := 18) (by decide) qw1122 rfl rfl (by decide +kernel)) ?_
  refine fmS (snd_iloadn hF (k := 2) rfl (by decide +kernel)) ?_
  refine fmS (snd_iinc hF (n := 1) (by decide +kernel) (by decide) (by decide +kernel)) ?_
  refine fmS (snd_iaload hF (by decide +kernel)) ?_
  refine fmS (snd_iastore hF (by decide +kernel)) ?_
  refine fmS (snd_iinc hF (n := 1) (by decide +kernel) (by decide) (by decide +kernel)) ?_
  refine fmS (snd_goto hF (off := (-35)) (by decide) (by decide +kernel)) ?_
  refine fmS (snd_iinc hF (n := 1) (by decide +kernel) (by decide) (by decide +kernel)) ?_
  refine fmS (snd_goto hF (off := (-78)) (by decide) (by decide +kernel)) ?_
  refine fmS (snd_aloadn hF (k := 0) rfl (by decide +kernel)) ?_
  refine fmS (snd_callV hM k_X10_ends okX10 qw1094 qw1096 (hts _ qw34) (by decide +kernel)) ?_
  refine fmS (snd_if_ne hF (off := 26) (by decide) (by decide +kernel)) ?_
  refine fmS (snd_aloadn hF (k := 0) rfl (by decide +kernel)) ?_
  refine fmS (snd_aloadn hF (k := 0) rfl (by decide +kernel)) ?_
  refine fmS (snd_getr hF okX10 (k := 4) (by decide) qw1108 rfl rfl (by decide +kernel)) ?_
  refine fmS (snd_aloadn hF (k := 0) rfl (by decide +kernel)) ?_
  refine fmS (snd_getr hF okX10 (k := 1) (by decide) qw1105 rfl rfl (by decide +kernel)) ?_
  refine fmS (snd_callV hM k_X10_keeps okX10 qw1284 qw1286 (hts _ qw49) (by decide +kernel)) ?_
  refine fmS (snd_aloadn hF (k := 0) rfl (by decide +kernel)) ?_
  refine fmS (snd_callV hM k_X10_ends okX10 qw1094 qw1096 (hts _ qw34) (by decide +kernel)) ?_
  refine fmS (snd_pop hF (by decide +kernel)) ?_
  refine fmS (snd_aloadn hF (k := 0) rfl (by decide +kernel)) ?_
  refine fmS (snd_iconst hF (n := 2) rfl (by decide +kernel)) ?_
  refine fmS (snd_callV hM k_X10_raises okX10 qw1221 qw1223 (hts _ qw35) (by decide +kernel)) ?_
  refine fmS (snd_retI hM (by decide +kernel)) ?_
  refine fmS (snd_aloadn hF (k := 0) rfl (by decide +kernel)) ?_
  refine fmS (snd_callV hM k_X10_drops okX10 qw1288 qw1290 (hts _ qw50) (by decide +kernel)) ?_
  refine fmS (snd_iloadn hF (k := 1) rfl (by decide +kernel)) ?_
  refine fmS (snd_retI hM (by decide +kernel)) ?_
  exact fmE
theorem iX10_load {d mc ms n : Nat} {av : List Value} {M : PM} {P : PO} (hw : wid av ≤ 5) (hb : ∀ J : KT, (∀ (k : Nat) (stops : Nat → Bool) (pc : Nat) (lv : LV) (st : List Value) (nn : NN) (M : PM), lk (tX10_load d mc ms P) pc (wpN (tX10_load d mc ms P) stops k J) lv st nn M → J pc lv st nn M) → J 0 (entA 0 av) [] (n, 0, 0) M) : CallOK (d + 1) mc ms yX10_load (Cond.code yX10_load cX10_load 5 (some .int)) av n M P := call_intro (own := RX10) (by decide) rfl hw (fun _ _ _ _ _ _ _ _ _ _ _ _ _ hM => sX10_load hM) hb
def tX10_faultPosition (d mc ms : Nat) (P : PO) : List (Nat × OP) := [(0, oAld 0 1), (1, oPush (.int 0) 2), (2, oPi 10 0 5), (5, oAld 0 6), (6, oGi 10 8 9), (9, oRetI mc ms P)]
set_option maxRecDepth 20000 in
theorem sX10_faultPosition {p : Program} {l : Launch} {e : Env} {s : State} {m : MethodId} {args : Array Value} {below : List Frame} {meth : Method} {c : Code} {D : va_G} {cA : Nat → ClassId} {ad0 : Nat → Nat} {n0 sz d mc ms : Nat} {P : PO} (hM : FM p l s m args meth c D cA 1 ad0 n0 sz cX10_faultPosition RX10 (some .int) [] yX10_faultPosition.name) : ∀ q ∈ tX10_faultPosition d mc ms P, Snd (jM p l e s m args below meth c D cA 1 ad0 n0 sz (d + 1) mc ms P) q.1 q.2 := by
  have hF := hM.1
  have hts := hF.2.2.2.2.1
  unfold tX10_faultPosition
  refine fmS (snd_aloadn hF (k := 0) rfl (by decide +kernel)) ?_
  refine fmS (snd_iconst hF (n := 0) rfl (by decide +kernel)) ?_
  refine fmS (snd_puti hF okX10 (k := 0) (by decide) qw1104 rfl rfl rfl rfl (by decide +kernel)) ?_
  refine fmS (snd_aloadn hF (k := 0) rfl (by decide +kernel)) ?_
  refine fmS (snd_geti hF okX10 (k := 8) (by decide) qw1112 rfl rfl (by decide +kernel)) ?_
  refine fmS (snd_retI hM (by decide +kernel)) ?_
  exact fmE
theorem iX10_faultPosition {d mc ms n : Nat} {av : List Value} {M : PM} {P : PO} (hw : wid av ≤ 1) (hb : ∀ J : KT, (∀ (k : Nat) (stops : Nat → Bool) (pc : Nat) (lv : LV) (st : List Value) (nn : NN) (M : PM), lk (tX10_faultPosition d mc ms P) pc (wpN (tX10_faultPosition d mc ms P) stops k J) lv st nn M → J pc lv st nn M) → J 0 (entA 0 av) [] (n, 0, 0) M) : CallOK (d + 1) mc ms yX10_faultPosition (Cond.code yX10_faultPosition cX10_faultPosition 1 (some .int)) av n M P := call_intro (own := RX10) (by decide) rfl hw (fun _ _ _ _ _ _ _ _ _ _ _ _ _ hM => sX10_faultPosition hM) hb
def tX10_statements (d mc ms : Nat) (P : PO) : List (Nat × OP) := [(0, oAld 0 1), (1, oPush (.int 0) 2), (2, oPi 10 0 5), (5, oAld 0 6), (6, oGr 10 1 9), (9, oPush (.int 0) 10), (10, oAi 100 11), (11, oRetI mc ms P)]
set_option maxRecDepth 20000 in
theorem sX10_statements {p : Program} {l : Launch} {e : Env} {s : State} {m : MethodId} {args : Array Value} {below : List Frame} {meth : Method} {c : Code} {D : va_G} {cA : Nat → ClassId} {ad0 : Nat → Nat} {n0 sz d mc ms : Nat} {P : PO} (hM : FM p l s m args meth c D cA 1 ad0 n0 sz cX10_statements RX10 (some .int) [] yX10_statements.name) : ∀ q ∈ tX10_statements d mc ms P, Snd (jM p l e s m args below meth c D cA 1 ad0 n0 sz (d + 1) mc ms P) q.1 q.2 := by
  have hF := hM.1
  have hts := hF.2.2.2.2.1
  unfold tX10_statements
  refine fmS (snd_aloadn hF (k := 0) rfl (by decide +kernel)) ?_
  refine fmS (snd_iconst hF (n := 0) rfl (by decide +kernel)) ?_
  refine fmS (snd_puti hF okX10 (k := 0) (by decide) qw1104 rfl rfl rfl rfl (by decide +kernel)) ?_
  refine fmS (snd_aloadn hF (k := 0) rfl (by decide +kernel)) ?_
  refine fmS (snd_getr hF okX10 (k := 1) (by decide) qw1105 rfl rfl (by decide +kernel)) ?_
  refine fmS (snd_iconst hF (n := 0) rfl (by decide +kernel)) ?_
  refine fmS (snd_iaload hF (by decide +kernel)) ?_
  refine fmS (snd_retI hM (by decide +kernel)) ?_
  exact fmE
theorem iX10_statements {d mc ms n : Nat} {av : List Value} {M : PM} {P : PO} (hw : wid av ≤ 1) (hb : ∀ J : KT, (∀ (k : Nat) (stops : Nat → Bool) (pc : Nat) (lv : LV) (st : List Value) (nn : NN) (M : PM), lk (tX10_statements d mc ms P) pc (wpN (tX10_statements d mc ms P) stops k J) lv st nn M → J pc lv st nn M) → J 0 (entA 0 av) [] (n, 0, 0) M) : CallOK (d + 1) mc ms yX10_statements (Cond.code yX10_statements cX10_statements 1 (some .int)) av n M P := call_intro (own := RX10) (by decide) rfl hw (fun _ _ _ _ _ _ _ _ _ _ _ _ _ hM => sX10_statements hM) hb
def tX10_setMode (d mc ms : Nat) (P : PO) : List (Nat × OP) := [(0, oAld 0 1), (1, oPush (.int 0) 2), (2, oPi 10 0 5), (5, oIld 1 6), (6, oPush (.int 0) 7), (7, oPush (.int 1) 8), (8, oCallS d mc ms P 0 0 yX10_in (Cond.code yX10_in cX10_in 3 (some .boolean)) 3 11), (11, oIf (fun x => x = 0) 14 20), (14, oAld 0 15), (15, oPush (.int 1) 16), (16, oCallV d mc ms P 0 0 yX10_raises (Cond.code yX10_raises cX10_raises 2 (some .int)) 1 10 19), (19, oRetI mc ms P), (20, oAld 0 21), (21, oGr 10 1 24), (24, oPush (.int 1) 25), (25, oAi 100 26), (26, oIst 2 27), (27, oAld 0 28), (28, oGr 10 1 31), (31, oPush (.int 1) 32), (32, oIld 1 33), (33, oSi 100 (fun x => x) 34), (34, oIld 2 35), (35, oRetI mc ms P)]
set_option maxRecDepth 20000 in
theorem sX10_setMode {p : Program} {l : Launch} {e : Env} {s : State} {m : MethodId} {args : Array Value} {below : List Frame} {meth : Method} {c : Code} {D : va_G} {cA : Nat → ClassId} {ad0 : Nat → Nat} {n0 sz d mc ms : Nat} {P : PO} (hM : FM p l s m args meth c D cA 3 ad0 n0 sz cX10_setMode RX10 (some .int) [] yX10_setMode.name) : ∀ q ∈ tX10_setMode d mc ms P, Snd (jM p l e s m args below meth c D cA 3 ad0 n0 sz (d + 1) mc ms P) q.1 q.2 := by
  have hF := hM.1
  have hts := hF.2.2.2.2.1
  unfold tX10_setMode
  refine fmS (snd_aloadn hF (k := 0) rfl (by decide +kernel)) ?_
  refine fmS (snd_iconst hF (n := 0) rfl (by decide +kernel)) ?_
  refine fmS (snd_puti hF okX10 (k := 0) (by decide) qw1104 rfl rfl rfl rfl (by decide +kernel)) ?_
  refine fmS (snd_iloadn hF (k := 1) rfl (by decide +kernel)) ?_
  refine fmS (snd_iconst hF (n := 0) rfl (by decide +kernel)) ?_
  refine fmS (snd_iconst hF (n := 1) rfl (by decide +kernel)) ?_
  refine fmS (snd_callS hM k_X10_in qw1101 qw1102 (by decide +kernel)) ?_
  refine fmS (snd_if_ne hF (off := 9) (by decide) (by decide +kernel)) ?_
  refine fmS (snd_aloadn hF (k := 0) rfl (by decide +kernel)) ?_
  refine fmS (snd_iconst hF (n := 1) rfl (by decide +kernel)) ?_
  refine fmS (snd_callV hM k_X10_raises okX10 qw1221 qw1223 (hts _ qw35) (by decide +kernel)) ?_
  refine fmS (snd_retI hM (by decide +kernel)) ?_
  refine fmS (snd_aloadn hF (k := 0) rfl (by decide +kernel)) ?_
  refine fmS (snd_getr hF okX10 (k := 1) (by decide) qw1105 rfl rfl (by decide +kernel)) ?_
  refine fmS (snd_iconst hF (n := 1) rfl (by decide +kernel)) ?_
  refine fmS (snd_iaload hF (by decide +kernel)) ?_
  refine fmS (snd_istoren hF (k := 2) rfl (by decide) (by decide +kernel)) ?_
  refine fmS (snd_aloadn hF (k := 0) rfl (by decide +kernel)) ?_
  refine fmS (snd_getr hF okX10 (k := 1) (by decide) qw1105 rfl rfl (by decide +kernel)) ?_
  refine fmS (snd_iconst hF (n := 1) rfl (by decide +kernel)) ?_
  refine fmS (snd_iloadn hF (k := 1) rfl (by decide +kernel)) ?_
  refine fmS (snd_iastore hF (by decide +kernel)) ?_
  refine fmS (snd_iloadn hF (k := 2) rfl (by decide +kernel)) ?_
  refine fmS (snd_retI hM (by decide +kernel)) ?_
  exact fmE
theorem iX10_setMode {d mc ms n : Nat} {av : List Value} {M : PM} {P : PO} (hw : wid av ≤ 3) (hb : ∀ J : KT, (∀ (k : Nat) (stops : Nat → Bool) (pc : Nat) (lv : LV) (st : List Value) (nn : NN) (M : PM), lk (tX10_setMode d mc ms P) pc (wpN (tX10_setMode d mc ms P) stops k J) lv st nn M → J pc lv st nn M) → J 0 (entA 0 av) [] (n, 0, 0) M) : CallOK (d + 1) mc ms yX10_setMode (Cond.code yX10_setMode cX10_setMode 3 (some .int)) av n M P := call_intro (own := RX10) (by decide) rfl hw (fun _ _ _ _ _ _ _ _ _ _ _ _ _ hM => sX10_setMode hM) hb
def tX10_setCount (d mc ms : Nat) (P : PO) : List (Nat × OP) := [(0, oAld 0 1), (1, oPush (.int 0) 2), (2, oPi 10 0 5), (5, oIld 1 6), (6, oPush (.int 0) 7), (7, oPush (.int 16) 9), (9, oCallS d mc ms P 0 0 yX10_in (Cond.code yX10_in cX10_in 3 (some .boolean)) 3 12), (12, oIf (fun x => x = 0) 15 21), (15, oAld 0 16), (16, oPush (.int 1) 17), (17, oCallV d mc ms P 0 0 yX10_raises (Cond.code yX10_raises cX10_raises 2 (some .int)) 1 10 20), (20, oRetI mc ms P), (21, oAld 0 22), (22, oGr 10 1 25), (25, oPush (.int 2) 26), (26, oAi 100 27), (27, oIst 2 28), (28, oAld 0 29), (29, oGr 10 1 32), (32, oPush (.int 2) 33), (33, oIld 1 34), (34, oSi 100 (fun x => x) 35), (35, oIld 2 36), (36, oRetI mc ms P)]
set_option maxRecDepth 20000 in
theorem sX10_setCount {p : Program} {l : Launch} {e : Env} {s : State} {m : MethodId} {args : Array Value} {below : List Frame} {meth : Method} {c : Code} {D : va_G} {cA : Nat → ClassId} {ad0 : Nat → Nat} {n0 sz d mc ms : Nat} {P : PO} (hM : FM p l s m args meth c D cA 3 ad0 n0 sz cX10_setCount RX10 (some .int) [] yX10_setCount.name) : ∀ q ∈ tX10_setCount d mc ms P, Snd (jM p l e s m args below meth c D cA 3 ad0 n0 sz (d + 1) mc ms P) q.1 q.2 := by
  have hF := hM.1
  have hts := hF.2.2.2.2.1
  unfold tX10_setCount
  refine fmS (snd_aloadn hF (k := 0) rfl (by decide +kernel)) ?_
  refine fmS (snd_iconst hF (n := 0) rfl (by decide +kernel)) ?_
  refine fmS (snd_puti hF okX10 (k := 0) (by decide) qw1104 rfl rfl rfl rfl (by decide +kernel)) ?_
  refine fmS (snd_iloadn hF (k := 1) rfl (by decide +kernel)) ?_
  refine fmS (snd_iconst hF (n := 0) rfl (by decide +kernel)) ?_
  refine fmS (snd_bipush hF (n := 16) (by decide +kernel) (by decide +kernel)) ?_
  refine fmS (snd_callS hM k_X10_in qw1101 qw1102 (by decide +kernel)) ?_
  refine fmS (snd_if_ne hF (off := 9) (by decide) (by decide +kernel)) ?_
  refine fmS (snd_aloadn hF (k := 0) rfl (by decide +kernel)) ?_
  refine fmS (snd_iconst hF (n := 1) rfl (by decide +kernel)) ?_
  refine fmS (snd_callV hM k_X10_raises okX10 qw1221 qw1223 (hts _ qw35) (by decide +kernel)) ?_
  refine fmS (snd_retI hM (by decide +kernel)) ?_
  refine fmS (snd_aloadn hF (k := 0) rfl (by decide +kernel)) ?_
  refine fmS (snd_getr hF okX10 (k := 1) (by decide) qw1105 rfl rfl (by decide +kernel)) ?_
  refine fmS (snd_iconst hF (n := 2) rfl (by decide +kernel)) ?_
  refine fmS (snd_iaload hF (by decide +kernel)) ?_
  refine fmS (snd_istoren hF (k := 2) rfl (by decide) (by decide +kernel)) ?_
  refine fmS (snd_aloadn hF (k := 0) rfl (by decide +kernel)) ?_
  refine fmS (snd_getr hF okX10 (k := 1) (by decide) qw1105 rfl rfl (by decide +kernel)) ?_
  refine fmS (snd_iconst hF (n := 2) rfl (by decide +kernel)) ?_
  refine fmS (snd_iloadn hF (k := 1) rfl (by decide +kernel)) ?_
  refine fmS (snd_iastore hF (by decide +kernel)) ?_
  refine fmS (snd_iloadn hF (k := 2) rfl (by decide +kernel)) ?_
  refine fmS (snd_retI hM (by decide +kernel)) ?_
  exact fmE
theorem iX10_setCount {d mc ms n : Nat} {av : List Value} {M : PM} {P : PO} (hw : wid av ≤ 3) (hb : ∀ J : KT, (∀ (k : Nat) (stops : Nat → Bool) (pc : Nat) (lv : LV) (st : List Value) (nn : NN) (M : PM), lk (tX10_setCount d mc ms P) pc (wpN (tX10_setCount d mc ms P) stops k J) lv st nn M → J pc lv st nn M) → J 0 (entA 0 av) [] (n, 0, 0) M) : CallOK (d + 1) mc ms yX10_setCount (Cond.code yX10_setCount cX10_setCount 3 (some .int)) av n M P := call_intro (own := RX10) (by decide) rfl hw (fun _ _ _ _ _ _ _ _ _ _ _ _ _ hM => sX10_setCount hM) hb
def tX10_isPlace (d mc ms : Nat) (P : PO) : List (Nat × OP) := [(0, oIld 0 1), (1, oPush (.int 0) 2), (2, oPush (.int 2) 3), (3, oCallS d mc ms P 0 0 yX10_in (Cond.code yX10_in cX10_in 3 (some .boolean)) 3 6), (6, oIf (fun x => x = 0) 23 9), (9, oIld 1 10), (10, oPush (.int 0) 11), (11, oPush (.int 15) 13), (13, oCallS d mc ms P 0 0 yX10_in (Cond.code yX10_in cX10_in 3 (some .boolean)) 3 16), (16, oIf (fun x => x = 0) 23 19), (19, oPush (.int 1) 20), (20, oGoto 24), (23, oPush (.int 0) 24), (24, oRetZ mc ms P)]
set_option maxRecDepth 20000 in
theorem sX10_isPlace {p : Program} {l : Launch} {e : Env} {s : State} {m : MethodId} {args : Array Value} {below : List Frame} {meth : Method} {c : Code} {D : va_G} {cA : Nat → ClassId} {ad0 : Nat → Nat} {n0 sz d mc ms : Nat} {P : PO} (hM : FM p l s m args meth c D cA 2 ad0 n0 sz cX10_isPlace RX10 (some .boolean) [] yX10_isPlace.name) : ∀ q ∈ tX10_isPlace d mc ms P, Snd (jM p l e s m args below meth c D cA 2 ad0 n0 sz (d + 1) mc ms P) q.1 q.2 := by
  have hF := hM.1
  have hts := hF.2.2.2.2.1
  unfold tX10_isPlace
  refine fmS (snd_iloadn hF (k := 0) rfl (by decide +kernel)) ?_
  refine fmS (snd_iconst hF (n := 0) rfl (by decide +kernel)) ?_
  refine fmS (snd_iconst hF (n := 2) rfl (by decide +kernel)) ?_
  refine fmS (snd_callS hM k_X10_in qw1101 qw1102 (by decide +kernel)) ?_
  refine fmS (snd_if_eq hF (off := 17) (by decide) (by decide +kernel)) ?_
  refine fmS (snd_iloadn hF (k := 1) rfl (by decide +kernel)) ?_
  refine fmS (snd_iconst hF (n := 0) rfl (by decide +kernel)) ?_
  refine fmS (snd_bipush hF (n := 15) (by decide +kernel) (by decide +kernel)) ?_
  refine fmS (snd_callS hM k_X10_in qw1101 qw1102 (by decide +kernel)) ?_
  refine fmS (snd_if_eq hF (off := 7) (by decide) (by decide +kernel)) ?_
  refine fmS (snd_iconst hF (n := 1) rfl (by decide +kernel)) ?_
  refine fmS (snd_goto hF (off := 4) (by decide) (by decide +kernel)) ?_
  refine fmS (snd_iconst hF (n := 0) rfl (by decide +kernel)) ?_
  refine fmS (snd_retZ hM (by decide +kernel)) ?_
  exact fmE
theorem iX10_isPlace {d mc ms n : Nat} {av : List Value} {M : PM} {P : PO} (hw : wid av ≤ 2) (hb : ∀ J : KT, (∀ (k : Nat) (stops : Nat → Bool) (pc : Nat) (lv : LV) (st : List Value) (nn : NN) (M : PM), lk (tX10_isPlace d mc ms P) pc (wpN (tX10_isPlace d mc ms P) stops k J) lv st nn M → J pc lv st nn M) → J 0 (entA 0 av) [] (n, 0, 0) M) : CallOK (d + 1) mc ms yX10_isPlace (Cond.code yX10_isPlace cX10_isPlace 2 (some .boolean)) av n M P := call_intro (own := RX10) (by decide) rfl hw (fun _ _ _ _ _ _ _ _ _ _ _ _ _ hM => sX10_isPlace hM) hb
def tX10_setElement (d mc ms : Nat) (P : PO) : List (Nat × OP) := [(0, oAld 0 1), (1, oPush (.int 0) 2), (2, oPi 10 0 5), (5, oIld 1 6), (6, oIld 2 7), (7, oCallS d mc ms P 0 0 yX10_isPlace (Cond.code yX10_isPlace cX10_isPlace 2 (some .boolean)) 2 10), (10, oIf (fun x => x = 0) 13 19), (13, oAld 0 14), (14, oPush (.int 1) 15), (15, oCallV d mc ms P 0 0 yX10_raises (Cond.code yX10_raises cX10_raises 2 (some .int)) 1 10 18), (18, oRetI mc ms P), (19, oIld 3 20), (20, oPush (.int (-99)) 22), (22, oPush (.int 99) 24), (24, oCallS d mc ms P 0 0 yX10_in (Cond.code yX10_in cX10_in 3 (some .boolean)) 3 27), (27, oIf (fun x => x = 0) 30 36), (30, oAld 0 31), (31, oPush (.int 2) 32), (32, oCallV d mc ms P 0 0 yX10_raises (Cond.code yX10_raises cX10_raises 2 (some .int)) 1 10 35), (35, oRetI mc ms P), (36, oAld 0 37), (37, oGr 10 1 40), (40, oPush (.int 19) 42), (42, oPush (.int 16) 44), (44, oIld 1 45), (45, oI2 (fun x y => x * y) 46), (46, oI2 (fun x y => x + y) 47), (47, oIld 2 48), (48, oI2 (fun x y => x + y) 49), (49, oAi 100 50), (50, oIst 4 52), (52, oAld 0 53), (53, oGr 10 1 56), (56, oPush (.int 19) 58), (58, oPush (.int 16) 60), (60, oIld 1 61), (61, oI2 (fun x y => x * y) 62), (62, oI2 (fun x y => x + y) 63), (63, oIld 2 64), (64, oI2 (fun x y => x + y) 65), (65, oIld 3 66), (66, oSi 100 (fun x => x) 67), (67, oIld 4 69), (69, oRetI mc ms P)]
set_option maxRecDepth 20000 in
theorem sX10_setElement {p : Program} {l : Launch} {e : Env} {s : State} {m : MethodId} {args : Array Value} {below : List Frame} {meth : Method} {c : Code} {D : va_G} {cA : Nat → ClassId} {ad0 : Nat → Nat} {n0 sz d mc ms : Nat} {P : PO} (hM : FM p l s m args meth c D cA 5 ad0 n0 sz cX10_setElement RX10 (some .int) [] yX10_setElement.name) : ∀ q ∈ tX10_setElement d mc ms P, Snd (jM p l e s m args below meth c D cA 5 ad0 n0 sz (d + 1) mc ms P) q.1 q.2 := by
  have hF := hM.1
  have hts := hF.2.2.2.2.1
  unfold tX10_setElement
  refine fmS (snd_aloadn hF (k := 0) rfl (by decide +kernel)) ?_
  refine fmS (snd_iconst hF (n := 0) rfl (by decide +kernel)) ?_
  refine fmS (snd_puti hF okX10 (k := 0) (by decide) qw1104 rfl rfl rfl rfl (by decide +kernel)) ?_
  refine fmS (snd_iloadn hF (k := 1) rfl (by decide +kernel)) ?_
  refine fmS (snd_iloadn hF (k := 2) rfl (by decide +kernel)) ?_
  refine fmS (snd_callS hM k_X10_isPlace qw1312 qw1313 (by decide +kernel)) ?_
  refine fmS (snd_if_ne hF (off := 9) (by decide) (by decide +kernel)) ?_
  refine fmS (snd_aloadn hF (k := 0) rfl (by decide +kernel)) ?_
  refine fmS (snd_iconst hF (n := 1) rfl (by decide +kernel)) ?_
  refine fmS (snd_callV hM k_X10_raises okX10 qw1221 qw1223 (hts _ qw35) (by decide +kernel)) ?_
  refine fmS (snd_retI hM (by decide +kernel)) ?_
  refine fmS (snd_iloadn hF (k := 3) rfl (by decide +kernel)) ?_
  refine fmS (snd_bipush hF (n := (-99)) (by decide +kernel) (by decide +kernel)) ?_
  refine fmS (snd_bipush hF (n := 99) (by decide +kernel) (by decide +kernel)) ?_
  refine fmS (snd_callS hM k_X10_in qw1101 qw1102 (by decide +kernel)) ?_
  refine fmS (snd_if_ne hF (off := 9) (by decide) (by decide +kernel)) ?_
  refine fmS (snd_aloadn hF (k := 0) rfl (by decide +kernel)) ?_
  refine fmS (snd_iconst hF (n := 2) rfl (by decide +kernel)) ?_
  refine fmS (snd_callV hM k_X10_raises okX10 qw1221 qw1223 (hts _ qw35) (by decide +kernel)) ?_
  refine fmS (snd_retI hM (by decide +kernel)) ?_
  refine fmS (snd_aloadn hF (k := 0) rfl (by decide +kernel)) ?_
  refine fmS (snd_getr hF okX10 (k := 1) (by decide) qw1105 rfl rfl (by decide +kernel)) ?_
  refine fmS (snd_bipush hF (n := 19) (by decide +kernel) (by decide +kernel)) ?_
  refine fmS (snd_bipush hF (n := 16) (by decide +kernel) (by decide +kernel)) ?_
  refine fmS (snd_iloadn hF (k := 1) rfl (by decide +kernel)) ?_
  refine fmS (snd_imul hF (by decide +kernel)) ?_
  refine fmS (snd_iadd hF (by decide +kernel)) ?_
  refine fmS (snd_iloadn hF (k := 2) rfl (by decide +kernel)) ?_
  refine fmS (snd_iadd hF (by decide +kernel)) ?_
  refine fmS (snd_iaload hF (by decide +kernel)) ?_
  refine fmS (snd_istore hF (by decide) (by decide +kernel)) ?_
  refine fmS (snd_aloadn hF (k := 0) rfl (by decide +kernel)) ?_
  refine fmS (snd_getr hF okX10 (k := 1) (by decide) qw1105 rfl rfl (by decide +kernel)) ?_
  refine fmS (snd_bipush hF (n := 19) (by decide +kernel) (by decide +kernel)) ?_
  refine fmS (snd_bipush hF (n := 16) (by decide +kernel) (by decide +kernel)) ?_
  refine fmS (snd_iloadn hF (k := 1) rfl (by decide +kernel)) ?_
  refine fmS (snd_imul hF (by decide +kernel)) ?_
  refine fmS (snd_iadd hF (by decide +kernel)) ?_
  refine fmS (snd_iloadn hF (k := 2) rfl (by decide +kernel)) ?_
  refine fmS (snd_iadd hF (by decide +kernel)) ?_
  refine fmS (snd_iloadn hF (k := 3) rfl (by decide +kernel)) ?_
  refine fmS (snd_iastore hF (by decide +kernel)) ?_
  refine fmS (snd_iload hF (by decide +kernel)) ?_
  refine fmS (snd_retI hM (by decide +kernel)) ?_
  exact fmE
theorem iX10_setElement {d mc ms n : Nat} {av : List Value} {M : PM} {P : PO} (hw : wid av ≤ 5) (hb : ∀ J : KT, (∀ (k : Nat) (stops : Nat → Bool) (pc : Nat) (lv : LV) (st : List Value) (nn : NN) (M : PM), lk (tX10_setElement d mc ms P) pc (wpN (tX10_setElement d mc ms P) stops k J) lv st nn M → J pc lv st nn M) → J 0 (entA 0 av) [] (n, 0, 0) M) : CallOK (d + 1) mc ms yX10_setElement (Cond.code yX10_setElement cX10_setElement 5 (some .int)) av n M P := call_intro (own := RX10) (by decide) rfl hw (fun _ _ _ _ _ _ _ _ _ _ _ _ _ hM => sX10_setElement hM) hb
def tX10_fill (d mc ms : Nat) (P : PO) : List (Nat × OP) := [(0, oAld 0 1), (1, oPush (.int 0) 2), (2, oPi 10 0 5), (5, oIld 1 6), (6, oPush (.int 0) 7), (7, oPush (.int 2) 8), (8, oCallS d mc ms P 0 0 yX10_in (Cond.code yX10_in cX10_in 3 (some .boolean)) 3 11), (11, oIf (fun x => x = 0) 14 20), (14, oAld 0 15), (15, oPush (.int 1) 16), (16, oCallV d mc ms P 0 0 yX10_raises (Cond.code yX10_raises cX10_raises 2 (some .int)) 1 10 19), (19, oRetI mc ms P), (20, oIld 2 21), (21, oIst 3 22), (22, oPush (.int 0) 23), (23, oIst 4 25), (25, oPush (.int 0) 26), (26, oIst 5 28), (28, oIld 5 30), (30, oPush (.int 16) 32), (32, oIc (fun x y => y ≤ x) 95 35), (35, oIld 3 36), (36, oPush (.int 1664525) 38), (38, oI2 (fun x y => x * y) 39), (39, oPush (.int 1013904223) 41), (41, oI2 (fun x y => x + y) 42), (42, oIst 3 43), (43, oAld 0 44), (44, oGr 10 1 47), (47, oPush (.int 19) 49), (49, oPush (.int 16) 51), (51, oIld 1 52), (52, oI2 (fun x y => x * y) 53), (53, oI2 (fun x y => x + y) 54), (54, oIld 5 56), (56, oI2 (fun x y => x + y) 57), (57, oIld 3 58), (58, oPush (.int 8) 60), (60, oI2 (fun x y => (x.toUInt32 >>> (y.toUInt32 &&& Int32.toUInt32 31)).toInt32) 61), (61, oPush (.int 199) 64), (64, oI2n (fun x y => x - x / y * y) 65), (65, oPush (.int 99) 67), (67, oI2 (fun x y => x - y) 68), (68, oSi 100 (fun x => x) 69), (69, oIld 4 71), (71, oAld 0 72), (72, oGr 10 1 75), (75, oPush (.int 19) 77), (77, oPush (.int 16) 79), (79, oIld 1 80), (80, oI2 (fun x y => x * y) 81), (81, oI2 (fun x y => x + y) 82), (82, oIld 5 84), (84, oI2 (fun x y => x + y) 85), (85, oAi 100 86), (86, oI2 (fun x y => x + y) 87), (87, oIst 4 89), (89, oInc 5 1 92), (92, oGoto 28), (95, oIld 4 97), (97, oRetI mc ms P)]
set_option maxRecDepth 20000 in
theorem sX10_fill {p : Program} {l : Launch} {e : Env} {s : State} {m : MethodId} {args : Array Value} {below : List Frame} {meth : Method} {c : Code} {D : va_G} {cA : Nat → ClassId} {ad0 : Nat → Nat} {n0 sz d mc ms : Nat} {P : PO} (hM : FM p l s m args meth c D cA 6 ad0 n0 sz cX10_fill RX10 (some .int) [] yX10_fill.name) : ∀ q ∈ tX10_fill d mc ms P, Snd (jM p l e s m args below meth c D cA 6 ad0 n0 sz (d + 1) mc ms P) q.1 q.2 := by
  have hF := hM.1
  have hts := hF.2.2.2.2.1
  unfold tX10_fill
  refine fmS (snd_aloadn hF (k := 0) rfl (by decide +kernel)) ?_
  refine fmS (snd_iconst hF (n := 0) rfl (by decide +kernel)) ?_
  refine fmS (snd_puti hF okX10 (k := 0) (by decide) qw1104 rfl rfl rfl rfl (by decide +kernel)) ?_
  refine fmS (snd_iloadn hF (k := 1) rfl (by decide +kernel)) ?_
  refine fmS (snd_iconst hF (n := 0) rfl (by decide +kernel)) ?_
  refine fmS (snd_iconst hF (n := 2) rfl (by decide +kernel)) ?_
  refine fmS (snd_callS hM k_X10_in qw1101 qw1102 (by decide +kernel)) ?_
  refine fmS (snd_if_ne hF (off := 9) (by decide) (by decide +kernel)) ?_
  refine fmS (snd_aloadn hF (k := 0) rfl (by decide +kernel)) ?_
  refine fmS (snd_iconst hF (n := 1) rfl (by decide +kernel)) ?_
  refine fmS (snd_callV hM k_X10_raises okX10 qw1221 qw1223 (hts _ qw35) (by decide +kernel)) ?_
  refine fmS (snd_retI hM (by decide +kernel)) ?_
  refine fmS (snd_iloadn hF (k := 2) rfl (by decide +kernel)) ?_
  refine fmS (snd_istoren hF (k := 3) rfl (by decide) (by decide +kernel)) ?_
  refine fmS (snd_iconst hF (n := 0) rfl (by decide +kernel)) ?_
  refine fmS (snd_istore hF (by decide) (by decide +kernel)) ?_
  refine fmS (snd_iconst hF (n := 0) rfl (by decide +kernel)) ?_
  refine fmS (snd_istore hF (by decide) (by decide +kernel)) ?_
  refine fmS (snd_iload hF (by decide +kernel)) ?_
  refine fmS (snd_bipush hF (n := 16) (by decide +kernel) (by decide +kernel)) ?_
  refine fmS (snd_icmp_ge hF (off := 63) (by decide) (by decide +kernel)) ?_
  refine fmS (snd_iloadn hF (k := 3) rfl (by decide +kernel)) ?_
  refine fmS (snd_ldc hF qw1319 (by decide +kernel)) ?_
  refine fmS (snd_imul hF (by decide +kernel)) ?_
  refine fmS (snd_ldc hF qw1320 (by decide +kernel)) ?_
  refine fmS (snd_iadd hF (by decide +kernel)) ?_
  refine fmS (snd_istoren hF (k := 3) rfl (by decide) (by decide +kernel)) ?_
  refine fmS (snd_aloadn hF (k := 0) rfl (by decide +kernel)) ?_
  refine fmS (snd_getr hF okX10 (k := 1) (by decide) qw1105 rfl rfl (by decide +kernel)) ?_
  refine fmS (snd_bipush hF (n := 19) (by decide +kernel) (by decide +kernel)) ?_
  refine fmS (snd_bipush hF (n := 16) (by decide +kernel) (by decide +kernel)) ?_
  refine fmS (snd_iloadn hF (k := 1) rfl (by decide +kernel)) ?_
  refine fmS (snd_imul hF (by decide +kernel)) ?_
  refine fmS (snd_iadd hF (by decide +kernel)) ?_
  refine fmS (snd_iload hF (by decide +kernel)) ?_
  refine fmS (snd_iadd hF (by decide +kernel)) ?_
  refine fmS (snd_iloadn hF (k := 3) rfl (by decide +kernel)) ?_
  refine fmS (snd_bipush hF (n := 8) (by decide +kernel) (by decide +kernel)) ?_
  refine fmS (snd_iushr hF (by decide +kernel)) ?_
  refine fmS (snd_sipush hF (n := 199) (by decide +kernel) (by decide +kernel)) ?_
  refine fmS (snd_irem hF (by decide +kernel)) ?_
  refine fmS (snd_bipush hF (n := 99) (by decide +kernel) (by decide +kernel)) ?_
  refine fmS (snd_isub hF (by decide +kernel)) ?_
  refine fmS (snd_iastore hF (by decide +kernel)) ?_
  refine fmS (snd_iload hF (by decide +kernel)) ?_
  refine fmS (snd_aloadn hF (k := 0) rfl (by decide +kernel)) ?_
  refine fmS (snd_getr hF okX10 (k := 1) (by decide) qw1105 rfl rfl (by decide +kernel)) ?_
  refine fmS (snd_bipush hF (n := 19) (by decide +kernel) (by decide +kernel)) ?_
  refine fmS (snd_bipush hF (n := 16) (by decide +kernel) (by decide +kernel)) ?_
  refine fmS (snd_iloadn hF (k := 1) rfl (by decide +kernel)) ?_
  refine fmS (snd_imul hF (by decide +kernel)) ?_
  refine fmS (snd_iadd hF (by decide +kernel)) ?_
  refine fmS (snd_iload hF (by decide +kernel)) ?_
  refine fmS (snd_iadd hF (by decide +kernel)) ?_
  refine fmS (snd_iaload hF (by decide +kernel)) ?_
  refine fmS (snd_iadd hF (by decide +kernel)) ?_
  refine fmS (snd_istore hF (by decide) (by decide +kernel)) ?_
  refine fmS (snd_iinc hF (n := 1) (by decide +kernel) (by decide) (by decide +kernel)) ?_
  refine fmS (snd_goto hF (off := (-64)) (by decide) (by decide +kernel)) ?_
  refine fmS (snd_iload hF (by decide +kernel)) ?_
  refine fmS (snd_retI hM (by decide +kernel)) ?_
  exact fmE
theorem iX10_fill {d mc ms n : Nat} {av : List Value} {M : PM} {P : PO} (hw : wid av ≤ 6) (hb : ∀ J : KT, (∀ (k : Nat) (stops : Nat → Bool) (pc : Nat) (lv : LV) (st : List Value) (nn : NN) (M : PM), lk (tX10_fill d mc ms P) pc (wpN (tX10_fill d mc ms P) stops k J) lv st nn M → J pc lv st nn M) → J 0 (entA 0 av) [] (n, 0, 0) M) : CallOK (d + 1) mc ms yX10_fill (Cond.code yX10_fill cX10_fill 6 (some .int)) av n M P := call_intro (own := RX10) (by decide) rfl hw (fun _ _ _ _ _ _ _ _ _ _ _ _ _ hM => sX10_fill hM) hb
def tX10_element (d mc ms : Nat) (P : PO) : List (Nat × OP) := [(0, oAld 0 1), (1, oPush (.int 0) 2), (2, oPi 10 0 5), (5, oIld 1 6), (6, oIld 2 7), (7, oCallS d mc ms P 0 0 yX10_isPlace (Cond.code yX10_isPlace cX10_isPlace 2 (some .boolean)) 2 10), (10, oIf (fun x => x = 0) 30 13), (13, oAld 0 14), (14, oGr 10 1 17), (17, oPush (.int 19) 19), (19, oPush (.int 16) 21), (21, oIld 1 22), (22, oI2 (fun x y => x * y) 23), (23, oI2 (fun x y => x + y) 24), (24, oIld 2 25), (25, oI2 (fun x y => x + y) 26), (26, oAi 100 27), (27, oGoto 35), (30, oAld 0 31), (31, oPush (.int 1) 32), (32, oCallV d mc ms P 0 0 yX10_raises (Cond.code yX10_raises cX10_raises 2 (some .int)) 1 10 35), (35, oRetI mc ms P)]
set_option maxRecDepth 20000 in
theorem sX10_element {p : Program} {l : Launch} {e : Env} {s : State} {m : MethodId} {args : Array Value} {below : List Frame} {meth : Method} {c : Code} {D : va_G} {cA : Nat → ClassId} {ad0 : Nat → Nat} {n0 sz d mc ms : Nat} {P : PO} (hM : FM p l s m args meth c D cA 3 ad0 n0 sz cX10_element RX10 (some .int) [] yX10_element.name) : ∀ q ∈ tX10_element d mc ms P, Snd (jM p l e s m args below meth c D cA 3 ad0 n0 sz (d + 1) mc ms P) q.1 q.2 := by
  have hF := hM.1
  have hts := hF.2.2.2.2.1
  unfold tX10_element
  refine fmS (snd_aloadn hF (k := 0) rfl (by decide +kernel)) ?_
  refine fmS (snd_iconst hF (n := 0) rfl (by decide +kernel)) ?_
  refine fmS (snd_puti hF okX10 (k := 0) (by decide) qw1104 rfl rfl rfl rfl (by decide +kernel)) ?_
  refine fmS (snd_iloadn hF (k := 1) rfl (by decide +kernel)) ?_
  refine fmS (snd_iloadn hF (k := 2) rfl (by decide +kernel)) ?_
  refine fmS (snd_callS hM k_X10_isPlace qw1312 qw1313 (by decide +kernel)) ?_
  refine fmS (snd_if_eq hF (off := 20) (by decide) (by decide +kernel)) ?_
  refine fmS (snd_aloadn hF (k := 0) rfl (by decide +kernel)) ?_
  refine fmS (snd_getr hF okX10 (k := 1) (by decide) qw1105 rfl rfl (by decide +kernel)) ?_
  refine fmS (snd_bipush hF (n := 19) (by decide +kernel) (by decide +kernel)) ?_
  refine fmS (snd_bipush hF (n := 16) (by decide +kernel) (by decide +kernel)) ?_
  refine fmS (snd_iloadn hF (k := 1) rfl (by decide +kernel)) ?_
  refine fmS (snd_imul hF (by decide +kernel)) ?_
  refine fmS (snd_iadd hF (by decide +kernel)) ?_
  refine fmS (snd_iloadn hF (k := 2) rfl (by decide +kernel)) ?_
  refine fmS (snd_iadd hF (by decide +kernel)) ?_
  refine fmS (snd_iaload hF (by decide +kernel)) ?_
  refine fmS (snd_goto hF (off := 8) (by decide) (by decide +kernel)) ?_
  refine fmS (snd_aloadn hF (k := 0) rfl (by decide +kernel)) ?_
  refine fmS (snd_iconst hF (n := 1) rfl (by decide +kernel)) ?_
  refine fmS (snd_callV hM k_X10_raises okX10 qw1221 qw1223 (hts _ qw35) (by decide +kernel)) ?_
  refine fmS (snd_retI hM (by decide +kernel)) ?_
  exact fmE
theorem iX10_element {d mc ms n : Nat} {av : List Value} {M : PM} {P : PO} (hw : wid av ≤ 3) (hb : ∀ J : KT, (∀ (k : Nat) (stops : Nat → Bool) (pc : Nat) (lv : LV) (st : List Value) (nn : NN) (M : PM), lk (tX10_element d mc ms P) pc (wpN (tX10_element d mc ms P) stops k J) lv st nn M → J pc lv st nn M) → J 0 (entA 0 av) [] (n, 0, 0) M) : CallOK (d + 1) mc ms yX10_element (Cond.code yX10_element cX10_element 3 (some .int)) av n M P := call_intro (own := RX10) (by decide) rfl hw (fun _ _ _ _ _ _ _ _ _ _ _ _ _ hM => sX10_element hM) hb
def tX10_setInitial (d mc ms : Nat) (P : PO) : List (Nat × OP) := [(0, oAld 0 1), (1, oPush (.int 0) 2), (2, oPi 10 0 5), (5, oIld 1 6), (6, oCallS d mc ms P 0 0 yX10_isVariable (Cond.code yX10_isVariable cX10_isVariable 1 (some .boolean)) 1 9), (9, oIf (fun x => x = 0) 12 18), (12, oAld 0 13), (13, oPush (.int 1) 14), (14, oCallV d mc ms P 0 0 yX10_raises (Cond.code yX10_raises cX10_raises 2 (some .int)) 1 10 17), (17, oRetI mc ms P), (18, oIld 2 19), (19, oPush (.int (-999)) 22), (22, oPush (.int 999) 25), (25, oCallS d mc ms P 0 0 yX10_in (Cond.code yX10_in cX10_in 3 (some .boolean)) 3 28), (28, oIf (fun x => x = 0) 31 37), (31, oAld 0 32), (32, oPush (.int 2) 33), (33, oCallV d mc ms P 0 0 yX10_raises (Cond.code yX10_raises cX10_raises 2 (some .int)) 1 10 36), (36, oRetI mc ms P), (37, oAld 0 38), (38, oGr 10 1 41), (41, oPush (.int 67) 43), (43, oIld 1 44), (44, oI2 (fun x y => x + y) 45), (45, oAi 100 46), (46, oIst 3 47), (47, oAld 0 48), (48, oGr 10 1 51), (51, oPush (.int 67) 53), (53, oIld 1 54), (54, oI2 (fun x y => x + y) 55), (55, oIld 2 56), (56, oSi 100 (fun x => x) 57), (57, oIld 3 58), (58, oRetI mc ms P)]
set_option maxRecDepth 20000 in
theorem sX10_setInitial {p : Program} {l : Launch} {e : Env} {s : State} {m : MethodId} {args : Array Value} {below : List Frame} {meth : Method} {c : Code} {D : va_G} {cA : Nat → ClassId} {ad0 : Nat → Nat} {n0 sz d mc ms : Nat} {P : PO} (hM : FM p l s m args meth c D cA 4 ad0 n0 sz cX10_setInitial RX10 (some .int) [] yX10_setInitial.name) : ∀ q ∈ tX10_setInitial d mc ms P, Snd (jM p l e s m args below meth c D cA 4 ad0 n0 sz (d + 1) mc ms P) q.1 q.2 := by
  have hF := hM.1
  have hts := hF.2.2.2.2.1
  unfold tX10_setInitial
  refine fmS (snd_aloadn hF (k := 0) rfl (by decide +kernel)) ?_
  refine fmS (snd_iconst hF (n := 0) rfl (by decide +kernel)) ?_
  refine fmS (snd_puti hF okX10 (k := 0) (by decide) qw1104 rfl rfl rfl rfl (by decide +kernel)) ?_
  refine fmS (snd_iloadn hF (k := 1) rfl (by decide +kernel)) ?_
  refine fmS (snd_callS hM k_X10_isVariable qw1329 qw1330 (by decide +kernel)) ?_
  refine fmS (snd_if_ne hF (off := 9) (by decide) (by decide +kernel)) ?_
  refine fmS (snd_aloadn hF (k := 0) rfl (by decide +kernel)) ?_
  refine fmS (snd_iconst hF (n := 1) rfl (by decide +kernel)) ?_
  refine fmS (snd_callV hM k_X10_raises okX10 qw1221 qw1223 (hts _ qw35) (by decide +kernel)) ?_
  refine fmS (snd_retI hM (by decide +kernel)) ?_
  refine fmS (snd_iloadn hF (k := 2) rfl (by decide +kernel)) ?_
  refine fmS (snd_sipush hF (n := (-999)) (by decide +kernel) (by decide +kernel)) ?_
  refine fmS (snd_sipush hF (n := 999) (by decide +kernel) (by decide +kernel)) ?_
  refine fmS (snd_callS hM k_X10_in qw1101 qw1102 (by decide +kernel)) ?_
  refine fmS (snd_if_ne hF (off := 9) (by decide) (by decide +kernel)) ?_
  refine fmS (snd_aloadn hF (k := 0) rfl (by decide +kernel)) ?_
  refine fmS (snd_iconst hF (n := 2) rfl (by decide +kernel)) ?_
  refine fmS (snd_callV hM k_X10_raises okX10 qw1221 qw1223 (hts _ qw35) (by decide +kernel)) ?_
  refine fmS (snd_retI hM (by decide +kernel)) ?_
  refine fmS (snd_aloadn hF (k := 0) rfl (by decide +kernel)) ?_
  refine fmS (snd_getr hF okX10 (k := 1) (by decide) qw1105 rfl rfl (by decide +kernel)) ?_
  refine fmS (snd_bipush hF (n := 67) (by decide +kernel) (by decide +kernel)) ?_
  refine fmS (snd_iloadn hF (k := 1) rfl (by decide +kernel)) ?_
  refine fmS (snd_iadd hF (by decide +kernel)) ?_
  refine fmS (snd_iaload hF (by decide +kernel)) ?_
  refine fmS (snd_istoren hF (k := 3) rfl (by decide) (by decide +kernel)) ?_
  refine fmS (snd_aloadn hF (k := 0) rfl (by decide +kernel)) ?_
  refine fmS (snd_getr hF okX10 (k := 1) (by decide) qw1105 rfl rfl (by decide +kernel)) ?_
  refine fmS (snd_bipush hF (n := 67) (by decide +kernel) (by decide +kernel)) ?_
  refine fmS (snd_iloadn hF (k := 1) rfl (by decide +kernel)) ?_
  refine fmS (snd_iadd hF (by decide +kernel)) ?_
  refine fmS (snd_iloadn hF (k := 2) rfl (by decide +kernel)) ?_
  refine fmS (snd_iastore hF (by decide +kernel)) ?_
  refine fmS (snd_iloadn hF (k := 3) rfl (by decide +kernel)) ?_
  refine fmS (snd_retI hM (by decide +kernel)) ?_
  exact fmE
theorem iX10_setInitial {d mc ms n : Nat} {av : List Value} {M : PM} {P : PO} (hw : wid av ≤ 4) (hb : ∀ J : KT, (∀ (k : Nat) (stops : Nat → Bool) (pc : Nat) (lv : LV) (st : List Value) (nn : NN) (M : PM), lk (tX10_setInitial d mc ms P) pc (wpN (tX10_setInitial d mc ms P) stops k J) lv st nn M → J pc lv st nn M) → J 0 (entA 0 av) [] (n, 0, 0) M) : CallOK (d + 1) mc ms yX10_setInitial (Cond.code yX10_setInitial cX10_setInitial 4 (some .int)) av n M P := call_intro (own := RX10) (by decide) rfl hw (fun _ _ _ _ _ _ _ _ _ _ _ _ _ hM => sX10_setInitial hM) hb
def tX10_part (d mc ms : Nat) (P : PO) : List (Nat × OP) := [(0, oAld 0 1), (1, oGr 10 20 4), (4, oPush (.int 200) 7), (7, oIld 1 8), (8, oI2 (fun x y => x * y) 9), (9, oIld 2 10), (10, oI2 (fun x y => x + y) 11), (11, oAi 100 12), (12, oRetI mc ms P)]
set_option maxRecDepth 20000 in
theorem sX10_part {p : Program} {l : Launch} {e : Env} {s : State} {m : MethodId} {args : Array Value} {below : List Frame} {meth : Method} {c : Code} {D : va_G} {cA : Nat → ClassId} {ad0 : Nat → Nat} {n0 sz d mc ms : Nat} {P : PO} (hM : FM p l s m args meth c D cA 3 ad0 n0 sz cX10_part RX10 (some .int) [] yX10_part.name) : ∀ q ∈ tX10_part d mc ms P, Snd (jM p l e s m args below meth c D cA 3 ad0 n0 sz (d + 1) mc ms P) q.1 q.2 := by
  have hF := hM.1
  have hts := hF.2.2.2.2.1
  unfold tX10_part
  refine fmS (snd_aloadn hF (k := 0) rfl (by decide +kernel)) ?_
  refine fmS (snd_getr hF okX10 (k := 20) (by decide) qw1124 rfl rfl (by decide +kernel)) ?_
  refine fmS (snd_sipush hF (n := 200) (by decide +kernel) (by decide +kernel)) ?_
  refine fmS (snd_iloadn hF (k := 1) rfl (by decide +kernel)) ?_
  refine fmS (snd_imul hF (by decide +kernel)) ?_
  refine fmS (snd_iloadn hF (k := 2) rfl (by decide +kernel)) ?_
  refine fmS (snd_iadd hF (by decide +kernel)) ?_
  refine fmS (snd_iaload hF (by decide +kernel)) ?_
  refine fmS (snd_retI hM (by decide +kernel)) ?_
  exact fmE
theorem iX10_part {d mc ms n : Nat} {av : List Value} {M : PM} {P : PO} (hw : wid av ≤ 3) (hb : ∀ J : KT, (∀ (k : Nat) (stops : Nat → Bool) (pc : Nat) (lv : LV) (st : List Value) (nn : NN) (M : PM), lk (tX10_part d mc ms P) pc (wpN (tX10_part d mc ms P) stops k J) lv st nn M → J pc lv st nn M) → J 0 (entA 0 av) [] (n, 0, 0) M) : CallOK (d + 1) mc ms yX10_part (Cond.code yX10_part cX10_part 3 (some .int)) av n M P := call_intro (own := RX10) (by decide) rfl hw (fun _ _ _ _ _ _ _ _ _ _ _ _ _ hM => sX10_part hM) hb
def tX10_behind (d mc ms : Nat) (P : PO) : List (Nat × OP) := [(0, oPush (.int 1) 1), (1, oIst 3 2), (2, oIld 2 3), (3, oIst 4 5), (5, oIld 3 6), (6, oIf (fun x => x ≤ 0) 30 9), (9, oIld 3 10), (10, oAld 0 11), (11, oIld 1 12), (12, oIld 4 14), (14, oInc 4 1 17), (17, oCallV d mc ms P 0 0 yX10_part (Cond.code yX10_part cX10_part 3 (some .int)) 2 10 20), (20, oCallS d mc ms P 0 0 yX10_operands (Cond.code yX10_operands cX10_operands 1 (some .int)) 1 23), (23, oPush (.int 1) 24), (24, oI2 (fun x y => x - y) 25), (25, oI2 (fun x y => x + y) 26), (26, oIst 3 27), (27, oGoto 5), (30, oIld 4 32), (32, oRetI mc ms P)]
set_option maxRecDepth 20000 in
theorem sX10_behind {p : Program} {l : Launch} {e : Env} {s : State} {m : MethodId} {args : Array Value} {below : List Frame} {meth : Method} {c : Code} {D : va_G} {cA : Nat → ClassId} {ad0 : Nat → Nat} {n0 sz d mc ms : Nat} {P : PO} (hM : FM p l s m args meth c D cA 5 ad0 n0 sz cX10_behind RX10 (some .int) [] yX10_behind.name) : ∀ q ∈ tX10_behind d mc ms P, Snd (jM p l e s m args below meth c D cA 5 ad0 n0 sz (d + 1) mc ms P) q.1 q.2 := by
  have hF := hM.1
  have hts := hF.2.2.2.2.1
  unfold tX10_behind
  refine fmS (snd_iconst hF (n := 1) rfl (by decide +kernel)) ?_
  refine fmS (snd_istoren hF (k := 3) rfl (by decide) (by decide +kernel)) ?_
  refine fmS (snd_iloadn hF (k := 2) rfl (by decide +kernel)) ?_
  refine fmS (snd_istore hF (by decide) (by decide +kernel)) ?_
  refine fmS (snd_iloadn hF (k := 3) rfl (by decide +kernel)) ?_
  refine fmS (snd_if_le hF (off := 24) (by decide) (by decide +kernel)) ?_
  refine fmS (snd_iloadn hF (k := 3) rfl (by decide +kernel)) ?_
  refine fmS (snd_aloadn hF (k := 0) rfl (by decide +kernel)) ?_
  refine fmS (snd_iloadn hF (k := 1) rfl (by decide +kernel)) ?_
  refine fmS (snd_iload hF (by decide +kernel)) ?_
  refine fmS (snd_iinc hF (n := 1) (by decide +kernel) (by decide) (by decide +kernel)) ?_
  refine fmS (snd_callV hM k_X10_part okX10 qw1352 qw1354 (hts _ qw55) (by decide +kernel)) ?_
  refine fmS (snd_callS hM k_X10_operands qw1281 qw1282 (by decide +kernel)) ?_
  refine fmS (snd_iconst hF (n := 1) rfl (by decide +kernel)) ?_
  refine fmS (snd_isub hF (by decide +kernel)) ?_
  refine fmS (snd_iadd hF (by decide +kernel)) ?_
  refine fmS (snd_istoren hF (k := 3) rfl (by decide) (by decide +kernel)) ?_
  refine fmS (snd_goto hF (off := (-22)) (by decide) (by decide +kernel)) ?_
  refine fmS (snd_iload hF (by decide +kernel)) ?_
  refine fmS (snd_retI hM (by decide +kernel)) ?_
  exact fmE
theorem iX10_behind {d mc ms n : Nat} {av : List Value} {M : PM} {P : PO} (hw : wid av ≤ 5) (hb : ∀ J : KT, (∀ (k : Nat) (stops : Nat → Bool) (pc : Nat) (lv : LV) (st : List Value) (nn : NN) (M : PM), lk (tX10_behind d mc ms P) pc (wpN (tX10_behind d mc ms P) stops k J) lv st nn M → J pc lv st nn M) → J 0 (entA 0 av) [] (n, 0, 0) M) : CallOK (d + 1) mc ms yX10_behind (Cond.code yX10_behind cX10_behind 5 (some .int)) av n M P := call_intro (own := RX10) (by decide) rfl hw (fun _ _ _ _ _ _ _ _ _ _ _ _ _ hM => sX10_behind hM) hb
def tX10_has (d mc ms : Nat) (P : PO) : List (Nat × OP) := [(0, oIld 2 1), (1, oIst 5 3), (3, oIld 5 5), (5, oIld 3 6), (6, oIc (fun x y => y ≤ x) 32 9), (9, oAld 0 10), (10, oIld 1 11), (11, oIld 5 13), (13, oCallV d mc ms P 0 0 yX10_part (Cond.code yX10_part cX10_part 3 (some .int)) 2 10 16), (16, oPush (.int 100) 18), (18, oIld 4 20), (20, oI2 (fun x y => x + y) 21), (21, oIc (fun x y => x = y) 24 26), (24, oPush (.int 1) 25), (25, oRetZ mc ms P), (26, oInc 5 1 29), (29, oGoto 3), (32, oPush (.int 0) 33), (33, oRetZ mc ms P)]
set_option maxRecDepth 20000 in
theorem sX10_has {p : Program} {l : Launch} {e : Env} {s : State} {m : MethodId} {args : Array Value} {below : List Frame} {meth : Method} {c : Code} {D : va_G} {cA : Nat → ClassId} {ad0 : Nat → Nat} {n0 sz d mc ms : Nat} {P : PO} (hM : FM p l s m args meth c D cA 6 ad0 n0 sz cX10_has RX10 (some .boolean) [] yX10_has.name) : ∀ q ∈ tX10_has d mc ms P, Snd (jM p l e s m args below meth c D cA 6 ad0 n0 sz (d + 1) mc ms P) q.1 q.2 := by
  have hF := hM.1
  have hts := hF.2.2.2.2.1
  unfold tX10_has
  refine fmS (snd_iloadn hF (k := 2) rfl (by decide +kernel)) ?_
  refine fmS (snd_istore hF (by decide) (by decide +kernel)) ?_
  refine fmS (snd_iload hF (by decide +kernel)) ?_
  refine fmS (snd_iloadn hF (k := 3) rfl (by decide +kernel)) ?_
  refine fmS (snd_icmp_ge hF (off := 26) (by decide) (by decide +kernel)) ?_
  refine fmS (snd_aloadn hF (k := 0) rfl (by decide +kernel)) ?_
  refine fmS (snd_iloadn hF (k := 1) rfl (by decide +kernel)) ?_
  refine fmS (snd_iload hF (by decide +kernel)) ?_
  refine fmS (snd_callV hM k_X10_part okX10 qw1352 qw1354 (hts _ qw55) (by decide +kernel)) ?_
  refine fmS (snd_bipush hF (n := 100) (by decide +kernel) (by decide +kernel)) ?_
  refine fmS (snd_iload hF (by decide +kernel)) ?_
  refine fmS (snd_iadd hF (by decide +kernel)) ?_
  refine fmS (snd_icmp_ne hF (off := 5) (by decide) (by decide +kernel)) ?_
  refine fmS (snd_iconst hF (n := 1) rfl (by decide +kernel)) ?_
  refine fmS (snd_retZ hM (by decide +kernel)) ?_
  refine fmS (snd_iinc hF (n := 1) (by decide +kernel) (by decide) (by decide +kernel)) ?_
  refine fmS (snd_goto hF (off := (-26)) (by decide) (by decide +kernel)) ?_
  refine fmS (snd_iconst hF (n := 0) rfl (by decide +kernel)) ?_
  refine fmS (snd_retZ hM (by decide +kernel)) ?_
  exact fmE
theorem iX10_has {d mc ms n : Nat} {av : List Value} {M : PM} {P : PO} (hw : wid av ≤ 6) (hb : ∀ J : KT, (∀ (k : Nat) (stops : Nat → Bool) (pc : Nat) (lv : LV) (st : List Value) (nn : NN) (M : PM), lk (tX10_has d mc ms P) pc (wpN (tX10_has d mc ms P) stops k J) lv st nn M → J pc lv st nn M) → J 0 (entA 0 av) [] (n, 0, 0) M) : CallOK (d + 1) mc ms yX10_has (Cond.code yX10_has cX10_has 6 (some .boolean)) av n M P := call_intro (own := RX10) (by decide) rfl hw (fun _ _ _ _ _ _ _ _ _ _ _ _ _ hM => sX10_has hM) hb
def tX10_occurs (d mc ms : Nat) (P : PO) : List (Nat × OP) := [(0, oAld 0 1), (1, oIld 1 2), (2, oPush (.int 0) 3), (3, oAld 0 4), (4, oGr 10 21 7), (7, oIld 1 8), (8, oAi 100 9), (9, oIld 2 10), (10, oCallV d mc ms P 0 0 yX10_has (Cond.code yX10_has cX10_has 6 (some .boolean)) 4 10 13), (13, oRetZ mc ms P)]
set_option maxRecDepth 20000 in
theorem sX10_occurs {p : Program} {l : Launch} {e : Env} {s : State} {m : MethodId} {args : Array Value} {below : List Frame} {meth : Method} {c : Code} {D : va_G} {cA : Nat → ClassId} {ad0 : Nat → Nat} {n0 sz d mc ms : Nat} {P : PO} (hM : FM p l s m args meth c D cA 3 ad0 n0 sz cX10_occurs RX10 (some .boolean) [] yX10_occurs.name) : ∀ q ∈ tX10_occurs d mc ms P, Snd (jM p l e s m args below meth c D cA 3 ad0 n0 sz (d + 1) mc ms P) q.1 q.2 := by
  have hF := hM.1
  have hts := hF.2.2.2.2.1
  unfold tX10_occurs
  refine fmS (snd_aloadn hF (k := 0) rfl (by decide +kernel)) ?_
  refine fmS (snd_iloadn hF (k := 1) rfl (by decide +kernel)) ?_
  refine fmS (snd_iconst hF (n := 0) rfl (by decide +kernel)) ?_
  refine fmS (snd_aloadn hF (k := 0) rfl (by decide +kernel)) ?_
  refine fmS (snd_getr hF okX10 (k := 21) (by decide) qw1125 rfl rfl (by decide +kernel)) ?_
  refine fmS (snd_iloadn hF (k := 1) rfl (by decide +kernel)) ?_
  refine fmS (snd_iaload hF (by decide +kernel)) ?_
  refine fmS (snd_iloadn hF (k := 2) rfl (by decide +kernel)) ?_
  refine fmS (snd_callV hM k_X10_has okX10 qw1348 qw1350 (hts _ qw54) (by decide +kernel)) ?_
  refine fmS (snd_retZ hM (by decide +kernel)) ?_
  exact fmE
theorem iX10_occurs {d mc ms n : Nat} {av : List Value} {M : PM} {P : PO} (hw : wid av ≤ 3) (hb : ∀ J : KT, (∀ (k : Nat) (stops : Nat → Bool) (pc : Nat) (lv : LV) (st : List Value) (nn : NN) (M : PM), lk (tX10_occurs d mc ms P) pc (wpN (tX10_occurs d mc ms P) stops k J) lv st nn M → J pc lv st nn M) → J 0 (entA 0 av) [] (n, 0, 0) M) : CallOK (d + 1) mc ms yX10_occurs (Cond.code yX10_occurs cX10_occurs 3 (some .boolean)) av n M P := call_intro (own := RX10) (by decide) rfl hw (fun _ _ _ _ _ _ _ _ _ _ _ _ _ hM => sX10_occurs hM) hb
def tX10_isFree (d mc ms : Nat) (P : PO) : List (Nat × OP) := [(0, oAld 0 1), (1, oIld 1 2), (2, oIld 2 3), (3, oAld 0 4), (4, oIld 1 5), (5, oIld 2 6), (6, oCallV d mc ms P 0 0 yX10_behind (Cond.code yX10_behind cX10_behind 5 (some .int)) 2 10 9), (9, oIld 1 10), (10, oCallV d mc ms P 0 0 yX10_has (Cond.code yX10_has cX10_has 6 (some .boolean)) 4 10 13), (13, oIf (fun x => x = 0) 16 20), (16, oPush (.int 1) 17), (17, oGoto 21), (20, oPush (.int 0) 21), (21, oRetZ mc ms P)]
set_option maxRecDepth 20000 in
theorem sX10_isFree {p : Program} {l : Launch} {e : Env} {s : State} {m : MethodId} {args : Array Value} {below : List Frame} {meth : Method} {c : Code} {D : va_G} {cA : Nat → ClassId} {ad0 : Nat → Nat} {n0 sz d mc ms : Nat} {P : PO} (hM : FM p l s m args meth c D cA 3 ad0 n0 sz cX10_isFree RX10 (some .boolean) [] yX10_isFree.name) : ∀ q ∈ tX10_isFree d mc ms P, Snd (jM p l e s m args below meth c D cA 3 ad0 n0 sz (d + 1) mc ms P) q.1 q.2 := by
  have hF := hM.1
  have hts := hF.2.2.2.2.1
  unfold tX10_isFree
  refine fmS (snd_aloadn hF (k := 0) rfl (by decide +kernel)) ?_
  refine fmS (snd_iloadn hF (k := 1) rfl (by decide +kernel)) ?_
  refine fmS (snd_iloadn hF (k := 2) rfl (by decide +kernel)) ?_
  refine fmS (snd_aloadn hF (k := 0) rfl (by decide +kernel)) ?_
  refine fmS (snd_iloadn hF (k := 1) rfl (by decide +kernel)) ?_
  refine fmS (snd_iloadn hF (k := 2) rfl (by decide +kernel)) ?_
  refine fmS (snd_callV hM k_X10_behind okX10 qw1364 qw1366 (hts _ qw58) (by decide +kernel)) ?_
  refine fmS (snd_iloadn hF (k := 1) rfl (by decide +kernel)) ?_
  refine fmS (snd_callV hM k_X10_has okX10 qw1348 qw1350 (hts _ qw54) (by decide +kernel)) ?_
  refine fmS (snd_if_ne hF (off := 7) (by decide) (by decide +kernel)) ?_
  refine fmS (snd_iconst hF (n := 1) rfl (by decide +kernel)) ?_
  refine fmS (snd_goto hF (off := 4) (by decide) (by decide +kernel)) ?_
  refine fmS (snd_iconst hF (n := 0) rfl (by decide +kernel)) ?_
  refine fmS (snd_retZ hM (by decide +kernel)) ?_
  exact fmE
theorem iX10_isFree {d mc ms n : Nat} {av : List Value} {M : PM} {P : PO} (hw : wid av ≤ 3) (hb : ∀ J : KT, (∀ (k : Nat) (stops : Nat → Bool) (pc : Nat) (lv : LV) (st : List Value) (nn : NN) (M : PM), lk (tX10_isFree d mc ms P) pc (wpN (tX10_isFree d mc ms P) stops k J) lv st nn M → J pc lv st nn M) → J 0 (entA 0 av) [] (n, 0, 0) M) : CallOK (d + 1) mc ms yX10_isFree (Cond.code yX10_isFree cX10_isFree 3 (some .boolean)) av n M P := call_intro (own := RX10) (by decide) rfl hw (fun _ _ _ _ _ _ _ _ _ _ _ _ _ hM => sX10_isFree hM) hb
def tX10_chain (d mc ms : Nat) (P : PO) : List (Nat × OP) := [(0, oAld 0 1), (1, oIld 1 2), (2, oIld 2 3), (3, oCallV d mc ms P 0 0 yX10_part (Cond.code yX10_part cX10_part 3 (some .int)) 2 10 6), (6, oIst 4 8), (8, oIld 4 10), (10, oPush (.int 100) 12), (12, oIld 1 13), (13, oI2 (fun x y => x + y) 14), (14, oIc (fun x y => x = y) 17 19), (17, oPush (.int 0) 18), (18, oRetI mc ms P), (19, oIld 4 21), (21, oPush (.int 300) 24), (24, oIc (fun x y => y ≤ x) 29 27), (27, oPush (.int (-1)) 28), (28, oRetI mc ms P), (29, oIld 2 30), (30, oPush (.int 1) 31), (31, oI2 (fun x y => x + y) 32), (32, oIst 5 34), (34, oAld 0 35), (35, oIld 1 36), (36, oIld 5 38), (38, oCallV d mc ms P 0 0 yX10_behind (Cond.code yX10_behind cX10_behind 5 (some .int)) 2 10 41), (41, oIst 6 43), (43, oIld 4 45), (45, oPush (.int 308) 48), (48, oIc (fun x y => x = y) 51 110), (51, oAld 0 52), (52, oIld 1 53), (53, oIld 6 55), (55, oCallV d mc ms P 0 0 yX10_behind (Cond.code yX10_behind cX10_behind 5 (some .int)) 2 10 58), (58, oIst 7 60), (60, oAld 0 61), (61, oIld 1 62), (62, oIld 6 64), (64, oIld 3 65), (65, oCallV d mc ms P 0 0 yX10_chain (Cond.code yX10_chain cX10_chain 10 (some .int)) 3 10 68), (68, oIst 8 70), (70, oAld 0 71), (71, oIld 1 72), (72, oIld 7 74), (74, oIld 3 75), (75, oCallV d mc ms P 0 0 yX10_chain (Cond.code yX10_chain cX10_chain 10 (some .int)) 3 10 78), (78, oIst 9 80), (80, oAld 0 81), (81, oIld 1 82), (82, oIld 5 84), (84, oCallV d mc ms P 0 0 yX10_isFree (Cond.code yX10_isFree cX10_isFree 3 (some .boolean)) 2 10 87), (87, oIf (fun x => x = 0) 108 90), (90, oIld 8 92), (92, oIf (fun x => x < 0) 108 95), (95, oIld 9 97), (97, oIf (fun x => x < 0) 108 100), (100, oIld 8 102), (102, oIld 9 104), (104, oI2 (fun x y => x + y) 105), (105, oGoto 109), (108, oPush (.int (-1)) 109), (109, oRetI mc ms P), (110, oPush (.int (-1)) 111), (111, oIst 7 113), (113, oIld 4 115), (115, oPush (.int 300) 118), (118, oIld 3 119), (119, oI2 (fun x y => x + y) 120), (120, oIc (fun x y => x = y) 135 123), (123, oIld 4 125), (125, oPush (.int 307) 128), (128, oIc (fun x y => x = y) 131 155), (131, oIld 3 132), (132, oIf (fun x => x = 0) 135 155), (135, oAld 0 136), (136, oIld 1 137), (137, oIld 6 139), (139, oCallV d mc ms P 0 0 yX10_isFree (Cond.code yX10_isFree cX10_isFree 3 (some .boolean)) 2 10 142), (142, oIf (fun x => x = 0) 155 145), (145, oAld 0 146), (146, oIld 1 147), (147, oIld 5 149), (149, oIld 3 150), (150, oCallV d mc ms P 0 0 yX10_chain (Cond.code yX10_chain cX10_chain 10 (some .int)) 3 10 153), (153, oIst 7 155), (155, oIld 7 157), (157, oIf (fun x => 0 ≤ x) 190 160), (160, oIld 4 162), (162, oPush (.int 300) 165), (165, oIld 3 166), (166, oI2 (fun x y => x + y) 167), (167, oIc (fun x y => x = y) 170 190), (170, oAld 0 171), (171, oIld 1 172), (172, oIld 5 174), (174, oCallV d mc ms P 0 0 yX10_isFree (Cond.code yX10_isFree cX10_isFree 3 (some .boolean)) 2 10 177), (177, oIf (fun x => x = 0) 190 180), (180, oAld 0 181), (181, oIld 1 182), (182, oIld 6 184), (184, oIld 3 185), (185, oCallV d mc ms P 0 0 yX10_chain (Cond.code yX10_chain cX10_chain 10 (some .int)) 3 10 188), (188, oIst 7 190), (190, oIld 7 192), (192, oIf (fun x => 0 ≤ x) 199 195), (195, oPush (.int (-1)) 196), (196, oGoto 203), (199, oIld 7 201), (201, oPush (.int 1) 202), (202, oI2 (fun x y => x + y) 203), (203, oRetI mc ms P)]
set_option maxRecDepth 20000 in
theorem sX10_chain {p : Program} {l : Launch} {e : Env} {s : State} {m : MethodId} {args : Array Value} {below : List Frame} {meth : Method} {c : Code} {D : va_G} {cA : Nat → ClassId} {ad0 : Nat → Nat} {n0 sz d mc ms : Nat} {P : PO} (hM : FM p l s m args meth c D cA 10 ad0 n0 sz cX10_chain RX10 (some .int) [] yX10_chain.name) : ∀ q ∈ tX10_chain d mc ms P, Snd (jM p l e s m args below meth c D cA 10 ad0 n0 sz (d + 1) mc ms P) q.1 q.2 := by
  have hF := hM.1
  have hts := hF.2.2.2.2.1
  unfold tX10_chain
  refine fmS (snd_aloadn hF (k := 0) rfl (by decide +kernel)) ?_
  refine fmS (snd_iloadn hF (k := 1) rfl (by decide +kernel)) ?_
  refine fmS (snd_iloadn hF (k := 2) rfl (by decide +kernel)) ?_
  refine fmS (snd_callV hM k_X10_part okX10 qw1352 qw1354 (hts _ qw55) (by decide +kernel)) ?_
  refine fmS (snd_istore hF (by decide) (by decide +kernel)) ?_
  refine fmS (snd_iload hF (by decide +kernel)) ?_
  refine fmS (snd_bipush hF (n := 100) (by decide +kernel) (by decide +kernel)) ?_
  refine fmS (snd_iloadn hF (k := 1) rfl (by decide +kernel)) ?_
  refine fmS (snd_iadd hF (by decide +kernel)) ?_
  refine fmS (snd_icmp_ne hF (off := 5) (by decide) (by decide +kernel)) ?_
  refine fmS (snd_iconst hF (n := 0) rfl (by decide +kernel)) ?_
  refine fmS (snd_retI hM (by decide +kernel)) ?_
  refine fmS (snd_iload hF (by decide +kernel)) ?_
  refine fmS (snd_sipush hF (n := 300) (by decide +kernel) (by decide +kernel)) ?_
  refine fmS (snd_icmp_ge hF (off := 5) (by decide) (by decide +kernel)) ?_
  refine fmS (snd_iconst hF (n := (-1)) rfl (by decide +kernel)) ?_
  refine fmS (snd_retI hM (by decide +kernel)) ?_
  refine fmS (snd_iloadn hF (k := 2) rfl (by decide +kernel)) ?_
  refine fmS (snd_iconst hF (n := 1) rfl (by decide +kernel)) ?_
  refine fmS (snd_iadd hF (by decide +kernel)) ?_
  refine fmS (snd_istore hF (by decide) (by decide +kernel)) ?_
  refine fmS (snd_aloadn hF (k := 0) rfl (by decide +kernel)) ?_
  refine fmS (snd_iloadn hF (k := 1) rfl (by decide +kernel)) ?_
  refine fmS (snd_iload hF (by decide +kernel)) ?_
  refine fmS (snd_callV hM k_X10_behind okX10 qw1364 qw1366 (hts _ qw58) (by decide +kernel)) ?_
  refine fmS (snd_istore hF (by decide) (by decide +kernel)) ?_
  refine fmS (snd_iload hF (by decide +kernel)) ?_
  refine fmS (snd_sipush hF (n := 308) (by decide +kernel) (by decide +kernel)) ?_
  refine fmS (snd_icmp_ne hF (off := 62) (by decide) (by decide +kernel)) ?_
  refine fmS (snd_aloadn hF (k := 0) rfl (by decide +kernel)) ?_
  refine fmS (snd_iloadn hF (k := 1) rfl (by decide +kernel)) ?_
  refine fmS (snd_iload hF (by decide +kernel)) ?_
  refine fmS (snd_callV hM k_X10_behind okX10 qw1364 qw1366 (hts _ qw58) (by decide +kernel)) ?_
  refine fmS (snd_istore hF (by decide) (by decide +kernel)) ?_
  refine fmS (snd_aloadn hF (k := 0) rfl (by decide +kernel)) ?_
  refine fmS (snd_iloadn hF (k := 1) rfl (by decide +kernel)) ?_
  refine fmS (snd_iload hF (by decide +kernel)) ?_
  refine fmS (snd_iloadn hF (k := 3) rfl (by decide +kernel)) ?_
  refine fmS (snd_callV hM k_X10_chain okX10 qw1360 qw1362 (hts _ qw57) (by decide +kernel)) ?_
  refine fmS (snd_istore hF (by decide) (by decide +kernel)) ?_
  refine fmS (snd_aloadn hF (k := 0) rfl (by decide +kernel)) ?_
  refine fmS (snd_iloadn hF (k := 1) rfl (by decide +kernel)) ?_
  refine fmS (snd_iload hF (by decide +kernel)) ?_
  refine fmS (snd_iloadn hF (k := 3) rfl (by decide +kernel)) ?_
  refine fmS (snd_callV hM k_X10_chain okX10 qw1360 qw1362 (hts _ qw57) (by decide +kernel)) ?_
  refine fmS (snd_istore hF (by decide) (by decide +kernel)) ?_
  refine fmS (snd_aloadn hF (k := 0) rfl (by decide +kernel)) ?_
  refine fmS (snd_iloadn hF (k := 1) rfl (by decide +kernel)) ?_
  refine fmS (snd_iload hF (by decide +kernel)) ?_
  refine fmS (snd_callV hM k_X10_isFree okX10 qw1368 qw1370 (hts _ qw59) (by decide +kernel)) ?_
  refine fmS (snd_if_eq hF (off := 21) (by decide) (by decide +kernel)) ?_
  refine fmS (snd_iload hF (by decide +kernel)) ?_
  refine fmS (snd_if_lt hF (off := 16) (by decide) (by decide +kernel)) ?_
  refine fmS (snd_iload hF (by decide +kernel)) ?_
  refine fmS (snd_if_lt hF (off := 11) (by decide) (by decide +kernel)) ?_
  refine fmS (snd_iload hF (by decide +kernel)) ?_
  refine fmS (snd_iload hF (by decide +kernel)) ?_
  refine fmS (snd_iadd hF (by decide +kernel)) ?_
  refine fmS (snd_goto hF (off := 4) (by decide) (by decide +kernel)) ?_
  refine fmS (snd_iconst hF (n := (-1)) rfl (by decide +kernel)) ?_
  refine fmS (snd_retI hM (by decide +kernel)) ?_
  refine fmS (snd_iconst hF (n := (-1)) rfl (by decide +kernel)) ?_
  refine fmS (snd_istore hF (by decide) (by decide +kernel)) ?_
  refine fmS (snd_iload hF (by decide +kernel)) ?_
  refine fmS (snd_sipush hF (n := 300) (by decide +kernel) (by decide +kernel)) ?_
  refine fmS (snd_iloadn hF (k := 3) rfl (by decide +kernel)) ?_
  refine fmS (snd_iadd hF (by decide +kernel)) ?_
  refine fmS (snd_icmp_eq hF (off := 15) (by decide) (by decide +kernel)) ?_
  refine fmS (snd_iload hF (by decide +kernel)) ?_
  refine fmS (snd_sipush hF (n := 307) (by decide +kernel) (by decide +kernel)) ?_
  refine fmS (snd_icmp_ne hF (off := 27) (by decide) (by decide +kernel)) ?_
  refine fmS (snd_iloadn hF (k := 3) rfl (by decide +kernel)) ?_
  refine fmS (snd_if_ne hF (off := 23) (by decide) (by decide +kernel)) ?_
  refine fmS (snd_aloadn hF (k := 0) rfl (by decide +kernel)) ?_
  refine fmS (snd_iloadn hF (k := 1) rfl (by decide +kernel)) ?_
  refine fmS (snd_iload hF (by decide +kernel)) ?_
  refine fmS (snd_callV hM k_X10_isFree okX10 qw1368 qw1370 (hts _ qw59) (by decide +kernel)) ?_
  refine fmS (snd_if_eq hF (off := 13) (by decide) (by decide +kernel)) ?_
  refine fmS (snd_aloadn hF (k := 0) rfl (by decide +kernel)) ?_
  refine fmS (snd_iloadn hF (k := 1) rfl (by decide +kernel)) ?_
  refine fmS (snd_iload hF (by decide +kernel)) ?_
  refine fmS (snd_iloadn hF (k := 3) rfl (by decide +kernel)) ?_
  refine fmS (snd_callV hM k_X10_chain okX10 qw1360 qw1362 (hts _ qw57) (by decide +kernel)) ?_
  refine fmS (snd_istore hF (by decide) (by decide +kernel)) ?_
  refine fmS (snd_iload hF (by decide +kernel)) ?_
  refine fmS (snd_if_ge hF (off := 33) (by decide) (by decide +kernel)) ?_
  refine fmS (snd_iload hF (by decide +kernel)) ?_
  refine fmS (snd_sipush hF (n := 300) (by decide +kernel) (by decide +kernel)) ?_
  refine fmS (snd_iloadn hF (k := 3) rfl (by decide +kernel)) ?_
  refine fmS (snd_iadd hF (by decide +kernel)) ?_
  refine fmS (snd_icmp_ne hF (off := 23) (by decide) (by decide +kernel)) ?_
  refine fmS (snd_aloadn hF (k := 0) rfl (by decide +kernel)) ?_
  refine fmS (snd_iloadn hF (k := 1) rfl (by decide +kernel)) ?_
  refine fmS (snd_iload hF (by decide +kernel)) ?_
  refine fmS (snd_callV hM k_X10_isFree okX10 qw1368 qw1370 (hts _ qw59) (by decide +kernel)) ?_
  refine fmS (snd_if_eq hF (off := 13) (by decide) (by decide +kernel)) ?_
  refine fmS (snd_aloadn hF (k := 0) rfl (by decide +kernel)) ?_
  refine fmS (snd_iloadn hF (k := 1) rfl (by decide +kernel)) ?_
  refine fmS (snd_iload hF (by decide +kernel)) ?_
  refine fmS (snd_iloadn hF (k := 3) rfl (by decide +kernel)) ?_
  refine fmS (snd_callV hM k_X10_chain okX10 qw1360 qw1362 (hts _ qw57) (by decide +kernel)) ?_
  refine fmS (snd_istore hF (by decide) (by decide +kernel)) ?_
  refine fmS (snd_iload hF (by decide +kernel)) ?_
  refine fmS (snd_if_ge hF (off := 7) (by decide) (by decide +kernel)) ?_
  refine fmS (snd_iconst hF (n := (-1)) rfl (by decide +kernel)) ?_
  refine fmS (snd_goto hF (off := 7) (by decide) (by decide +kernel)) ?_
  refine fmS (snd_iload hF (by decide +kernel)) ?_
  refine fmS (snd_iconst hF (n := 1) rfl (by decide +kernel)) ?_
  refine fmS (snd_iadd hF (by decide +kernel)) ?_
  refine fmS (snd_retI hM (by decide +kernel)) ?_
  exact fmE
theorem iX10_chain {d mc ms n : Nat} {av : List Value} {M : PM} {P : PO} (hw : wid av ≤ 10) (hb : ∀ J : KT, (∀ (k : Nat) (stops : Nat → Bool) (pc : Nat) (lv : LV) (st : List Value) (nn : NN) (M : PM), lk (tX10_chain d mc ms P) pc (wpN (tX10_chain d mc ms P) stops k J) lv st nn M → J pc lv st nn M) → J 0 (entA 0 av) [] (n, 0, 0) M) : CallOK (d + 1) mc ms yX10_chain (Cond.code yX10_chain cX10_chain 10 (some .int)) av n M P := call_intro (own := RX10) (by decide) rfl hw (fun _ _ _ _ _ _ _ _ _ _ _ _ _ hM => sX10_chain hM) hb
def tX10_operatorOf (d mc ms : Nat) (P : PO) : List (Nat × OP) := [(0, oPush (.int 0) 1), (1, oIst 2 2), (2, oIld 2 3), (3, oPush (.int 7) 5), (5, oIc (fun x y => y ≤ x) 26 8), (8, oAld 0 9), (9, oIld 1 10), (10, oPush (.int 0) 11), (11, oIld 2 12), (12, oCallV d mc ms P 0 0 yX10_chain (Cond.code yX10_chain cX10_chain 10 (some .int)) 3 10 15), (15, oIf (fun x => x < 0) 20 18), (18, oIld 2 19), (19, oRetI mc ms P), (20, oInc 2 1 23), (23, oGoto 2), (26, oPush (.int (-1)) 27), (27, oRetI mc ms P)]
set_option maxRecDepth 20000 in
theorem sX10_operatorOf {p : Program} {l : Launch} {e : Env} {s : State} {m : MethodId} {args : Array Value} {below : List Frame} {meth : Method} {c : Code} {D : va_G} {cA : Nat → ClassId} {ad0 : Nat → Nat} {n0 sz d mc ms : Nat} {P : PO} (hM : FM p l s m args meth c D cA 3 ad0 n0 sz cX10_operatorOf RX10 (some .int) [] yX10_operatorOf.name) : ∀ q ∈ tX10_operatorOf d mc ms P, Snd (jM p l e s m args below meth c D cA 3 ad0 n0 sz (d + 1) mc ms P) q.1 q.2 := by
  have hF := hM.1
  have hts := hF.2.2.2.2.1
  unfold tX10_operatorOf
  refine fmS (snd_iconst hF (n := 0) rfl (by decide +kernel)) ?_
  refine fmS (snd_istoren hF (k := 2) rfl (by decide) (by decide +kernel)) ?_
  refine fmS (snd_iloadn hF (k := 2) rfl (by decide +kernel)) ?_
  refine fmS (snd_bipush hF (n := 7) (by decide +kernel) (by decide +kernel)) ?_
  refine fmS (snd_icmp_ge hF (off := 21) (by decide) (by decide +kernel)) ?_
  refine fmS (snd_aloadn hF (k := 0) rfl (by decide +kernel)) ?_
  refine fmS (snd_iloadn hF (k := 1) rfl (by decide +kernel)) ?_
  refine fmS (snd_iconst hF (n := 0) rfl (by decide +kernel)) ?_
  refine fmS (snd_iloadn hF (k := 2) rfl (by decide +kernel)) ?_
  refine fmS (snd_callV hM k_X10_chain okX10 qw1360 qw1362 (hts _ qw57) (by decide +kernel)) ?_
  refine fmS (snd_if_lt hF (off := 5) (by decide) (by decide +kernel)) ?_
  refine fmS (snd_iloadn hF (k := 2) rfl (by decide +kernel)) ?_
  refine fmS (snd_retI hM (by decide +kernel)) ?_
  refine fmS (snd_iinc hF (n := 1) (by decide +kernel) (by decide) (by decide +kernel)) ?_
  refine fmS (snd_goto hF (off := (-21)) (by decide) (by decide +kernel)) ?_
  refine fmS (snd_iconst hF (n := (-1)) rfl (by decide +kernel)) ?_
  refine fmS (snd_retI hM (by decide +kernel)) ?_
  exact fmE
theorem iX10_operatorOf {d mc ms n : Nat} {av : List Value} {M : PM} {P : PO} (hw : wid av ≤ 3) (hb : ∀ J : KT, (∀ (k : Nat) (stops : Nat → Bool) (pc : Nat) (lv : LV) (st : List Value) (nn : NN) (M : PM), lk (tX10_operatorOf d mc ms P) pc (wpN (tX10_operatorOf d mc ms P) stops k J) lv st nn M → J pc lv st nn M) → J 0 (entA 0 av) [] (n, 0, 0) M) : CallOK (d + 1) mc ms yX10_operatorOf (Cond.code yX10_operatorOf cX10_operatorOf 3 (some .int)) av n M P := call_intro (own := RX10) (by decide) rfl hw (fun _ _ _ _ _ _ _ _ _ _ _ _ _ hM => sX10_operatorOf hM) hb
def tX10_isAssigned (d mc ms : Nat) (P : PO) : List (Nat × OP) := [(0, oPush (.int 0) 1), (1, oIst 2 2), (2, oIld 2 3), (3, oAld 0 4), (4, oGr 10 1 7), (7, oPush (.int 0) 8), (8, oAi 100 9), (9, oIc (fun x y => y ≤ x) 32 12), (12, oAld 0 13), (13, oGr 10 1 16), (16, oPush (.int 3) 17), (17, oIld 2 18), (18, oI2 (fun x y => x + y) 19), (19, oAi 100 20), (20, oIld 1 21), (21, oIc (fun x y => x = y) 24 26), (24, oPush (.int 1) 25), (25, oRetZ mc ms P), (26, oInc 2 1 29), (29, oGoto 2), (32, oPush (.int 0) 33), (33, oRetZ mc ms P)]
set_option maxRecDepth 20000 in
theorem sX10_isAssigned {p : Program} {l : Launch} {e : Env} {s : State} {m : MethodId} {args : Array Value} {below : List Frame} {meth : Method} {c : Code} {D : va_G} {cA : Nat → ClassId} {ad0 : Nat → Nat} {n0 sz d mc ms : Nat} {P : PO} (hM : FM p l s m args meth c D cA 3 ad0 n0 sz cX10_isAssigned RX10 (some .boolean) [] yX10_isAssigned.name) : ∀ q ∈ tX10_isAssigned d mc ms P, Snd (jM p l e s m args below meth c D cA 3 ad0 n0 sz (d + 1) mc ms P) q.1 q.2 := by
  have hF := hM.1
  have hts := hF.2.2.2.2.1
  unfold tX10_isAssigned
  refine fmS (snd_iconst hF (n := 0) rfl (by decide +kernel)) ?_
  refine fmS (snd_istoren hF (k := 2) rfl (by decide) (by decide +kernel)) ?_
  refine fmS (snd_iloadn hF (k := 2) rfl (by decide +kernel)) ?_
  refine fmS (snd_aloadn hF (k := 0) rfl (by decide +kernel)) ?_
  refine fmS (snd_getr hF okX10 (k := 1) (by decide) qw1105 rfl rfl (by decide +kernel)) ?_
  refine fmS (snd_iconst hF (n := 0) rfl (by decide +kernel)) ?_
  refine fmS (snd_iaload hF (by decide +kernel)) ?_
  refine fmS (snd_icmp_ge hF (off := 23) (by decide) (by decide +kernel)) ?_
  refine fmS (snd_aloadn hF (k := 0) rfl (by decide +kernel)) ?_
  refine fmS (snd_getr hF okX10 (k := 1) (by decide) qw1105 rfl rfl (by decide +kernel)) ?_
  refine fmS (snd_iconst hF (n := 3) rfl (by decide +kernel)) ?_
  refine fmS (snd_iloadn hF (k := 2) rfl (by decide +kernel)) ?_
  refine fmS (snd_iadd hF (by decide +kernel)) ?_
  refine fmS (snd_iaload hF (by decide +kernel)) ?_
  refine fmS (snd_iloadn hF (k := 1) rfl (by decide +kernel)) ?_
  refine fmS (snd_icmp_ne hF (off := 5) (by decide) (by decide +kernel)) ?_
  refine fmS (snd_iconst hF (n := 1) rfl (by decide +kernel)) ?_
  refine fmS (snd_retZ hM (by decide +kernel)) ?_
  refine fmS (snd_iinc hF (n := 1) (by decide +kernel) (by decide) (by decide +kernel)) ?_
  refine fmS (snd_goto hF (off := (-27)) (by decide) (by decide +kernel)) ?_
  refine fmS (snd_iconst hF (n := 0) rfl (by decide +kernel)) ?_
  refine fmS (snd_retZ hM (by decide +kernel)) ?_
  exact fmE
theorem iX10_isAssigned {d mc ms n : Nat} {av : List Value} {M : PM} {P : PO} (hw : wid av ≤ 3) (hb : ∀ J : KT, (∀ (k : Nat) (stops : Nat → Bool) (pc : Nat) (lv : LV) (st : List Value) (nn : NN) (M : PM), lk (tX10_isAssigned d mc ms P) pc (wpN (tX10_isAssigned d mc ms P) stops k J) lv st nn M → J pc lv st nn M) → J 0 (entA 0 av) [] (n, 0, 0) M) : CallOK (d + 1) mc ms yX10_isAssigned (Cond.code yX10_isAssigned cX10_isAssigned 3 (some .boolean)) av n M P := call_intro (own := RX10) (by decide) rfl hw (fun _ _ _ _ _ _ _ _ _ _ _ _ _ hM => sX10_isAssigned hM) hb
def tX10_kinds (d mc ms : Nat) (P : PO) : List (Nat × OP) := [(0, oAld 0 1), (1, oIld 1 2), (2, oCallV d mc ms P 0 0 yX10_isAssigned (Cond.code yX10_isAssigned cX10_isAssigned 3 (some .boolean)) 1 10 5), (5, oIf (fun x => x = 0) 8 10), (8, oPush (.int 0) 9), (9, oRetI mc ms P), (10, oPush (.int 0) 11), (11, oIst 2 12), (12, oPush (.int 0) 13), (13, oIst 3 14), (14, oIld 3 15), (15, oPush (.int 8) 17), (17, oIc (fun x y => y ≤ x) 50 20), (20, oIld 3 21), (21, oIld 1 22), (22, oIc (fun x y => x = y) 44 25), (25, oAld 0 26), (26, oIld 3 27), (27, oCallV d mc ms P 0 0 yX10_isAssigned (Cond.code yX10_isAssigned cX10_isAssigned 3 (some .boolean)) 1 10 30), (30, oIf (fun x => x = 0) 44 33), (33, oAld 0 34), (34, oIld 3 35), (35, oIld 1 36), (36, oCallV d mc ms P 0 0 yX10_occurs (Cond.code yX10_occurs cX10_occurs 3 (some .boolean)) 2 10 39), (39, oIf (fun x => x = 0) 44 42), (42, oPush (.int 1) 43), (43, oIst 2 44), (44, oInc 3 1 47), (47, oGoto 14), (50, oIld 2 51), (51, oIf (fun x => x = 0) 54 65), (54, oAld 0 55), (55, oIld 1 56), (56, oIld 1 57), (57, oCallV d mc ms P 0 0 yX10_occurs (Cond.code yX10_occurs cX10_occurs 3 (some .boolean)) 2 10 60), (60, oIf (fun x => x = 0) 63 65), (63, oPush (.int 1) 64), (64, oRetI mc ms P), (65, oAld 0 66), (66, oIld 1 67), (67, oCallV d mc ms P 0 0 yX10_operatorOf (Cond.code yX10_operatorOf cX10_operatorOf 3 (some .int)) 1 10 70), (70, oIf (fun x => 0 ≤ x) 75 73), (73, oPush (.int 4) 74), (74, oRetI mc ms P), (75, oIld 2 76), (76, oIf (fun x => x = 0) 83 79), (79, oPush (.int 3) 80), (80, oGoto 84), (83, oPush (.int 2) 84), (84, oRetI mc ms P)]
set_option maxRecDepth 20000 in
theorem sX10_kinds {p : Program} {l : Launch} {e : Env} {s : State} {m : MethodId} {args : Array Value} {below : List Frame} {meth : Method} {c : Code} {D : va_G} {cA : Nat → ClassId} {ad0 : Nat → Nat} {n0 sz d mc ms : Nat} {P : PO} (hM : FM p l s m args meth c D cA 4 ad0 n0 sz cX10_kinds RX10 (some .int) [] yX10_kinds.name) : ∀ q ∈ tX10_kinds d mc ms P, Snd (jM p l e s m args below meth c D cA 4 ad0 n0 sz (d + 1) mc ms P) q.1 q.2 := by
  have hF := hM.1
  have hts := hF.2.2.2.2.1
  unfold tX10_kinds
  refine fmS (snd_aloadn hF (k := 0) rfl (by decide +kernel)) ?_
  refine fmS (snd_iloadn hF (k := 1) rfl (by decide +kernel)) ?_
  refine fmS (snd_callV hM k_X10_isAssigned okX10 qw1340 qw1342 (hts _ qw52) (by decide +kernel)) ?_
  refine fmS (snd_if_ne hF (off := 5) (by decide) (by decide +kernel)) ?_
  refine fmS (snd_iconst hF (n := 0) rfl (by decide +kernel)) ?_
  refine fmS (snd_retI hM (by decide +kernel)) ?_
  refine fmS (snd_iconst hF (n := 0) rfl (by decide +kernel)) ?_
  refine fmS (snd_istoren hF (k := 2) rfl (by decide) (by decide +kernel)) ?_
  refine fmS (snd_iconst hF (n := 0) rfl (by decide +kernel)) ?_
  refine fmS (snd_istoren hF (k := 3) rfl (by decide) (by decide +kernel)) ?_
  refine fmS (snd_iloadn hF (k := 3) rfl (by decide +kernel)) ?_
  refine fmS (snd_bipush hF (n := 8) (by decide +kernel) (by decide +kernel)) ?_
  refine fmS (snd_icmp_ge hF (off := 33) (by decide) (by decide +kernel)) ?_
  refine fmS (snd_iloadn hF (k := 3) rfl (by decide +kernel)) ?_
  refine fmS (snd_iloadn hF (k := 1) rfl (by decide +kernel)) ?_
  refine fmS (snd_icmp_eq hF (off := 22) (by decide) (by decide +kernel)) ?_
  refine fmS (snd_aloadn hF (k := 0) rfl (by decide +kernel)) ?_
  refine fmS (snd_iloadn hF (k := 3) rfl (by decide +kernel)) ?_
  refine fmS (snd_callV hM k_X10_isAssigned okX10 qw1340 qw1342 (hts _ qw52) (by decide +kernel)) ?_
  refine fmS (snd_if_eq hF (off := 14) (by decide) (by decide +kernel)) ?_
  refine fmS (snd_aloadn hF (k := 0) rfl (by decide +kernel)) ?_
  refine fmS (snd_iloadn hF (k := 3) rfl (by decide +kernel)) ?_
  refine fmS (snd_iloadn hF (k := 1) rfl (by decide +kernel)) ?_
  refine fmS (snd_callV hM k_X10_occurs okX10 qw1344 qw1346 (hts _ qw53) (by decide +kernel)) ?_
  refine fmS (snd_if_eq hF (off := 5) (by decide) (by decide +kernel)) ?_
  refine fmS (snd_iconst hF (n := 1) rfl (by decide +kernel)) ?_
  refine fmS (snd_istoren hF (k := 2) rfl (by decide) (by decide +kernel)) ?_
  refine fmS (snd_iinc hF (n := 1) (by decide +kernel) (by decide) (by decide +kernel)) ?_
  refine fmS (snd_goto hF (off := (-33)) (by decide) (by decide +kernel)) ?_
  refine fmS (snd_iloadn hF (k := 2) rfl (by decide +kernel)) ?_
  refine fmS (snd_if_ne hF (off := 14) (by decide) (by decide +kernel)) ?_
  refine fmS (snd_aloadn hF (k := 0) rfl (by decide +kernel)) ?_
  refine fmS (snd_iloadn hF (k := 1) rfl (by decide +kernel)) ?_
  refine fmS (snd_iloadn hF (k := 1) rfl (by decide +kernel)) ?_
  refine fmS (snd_callV hM k_X10_occurs okX10 qw1344 qw1346 (hts _ qw53) (by decide +kernel)) ?_
  refine fmS (snd_if_ne hF (off := 5) (by decide) (by decide +kernel)) ?_
  refine fmS (snd_iconst hF (n := 1) rfl (by decide +kernel)) ?_
  refine fmS (snd_retI hM (by decide +kernel)) ?_
  refine fmS (snd_aloadn hF (k := 0) rfl (by decide +kernel)) ?_
  refine fmS (snd_iloadn hF (k := 1) rfl (by decide +kernel)) ?_
  refine fmS (snd_callV hM k_X10_operatorOf okX10 qw1356 qw1358 (hts _ qw56) (by decide +kernel)) ?_
  refine fmS (snd_if_ge hF (off := 5) (by decide) (by decide +kernel)) ?_
  refine fmS (snd_iconst hF (n := 4) rfl (by decide +kernel)) ?_
  refine fmS (snd_retI hM (by decide +kernel)) ?_
  refine fmS (snd_iloadn hF (k := 2) rfl (by decide +kernel)) ?_
  refine fmS (snd_if_eq hF (off := 7) (by decide) (by decide +kernel)) ?_
  refine fmS (snd_iconst hF (n := 3) rfl (by decide +kernel)) ?_
  refine fmS (snd_goto hF (off := 4) (by decide) (by decide +kernel)) ?_
  refine fmS (snd_iconst hF (n := 2) rfl (by decide +kernel)) ?_
  refine fmS (snd_retI hM (by decide +kernel)) ?_
  exact fmE
theorem iX10_kinds {d mc ms n : Nat} {av : List Value} {M : PM} {P : PO} (hw : wid av ≤ 4) (hb : ∀ J : KT, (∀ (k : Nat) (stops : Nat → Bool) (pc : Nat) (lv : LV) (st : List Value) (nn : NN) (M : PM), lk (tX10_kinds d mc ms P) pc (wpN (tX10_kinds d mc ms P) stops k J) lv st nn M → J pc lv st nn M) → J 0 (entA 0 av) [] (n, 0, 0) M) : CallOK (d + 1) mc ms yX10_kinds (Cond.code yX10_kinds cX10_kinds 4 (some .int)) av n M P := call_intro (own := RX10) (by decide) rfl hw (fun _ _ _ _ _ _ _ _ _ _ _ _ _ hM => sX10_kinds hM) hb
def tX10_isReduction (d mc ms : Nat) (P : PO) : List (Nat × OP) := [(0, oAld 0 1), (1, oIld 1 2), (2, oCallV d mc ms P 0 0 yX10_kinds (Cond.code yX10_kinds cX10_kinds 4 (some .int)) 1 10 5), (5, oPush (.int 2) 6), (6, oIc (fun x y => x = y) 9 13), (9, oPush (.int 1) 10), (10, oGoto 14), (13, oPush (.int 0) 14), (14, oRetZ mc ms P)]
set_option maxRecDepth 20000 in
theorem sX10_isReduction {p : Program} {l : Launch} {e : Env} {s : State} {m : MethodId} {args : Array Value} {below : List Frame} {meth : Method} {c : Code} {D : va_G} {cA : Nat → ClassId} {ad0 : Nat → Nat} {n0 sz d mc ms : Nat} {P : PO} (hM : FM p l s m args meth c D cA 2 ad0 n0 sz cX10_isReduction RX10 (some .boolean) [] yX10_isReduction.name) : ∀ q ∈ tX10_isReduction d mc ms P, Snd (jM p l e s m args below meth c D cA 2 ad0 n0 sz (d + 1) mc ms P) q.1 q.2 := by
  have hF := hM.1
  have hts := hF.2.2.2.2.1
  unfold tX10_isReduction
  refine fmS (snd_aloadn hF (k := 0) rfl (by decide +kernel)) ?_
  refine fmS (snd_iloadn hF (k := 1) rfl (by decide +kernel)) ?_
  refine fmS (snd_callV hM k_X10_kinds okX10 qw1336 qw1338 (hts _ qw51) (by decide +kernel)) ?_
  refine fmS (snd_iconst hF (n := 2) rfl (by decide +kernel)) ?_
  refine fmS (snd_icmp_ne hF (off := 7) (by decide) (by decide +kernel)) ?_
  refine fmS (snd_iconst hF (n := 1) rfl (by decide +kernel)) ?_
  refine fmS (snd_goto hF (off := 4) (by decide) (by decide +kernel)) ?_
  refine fmS (snd_iconst hF (n := 0) rfl (by decide +kernel)) ?_
  refine fmS (snd_retZ hM (by decide +kernel)) ?_
  exact fmE
theorem iX10_isReduction {d mc ms n : Nat} {av : List Value} {M : PM} {P : PO} (hw : wid av ≤ 2) (hb : ∀ J : KT, (∀ (k : Nat) (stops : Nat → Bool) (pc : Nat) (lv : LV) (st : List Value) (nn : NN) (M : PM), lk (tX10_isReduction d mc ms P) pc (wpN (tX10_isReduction d mc ms P) stops k J) lv st nn M → J pc lv st nn M) → J 0 (entA 0 av) [] (n, 0, 0) M) : CallOK (d + 1) mc ms yX10_isReduction (Cond.code yX10_isReduction cX10_isReduction 2 (some .boolean)) av n M P := call_intro (own := RX10) (by decide) rfl hw (fun _ _ _ _ _ _ _ _ _ _ _ _ _ hM => sX10_isReduction hM) hb
def tX10_kind (d mc ms : Nat) (P : PO) : List (Nat × OP) := [(0, oAld 0 1), (1, oPush (.int 0) 2), (2, oPi 10 0 5), (5, oIld 1 6), (6, oCallS d mc ms P 0 0 yX10_isVariable (Cond.code yX10_isVariable cX10_isVariable 1 (some .boolean)) 1 9), (9, oIf (fun x => x = 0) 20 12), (12, oAld 0 13), (13, oIld 1 14), (14, oCallV d mc ms P 0 0 yX10_kinds (Cond.code yX10_kinds cX10_kinds 4 (some .int)) 1 10 17), (17, oGoto 25), (20, oAld 0 21), (21, oPush (.int 1) 22), (22, oCallV d mc ms P 0 0 yX10_raises (Cond.code yX10_raises cX10_raises 2 (some .int)) 1 10 25), (25, oRetI mc ms P)]
set_option maxRecDepth 20000 in
theorem sX10_kind {p : Program} {l : Launch} {e : Env} {s : State} {m : MethodId} {args : Array Value} {below : List Frame} {meth : Method} {c : Code} {D : va_G} {cA : Nat → ClassId} {ad0 : Nat → Nat} {n0 sz d mc ms : Nat} {P : PO} (hM : FM p l s m args meth c D cA 2 ad0 n0 sz cX10_kind RX10 (some .int) [] yX10_kind.name) : ∀ q ∈ tX10_kind d mc ms P, Snd (jM p l e s m args below meth c D cA 2 ad0 n0 sz (d + 1) mc ms P) q.1 q.2 := by
  have hF := hM.1
  have hts := hF.2.2.2.2.1
  unfold tX10_kind
  refine fmS (snd_aloadn hF (k := 0) rfl (by decide +kernel)) ?_
  refine fmS (snd_iconst hF (n := 0) rfl (by decide +kernel)) ?_
  refine fmS (snd_puti hF okX10 (k := 0) (by decide) qw1104 rfl rfl rfl rfl (by decide +kernel)) ?_
  refine fmS (snd_iloadn hF (k := 1) rfl (by decide +kernel)) ?_
  refine fmS (snd_callS hM k_X10_isVariable qw1329 qw1330 (by decide +kernel)) ?_
  refine fmS (snd_if_eq hF (off := 11) (by decide) (by decide +kernel)) ?_
  refine fmS (snd_aloadn hF (k := 0) rfl (by decide +kernel)) ?_
  refine fmS (snd_iloadn hF (k := 1) rfl (by decide +kernel)) ?_
  refine fmS (snd_callV hM k_X10_kinds okX10 qw1336 qw1338 (hts _ qw51) (by decide +kernel)) ?_
  refine fmS (snd_goto hF (off := 8) (by decide) (by decide +kernel)) ?_
  refine fmS (snd_aloadn hF (k := 0) rfl (by decide +kernel)) ?_
  refine fmS (snd_iconst hF (n := 1) rfl (by decide +kernel)) ?_
  refine fmS (snd_callV hM k_X10_raises okX10 qw1221 qw1223 (hts _ qw35) (by decide +kernel)) ?_
  refine fmS (snd_retI hM (by decide +kernel)) ?_
  exact fmE
theorem iX10_kind {d mc ms n : Nat} {av : List Value} {M : PM} {P : PO} (hw : wid av ≤ 2) (hb : ∀ J : KT, (∀ (k : Nat) (stops : Nat → Bool) (pc : Nat) (lv : LV) (st : List Value) (nn : NN) (M : PM), lk (tX10_kind d mc ms P) pc (wpN (tX10_kind d mc ms P) stops k J) lv st nn M → J pc lv st nn M) → J 0 (entA 0 av) [] (n, 0, 0) M) : CallOK (d + 1) mc ms yX10_kind (Cond.code yX10_kind cX10_kind 2 (some .int)) av n M P := call_intro (own := RX10) (by decide) rfl hw (fun _ _ _ _ _ _ _ _ _ _ _ _ _ hM => sX10_kind hM) hb
def tX10_hasChain (d mc ms : Nat) (P : PO) : List (Nat × OP) := [(0, oAld 0 1), (1, oIld 1 2), (2, oCallS d mc ms P 0 0 yX10_isVariable (Cond.code yX10_isVariable cX10_isVariable 1 (some .boolean)) 1 5), (5, oIf (fun x => x = 0) 8 12), (8, oPush (.int 1) 9), (9, oGoto 35), (12, oAld 0 13), (13, oIld 1 14), (14, oCallV d mc ms P 0 0 yX10_kinds (Cond.code yX10_kinds cX10_kinds 4 (some .int)) 1 10 17), (17, oPush (.int 2) 18), (18, oIc (fun x y => x = y) 30 21), (21, oAld 0 22), (22, oIld 1 23), (23, oCallV d mc ms P 0 0 yX10_kinds (Cond.code yX10_kinds cX10_kinds 4 (some .int)) 1 10 26), (26, oPush (.int 3) 27), (27, oIc (fun x y => x = y) 30 34), (30, oPush (.int 0) 31), (31, oGoto 35), (34, oPush (.int 2) 35), (35, oPi 10 0 38), (38, oAld 0 39), (39, oGi 10 0 42), (42, oIf (fun x => x = 0) 45 49), (45, oPush (.int 1) 46), (46, oGoto 50), (49, oPush (.int 0) 50), (50, oRetZ mc ms P)]
set_option maxRecDepth 20000 in
theorem sX10_hasChain {p : Program} {l : Launch} {e : Env} {s : State} {m : MethodId} {args : Array Value} {below : List Frame} {meth : Method} {c : Code} {D : va_G} {cA : Nat → ClassId} {ad0 : Nat → Nat} {n0 sz d mc ms : Nat} {P : PO} (hM : FM p l s m args meth c D cA 2 ad0 n0 sz cX10_hasChain RX10 (some .boolean) [] yX10_hasChain.name) : ∀ q ∈ tX10_hasChain d mc ms P, Snd (jM p l e s m args below meth c D cA 2 ad0 n0 sz (d + 1) mc ms P) q.1 q.2 := by
  have hF := hM.1
  have hts := hF.2.2.2.2.1
  unfold tX10_hasChain
  refine fmS (snd_aloadn hF (k := 0) rfl (by decide +kernel)) ?_
  refine fmS (snd_iloadn hF (k := 1) rfl (by decide +kernel)) ?_
  refine fmS (snd_callS hM k_X10_isVariable qw1329 qw1330 (by decide +kernel)) ?_
  refine fmS (snd_if_ne hF (off := 7) (by decide) (by decide +kernel)) ?_
  refine fmS (snd_iconst hF (n := 1) rfl (by decide +kernel)) ?_
  refine fmS (snd_goto hF (off := 26) (by decide) (by decide +kernel)) ?_
  refine fmS (snd_aloadn hF (k := 0) rfl (by decide +kernel)) ?_
  refine fmS (snd_iloadn hF (k := 1) rfl (by decide +kernel)) ?_
  refine fmS (snd_callV hM k_X10_kinds okX10 qw1336 qw1338 (hts _ qw51) (by decide +kernel)) ?_
  refine fmS (snd_iconst hF (n := 2) rfl (by decide +kernel)) ?_
  refine fmS (snd_icmp_eq hF (off := 12) (by decide) (by decide +kernel)) ?_
  refine fmS (snd_aloadn hF (k := 0) rfl (by decide +kernel)) ?_
  refine fmS (snd_iloadn hF (k := 1) rfl (by decide +kernel)) ?_
  refine fmS (snd_callV hM k_X10_kinds okX10 qw1336 qw1338 (hts _ qw51) (by decide +kernel)) ?_
  refine fmS (snd_iconst hF (n := 3) rfl (by decide +kernel)) ?_
  refine fmS (snd_icmp_ne hF (off := 7) (by decide) (by decide +kernel)) ?_
  refine fmS (snd_iconst hF (n := 0) rfl (by decide +kernel)) ?_
  refine fmS (snd_goto hF (off := 4) (by decide) (by decide +kernel)) ?_
  refine fmS (snd_iconst hF (n := 2) rfl (by decide +kernel)) ?_
  refine fmS (snd_puti hF okX10 (k := 0) (by decide) qw1104 rfl rfl rfl rfl (by decide +kernel)) ?_
  refine fmS (snd_aloadn hF (k := 0) rfl (by decide +kernel)) ?_
  refine fmS (snd_geti hF okX10 (k := 0) (by decide) qw1104 rfl rfl (by decide +kernel)) ?_
  refine fmS (snd_if_ne hF (off := 7) (by decide) (by decide +kernel)) ?_
  refine fmS (snd_iconst hF (n := 1) rfl (by decide +kernel)) ?_
  refine fmS (snd_goto hF (off := 4) (by decide) (by decide +kernel)) ?_
  refine fmS (snd_iconst hF (n := 0) rfl (by decide +kernel)) ?_
  refine fmS (snd_retZ hM (by decide +kernel)) ?_
  exact fmE
theorem iX10_hasChain {d mc ms n : Nat} {av : List Value} {M : PM} {P : PO} (hw : wid av ≤ 2) (hb : ∀ J : KT, (∀ (k : Nat) (stops : Nat → Bool) (pc : Nat) (lv : LV) (st : List Value) (nn : NN) (M : PM), lk (tX10_hasChain d mc ms P) pc (wpN (tX10_hasChain d mc ms P) stops k J) lv st nn M → J pc lv st nn M) → J 0 (entA 0 av) [] (n, 0, 0) M) : CallOK (d + 1) mc ms yX10_hasChain (Cond.code yX10_hasChain cX10_hasChain 2 (some .boolean)) av n M P := call_intro (own := RX10) (by decide) rfl hw (fun _ _ _ _ _ _ _ _ _ _ _ _ _ hM => sX10_hasChain hM) hb
def tX10_operator (d mc ms : Nat) (P : PO) : List (Nat × OP) := [(0, oAld 0 1), (1, oIld 1 2), (2, oCallV d mc ms P 0 0 yX10_hasChain (Cond.code yX10_hasChain cX10_hasChain 2 (some .boolean)) 1 10 5), (5, oIf (fun x => x = 0) 16 8), (8, oAld 0 9), (9, oIld 1 10), (10, oCallV d mc ms P 0 0 yX10_operatorOf (Cond.code yX10_operatorOf cX10_operatorOf 3 (some .int)) 1 10 13), (13, oGoto 17), (16, oPush (.int 0) 17), (17, oRetI mc ms P)]
set_option maxRecDepth 20000 in
theorem sX10_operator {p : Program} {l : Launch} {e : Env} {s : State} {m : MethodId} {args : Array Value} {below : List Frame} {meth : Method} {c : Code} {D : va_G} {cA : Nat → ClassId} {ad0 : Nat → Nat} {n0 sz d mc ms : Nat} {P : PO} (hM : FM p l s m args meth c D cA 2 ad0 n0 sz cX10_operator RX10 (some .int) [] yX10_operator.name) : ∀ q ∈ tX10_operator d mc ms P, Snd (jM p l e s m args below meth c D cA 2 ad0 n0 sz (d + 1) mc ms P) q.1 q.2 := by
  have hF := hM.1
  have hts := hF.2.2.2.2.1
  unfold tX10_operator
  refine fmS (snd_aloadn hF (k := 0) rfl (by decide +kernel)) ?_
  refine fmS (snd_iloadn hF (k := 1) rfl (by decide +kernel)) ?_
  refine fmS (snd_callV hM k_X10_hasChain okX10 qw1376 qw1378 (hts _ qw60) (by decide +kernel)) ?_
  refine fmS (snd_if_eq hF (off := 11) (by decide) (by decide +kernel)) ?_
  refine fmS (snd_aloadn hF (k := 0) rfl (by decide +kernel)) ?_
  refine fmS (snd_iloadn hF (k := 1) rfl (by decide +kernel)) ?_
  refine fmS (snd_callV hM k_X10_operatorOf okX10 qw1356 qw1358 (hts _ qw56) (by decide +kernel)) ?_
  refine fmS (snd_goto hF (off := 4) (by decide) (by decide +kernel)) ?_
  refine fmS (snd_iconst hF (n := 0) rfl (by decide +kernel)) ?_
  refine fmS (snd_retI hM (by decide +kernel)) ?_
  exact fmE
theorem iX10_operator {d mc ms n : Nat} {av : List Value} {M : PM} {P : PO} (hw : wid av ≤ 2) (hb : ∀ J : KT, (∀ (k : Nat) (stops : Nat → Bool) (pc : Nat) (lv : LV) (st : List Value) (nn : NN) (M : PM), lk (tX10_operator d mc ms P) pc (wpN (tX10_operator d mc ms P) stops k J) lv st nn M → J pc lv st nn M) → J 0 (entA 0 av) [] (n, 0, 0) M) : CallOK (d + 1) mc ms yX10_operator (Cond.code yX10_operator cX10_operator 2 (some .int)) av n M P := call_intro (own := RX10) (by decide) rfl hw (fun _ _ _ _ _ _ _ _ _ _ _ _ _ hM => sX10_operator hM) hb
def tX10_terms (d mc ms : Nat) (P : PO) : List (Nat × OP) := [(0, oAld 0 1), (1, oIld 1 2), (2, oCallV d mc ms P 0 0 yX10_hasChain (Cond.code yX10_hasChain cX10_hasChain 2 (some .boolean)) 1 10 5), (5, oIf (fun x => x = 0) 22 8), (8, oAld 0 9), (9, oIld 1 10), (10, oPush (.int 0) 11), (11, oAld 0 12), (12, oIld 1 13), (13, oCallV d mc ms P 0 0 yX10_operatorOf (Cond.code yX10_operatorOf cX10_operatorOf 3 (some .int)) 1 10 16), (16, oCallV d mc ms P 0 0 yX10_chain (Cond.code yX10_chain cX10_chain 10 (some .int)) 3 10 19), (19, oGoto 23), (22, oPush (.int 0) 23), (23, oRetI mc ms P)]
set_option maxRecDepth 20000 in
theorem sX10_terms {p : Program} {l : Launch} {e : Env} {s : State} {m : MethodId} {args : Array Value} {below : List Frame} {meth : Method} {c : Code} {D : va_G} {cA : Nat → ClassId} {ad0 : Nat → Nat} {n0 sz d mc ms : Nat} {P : PO} (hM : FM p l s m args meth c D cA 2 ad0 n0 sz cX10_terms RX10 (some .int) [] yX10_terms.name) : ∀ q ∈ tX10_terms d mc ms P, Snd (jM p l e s m args below meth c D cA 2 ad0 n0 sz (d + 1) mc ms P) q.1 q.2 := by
  have hF := hM.1
  have hts := hF.2.2.2.2.1
  unfold tX10_terms
  refine fmS (snd_aloadn hF (k := 0) rfl (by decide +kernel)) ?_
  refine fmS (snd_iloadn hF (k := 1) rfl (by decide +kernel)) ?_
  refine fmS (snd_callV hM k_X10_hasChain okX10 qw1376 qw1378 (hts _ qw60) (by decide +kernel)) ?_
  refine fmS (snd_if_eq hF (off := 17) (by decide) (by decide +kernel)) ?_
  refine fmS (snd_aloadn hF (k := 0) rfl (by decide +kernel)) ?_
  refine fmS (snd_iloadn hF (k := 1) rfl (by decide +kernel)) ?_
  refine fmS (snd_iconst hF (n := 0) rfl (by decide +kernel)) ?_
  refine fmS (snd_aloadn hF (k := 0) rfl (by decide +kernel)) ?_
  refine fmS (snd_iloadn hF (k := 1) rfl (by decide +kernel)) ?_
  refine fmS (snd_callV hM k_X10_operatorOf okX10 qw1356 qw1358 (hts _ qw56) (by decide +kernel)) ?_
  refine fmS (snd_callV hM k_X10_chain okX10 qw1360 qw1362 (hts _ qw57) (by decide +kernel)) ?_
  refine fmS (snd_goto hF (off := 4) (by decide) (by decide +kernel)) ?_
  refine fmS (snd_iconst hF (n := 0) rfl (by decide +kernel)) ?_
  refine fmS (snd_retI hM (by decide +kernel)) ?_
  exact fmE
theorem iX10_terms {d mc ms n : Nat} {av : List Value} {M : PM} {P : PO} (hw : wid av ≤ 2) (hb : ∀ J : KT, (∀ (k : Nat) (stops : Nat → Bool) (pc : Nat) (lv : LV) (st : List Value) (nn : NN) (M : PM), lk (tX10_terms d mc ms P) pc (wpN (tX10_terms d mc ms P) stops k J) lv st nn M → J pc lv st nn M) → J 0 (entA 0 av) [] (n, 0, 0) M) : CallOK (d + 1) mc ms yX10_terms (Cond.code yX10_terms cX10_terms 2 (some .int)) av n M P := call_intro (own := RX10) (by decide) rfl hw (fun _ _ _ _ _ _ _ _ _ _ _ _ _ hM => sX10_terms hM) hb
def tX10_depends (d mc ms : Nat) (P : PO) : List (Nat × OP) := [(0, oAld 0 1), (1, oPush (.int 0) 2), (2, oPi 10 0 5), (5, oIld 1 6), (6, oCallS d mc ms P 0 0 yX10_isVariable (Cond.code yX10_isVariable cX10_isVariable 1 (some .boolean)) 1 9), (9, oIf (fun x => x = 0) 12 18), (12, oAld 0 13), (13, oPush (.int 1) 14), (14, oCallV d mc ms P 0 0 yX10_raises (Cond.code yX10_raises cX10_raises 2 (some .int)) 1 10 17), (17, oRetI mc ms P), (18, oPush (.int 0) 19), (19, oIst 2 20), (20, oPush (.int 0) 21), (21, oIst 3 22), (22, oIld 3 23), (23, oPush (.int 8) 25), (25, oIc (fun x y => y ≤ x) 49 28), (28, oAld 0 29), (29, oIld 1 30), (30, oIld 3 31), (31, oCallV d mc ms P 0 0 yX10_occurs (Cond.code yX10_occurs cX10_occurs 3 (some .boolean)) 2 10 34), (34, oIf (fun x => x = 0) 43 37), (37, oIld 2 38), (38, oPush (.int 1) 39), (39, oIld 3 40), (40, oI2 (fun x y => x <<< (y &&& 31)) 41), (41, oI2 (fun x y => x ||| y) 42), (42, oIst 2 43), (43, oInc 3 1 46), (46, oGoto 22), (49, oIld 2 50), (50, oRetI mc ms P)]
set_option maxRecDepth 20000 in
theorem sX10_depends {p : Program} {l : Launch} {e : Env} {s : State} {m : MethodId} {args : Array Value} {below : List Frame} {meth : Method} {c : Code} {D : va_G} {cA : Nat → ClassId} {ad0 : Nat → Nat} {n0 sz d mc ms : Nat} {P : PO} (hM : FM p l s m args meth c D cA 4 ad0 n0 sz cX10_depends RX10 (some .int) [] yX10_depends.name) : ∀ q ∈ tX10_depends d mc ms P, Snd (jM p l e s m args below meth c D cA 4 ad0 n0 sz (d + 1) mc ms P) q.1 q.2 := by
  have hF := hM.1
  have hts := hF.2.2.2.2.1
  unfold tX10_depends
  refine fmS (snd_aloadn hF (k := 0) rfl (by decide +kernel)) ?_
  refine fmS (snd_iconst hF (n := 0) rfl (by decide +kernel)) ?_
  refine fmS (snd_puti hF okX10 (k := 0) (by decide) qw1104 rfl rfl rfl rfl (by decide +kernel)) ?_
  refine fmS (snd_iloadn hF (k := 1) rfl (by decide +kernel)) ?_
  refine fmS (snd_callS hM k_X10_isVariable qw1329 qw1330 (by decide +kernel)) ?_
  refine fmS (snd_if_ne hF (off := 9) (by decide) (by decide +kernel)) ?_
  refine fmS (snd_aloadn hF (k := 0) rfl (by decide +kernel)) ?_
  refine fmS (snd_iconst hF (n := 1) rfl (by decide +kernel)) ?_
  refine fmS (snd_callV hM k_X10_raises okX10 qw1221 qw1223 (hts _ qw35) (by decide +kernel)) ?_
  refine fmS (snd_retI hM (by decide +kernel)) ?_
  refine fmS (snd_iconst hF (n := 0) rfl (by decide +kernel)) ?_
  refine fmS (snd_istoren hF (k := 2) rfl (by decide) (by decide +kernel)) ?_
  refine fmS (snd_iconst hF (n := 0) rfl (by decide +kernel)) ?_
  refine fmS (snd_istoren hF (k := 3) rfl (by decide) (by decide +kernel)) ?_
  refine fmS (snd_iloadn hF (k := 3) rfl (by decide +kernel)) ?_
  refine fmS (snd_bipush hF (n := 8) (by decide +kernel) (by decide +kernel)) ?_
  refine fmS (snd_icmp_ge hF (off := 24) (by decide) (by decide +kernel)) ?_
  refine fmS (snd_aloadn hF (k := 0) rfl (by decide +kernel)) ?_
  refine fmS (snd_iloadn hF (k := 1) rfl (by decide +kernel)) ?_
  refine fmS (snd_iloadn hF (k := 3) rfl (by decide +kernel)) ?_
  refine fmS (snd_callV hM k_X10_occurs okX10 qw1344 qw1346 (hts _ qw53) (by decide +kernel)) ?_
  refine fmS (snd_if_eq hF (off := 9) (by decide) (by decide +kernel)) ?_
  refine fmS (snd_iloadn hF (k := 2) rfl (by decide +kernel)) ?_
  refine fmS (snd_iconst hF (n := 1) rfl (by decide +kernel)) ?_
  refine fmS (snd_iloadn hF (k := 3) rfl (by decide +kernel)) ?_
  refine fmS (snd_ishl hF (by decide +kernel)) ?_
  refine fmS (snd_ior hF (by decide +kernel)) ?_
  refine fmS (snd_istoren hF (k := 2) rfl (by decide) (by decide +kernel)) ?_
  refine fmS (snd_iinc hF (n := 1) (by decide +kernel) (by decide) (by decide +kernel)) ?_
  refine fmS (snd_goto hF (off := (-24)) (by decide) (by decide +kernel)) ?_
  refine fmS (snd_iloadn hF (k := 2) rfl (by decide +kernel)) ?_
  refine fmS (snd_retI hM (by decide +kernel)) ?_
  exact fmE
theorem iX10_depends {d mc ms n : Nat} {av : List Value} {M : PM} {P : PO} (hw : wid av ≤ 4) (hb : ∀ J : KT, (∀ (k : Nat) (stops : Nat → Bool) (pc : Nat) (lv : LV) (st : List Value) (nn : NN) (M : PM), lk (tX10_depends d mc ms P) pc (wpN (tX10_depends d mc ms P) stops k J) lv st nn M → J pc lv st nn M) → J 0 (entA 0 av) [] (n, 0, 0) M) : CallOK (d + 1) mc ms yX10_depends (Cond.code yX10_depends cX10_depends 4 (some .int)) av n M P := call_intro (own := RX10) (by decide) rfl hw (fun _ _ _ _ _ _ _ _ _ _ _ _ _ hM => sX10_depends hM) hb
def tX10_nodes (d mc ms : Nat) (P : PO) : List (Nat × OP) := [(0, oAld 0 1), (1, oPush (.int 0) 2), (2, oPi 10 0 5), (5, oIld 1 6), (6, oCallS d mc ms P 0 0 yX10_isVariable (Cond.code yX10_isVariable cX10_isVariable 1 (some .boolean)) 1 9), (9, oIf (fun x => x = 0) 21 12), (12, oAld 0 13), (13, oGr 10 21 16), (16, oIld 1 17), (17, oAi 100 18), (18, oGoto 26), (21, oAld 0 22), (22, oPush (.int 1) 23), (23, oCallV d mc ms P 0 0 yX10_raises (Cond.code yX10_raises cX10_raises 2 (some .int)) 1 10 26), (26, oRetI mc ms P)]
set_option maxRecDepth 20000 in
theorem sX10_nodes {p : Program} {l : Launch} {e : Env} {s : State} {m : MethodId} {args : Array Value} {below : List Frame} {meth : Method} {c : Code} {D : va_G} {cA : Nat → ClassId} {ad0 : Nat → Nat} {n0 sz d mc ms : Nat} {P : PO} (hM : FM p l s m args meth c D cA 2 ad0 n0 sz cX10_nodes RX10 (some .int) [] yX10_nodes.name) : ∀ q ∈ tX10_nodes d mc ms P, Snd (jM p l e s m args below meth c D cA 2 ad0 n0 sz (d + 1) mc ms P) q.1 q.2 := by
  have hF := hM.1
  have hts := hF.2.2.2.2.1
  unfold tX10_nodes
  refine fmS (snd_aloadn hF (k := 0) rfl (by decide +kernel)) ?_
  refine fmS (snd_iconst hF (n := 0) rfl (by decide +kernel)) ?_
  refine fmS (snd_puti hF okX10 (k := 0) (by decide) qw1104 rfl rfl rfl rfl (by decide +kernel)) ?_
  refine fmS (snd_iloadn hF (k := 1) rfl (by decide +kernel)) ?_
  refine fmS (snd_callS hM k_X10_isVariable qw1329 qw1330 (by decide +kernel)) ?_
  refine fmS (snd_if_eq hF (off := 12) (by decide) (by decide +kernel)) ?_
  refine fmS (snd_aloadn hF (k := 0) rfl (by decide +kernel)) ?_
  refine fmS (snd_getr hF okX10 (k := 21) (by decide) qw1125 rfl rfl (by decide +kernel)) ?_
  refine fmS (snd_iloadn hF (k := 1) rfl (by decide +kernel)) ?_
  refine fmS (snd_iaload hF (by decide +kernel)) ?_
  refine fmS (snd_goto hF (off := 8) (by decide) (by decide +kernel)) ?_
  refine fmS (snd_aloadn hF (k := 0) rfl (by decide +kernel)) ?_
  refine fmS (snd_iconst hF (n := 1) rfl (by decide +kernel)) ?_
  refine fmS (snd_callV hM k_X10_raises okX10 qw1221 qw1223 (hts _ qw35) (by decide +kernel)) ?_
  refine fmS (snd_retI hM (by decide +kernel)) ?_
  exact fmE
theorem iX10_nodes {d mc ms n : Nat} {av : List Value} {M : PM} {P : PO} (hw : wid av ≤ 2) (hb : ∀ J : KT, (∀ (k : Nat) (stops : Nat → Bool) (pc : Nat) (lv : LV) (st : List Value) (nn : NN) (M : PM), lk (tX10_nodes d mc ms P) pc (wpN (tX10_nodes d mc ms P) stops k J) lv st nn M → J pc lv st nn M) → J 0 (entA 0 av) [] (n, 0, 0) M) : CallOK (d + 1) mc ms yX10_nodes (Cond.code yX10_nodes cX10_nodes 2 (some .int)) av n M P := call_intro (own := RX10) (by decide) rfl hw (fun _ _ _ _ _ _ _ _ _ _ _ _ _ hM => sX10_nodes hM) hb
def tX10_high (d mc ms : Nat) (P : PO) : List (Nat × OP) := [(0, oPush (.int 0) 1), (1, oIst 3 2), (2, oIld 2 3), (3, oPush (.int 1) 4), (4, oI2 (fun x y => x + y) 5), (5, oIst 4 7), (7, oPush (.int 0) 8), (8, oIst 5 10), (10, oIld 5 12), (12, oAld 0 13), (13, oIld 1 14), (14, oIld 2 15), (15, oCallV d mc ms P 0 0 yX10_part (Cond.code yX10_part cX10_part 3 (some .int)) 2 10 18), (18, oCallS d mc ms P 0 0 yX10_operands (Cond.code yX10_operands cX10_operands 1 (some .int)) 1 21), (21, oIc (fun x y => y ≤ x) 51 24), (24, oIld 3 25), (25, oAld 0 26), (26, oIld 1 27), (27, oIld 4 29), (29, oCallV d mc ms P 0 0 yX10_high (Cond.code yX10_high cX10_high 6 (some .int)) 2 10 32), (32, oMm (fun x y => if x < y then y else x) mc ms 35), (35, oIst 3 36), (36, oAld 0 37), (37, oIld 1 38), (38, oIld 4 40), (40, oCallV d mc ms P 0 0 yX10_behind (Cond.code yX10_behind cX10_behind 5 (some .int)) 2 10 43), (43, oIst 4 45), (45, oInc 5 1 48), (48, oGoto 10), (51, oIld 3 52), (52, oPush (.int 1) 53), (53, oI2 (fun x y => x + y) 54), (54, oRetI mc ms P)]
set_option maxRecDepth 20000 in
theorem sX10_high {p : Program} {l : Launch} {e : Env} {s : State} {m : MethodId} {args : Array Value} {below : List Frame} {meth : Method} {c : Code} {D : va_G} {cA : Nat → ClassId} {ad0 : Nat → Nat} {n0 sz d mc ms : Nat} {P : PO} (hM : FM p l s m args meth c D cA 6 ad0 n0 sz cX10_high RX10 (some .int) [] yX10_high.name) : ∀ q ∈ tX10_high d mc ms P, Snd (jM p l e s m args below meth c D cA 6 ad0 n0 sz (d + 1) mc ms P) q.1 q.2 := by
  have hF := hM.1
  have hts := hF.2.2.2.2.1
  unfold tX10_high
  refine fmS (snd_iconst hF (n := 0) rfl (by decide +kernel)) ?_
  refine fmS (snd_istoren hF (k := 3) rfl (by decide) (by decide +kernel)) ?_
  refine fmS (snd_iloadn hF (k := 2) rfl (by decide +kernel)) ?_
  refine fmS (snd_iconst hF (n := 1) rfl (by decide +kernel)) ?_
  refine fmS (snd_iadd hF (by decide +kernel)) ?_
  refine fmS (snd_istore hF (by decide) (by decide +kernel)) ?_
  refine fmS (snd_iconst hF (n := 0) rfl (by decide +kernel)) ?_
  refine fmS (snd_istore hF (by decide) (by decide +kernel)) ?_
  refine fmS (snd_iload hF (by decide +kernel)) ?_
  refine fmS (snd_aloadn hF (k := 0) rfl (by decide +kernel)) ?_
  refine fmS (snd_iloadn hF (k := 1) rfl (by decide +kernel)) ?_
  refine fmS (snd_iloadn hF (k := 2) rfl (by decide +kernel)) ?_
  refine fmS (snd_callV hM k_X10_part okX10 qw1352 qw1354 (hts _ qw55) (by decide +kernel)) ?_
  refine fmS (snd_callS hM k_X10_operands qw1281 qw1282 (by decide +kernel)) ?_
  refine fmS (snd_icmp_ge hF (off := 30) (by decide) (by decide +kernel)) ?_
  refine fmS (snd_iloadn hF (k := 3) rfl (by decide +kernel)) ?_
  refine fmS (snd_aloadn hF (k := 0) rfl (by decide +kernel)) ?_
  refine fmS (snd_iloadn hF (k := 1) rfl (by decide +kernel)) ?_
  refine fmS (snd_iload hF (by decide +kernel)) ?_
  refine fmS (snd_callV hM k_X10_high okX10 qw1396 qw1398 (hts _ qw61) (by decide +kernel)) ?_
  refine fmS (snd_mmax hM qw1400 qw691 qw93 qw692 (by decide +kernel)) ?_
  refine fmS (snd_istoren hF (k := 3) rfl (by decide) (by decide +kernel)) ?_
  refine fmS (snd_aloadn hF (k := 0) rfl (by decide +kernel)) ?_
  refine fmS (snd_iloadn hF (k := 1) rfl (by decide +kernel)) ?_
  refine fmS (snd_iload hF (by decide +kernel)) ?_
  refine fmS (snd_callV hM k_X10_behind okX10 qw1364 qw1366 (hts _ qw58) (by decide +kernel)) ?_
  refine fmS (snd_istore hF (by decide) (by decide +kernel)) ?_
  refine fmS (snd_iinc hF (n := 1) (by decide +kernel) (by decide) (by decide +kernel)) ?_
  refine fmS (snd_goto hF (off := (-38)) (by decide) (by decide +kernel)) ?_
  refine fmS (snd_iloadn hF (k := 3) rfl (by decide +kernel)) ?_
  refine fmS (snd_iconst hF (n := 1) rfl (by decide +kernel)) ?_
  refine fmS (snd_iadd hF (by decide +kernel)) ?_
  refine fmS (snd_retI hM (by decide +kernel)) ?_
  exact fmE
theorem iX10_high {d mc ms n : Nat} {av : List Value} {M : PM} {P : PO} (hw : wid av ≤ 6) (hb : ∀ J : KT, (∀ (k : Nat) (stops : Nat → Bool) (pc : Nat) (lv : LV) (st : List Value) (nn : NN) (M : PM), lk (tX10_high d mc ms P) pc (wpN (tX10_high d mc ms P) stops k J) lv st nn M → J pc lv st nn M) → J 0 (entA 0 av) [] (n, 0, 0) M) : CallOK (d + 1) mc ms yX10_high (Cond.code yX10_high cX10_high 6 (some .int)) av n M P := call_intro (own := RX10) (by decide) rfl hw (fun _ _ _ _ _ _ _ _ _ _ _ _ _ hM => sX10_high hM) hb
def tX10_height (d mc ms : Nat) (P : PO) : List (Nat × OP) := [(0, oAld 0 1), (1, oPush (.int 0) 2), (2, oPi 10 0 5), (5, oIld 1 6), (6, oCallS d mc ms P 0 0 yX10_isVariable (Cond.code yX10_isVariable cX10_isVariable 1 (some .boolean)) 1 9), (9, oIf (fun x => x = 0) 21 12), (12, oAld 0 13), (13, oIld 1 14), (14, oPush (.int 0) 15), (15, oCallV d mc ms P 0 0 yX10_high (Cond.code yX10_high cX10_high 6 (some .int)) 2 10 18), (18, oGoto 26), (21, oAld 0 22), (22, oPush (.int 1) 23), (23, oCallV d mc ms P 0 0 yX10_raises (Cond.code yX10_raises cX10_raises 2 (some .int)) 1 10 26), (26, oRetI mc ms P)]
set_option maxRecDepth 20000 in
theorem sX10_height {p : Program} {l : Launch} {e : Env} {s : State} {m : MethodId} {args : Array Value} {below : List Frame} {meth : Method} {c : Code} {D : va_G} {cA : Nat → ClassId} {ad0 : Nat → Nat} {n0 sz d mc ms : Nat} {P : PO} (hM : FM p l s m args meth c D cA 2 ad0 n0 sz cX10_height RX10 (some .int) [] yX10_height.name) : ∀ q ∈ tX10_height d mc ms P, Snd (jM p l e s m args below meth c D cA 2 ad0 n0 sz (d + 1) mc ms P) q.1 q.2 := by
  have hF := hM.1
  have hts := hF.2.2.2.2.1
  unfold tX10_height
  refine fmS (snd_aloadn hF (k := 0) rfl (by decide +kernel)) ?_
  refine fmS (snd_iconst hF (n := 0) rfl (by decide +kernel)) ?_
  refine fmS (snd_puti hF okX10 (k := 0) (by decide) qw1104 rfl rfl rfl rfl (by decide +kernel)) ?_
  refine fmS (snd_iloadn hF (k := 1) rfl (by decide +kernel)) ?_
  refine fmS (snd_callS hM k_X10_isVariable qw1329 qw1330 (by decide +kernel)) ?_
  refine fmS (snd_if_eq hF (off := 12) (by decide) (by decide +kernel)) ?_
  refine fmS (snd_aloadn hF (k := 0) rfl (by decide +kernel)) ?_
  refine fmS (snd_iloadn hF (k := 1) rfl (by decide +kernel)) ?_
  refine fmS (snd_iconst hF (n := 0) rfl (by decide +kernel)) ?_
  refine fmS (snd_callV hM k_X10_high okX10 qw1396 qw1398 (hts _ qw61) (by decide +kernel)) ?_
  refine fmS (snd_goto hF (off := 8) (by decide) (by decide +kernel)) ?_
  refine fmS (snd_aloadn hF (k := 0) rfl (by decide +kernel)) ?_
  refine fmS (snd_iconst hF (n := 1) rfl (by decide +kernel)) ?_
  refine fmS (snd_callV hM k_X10_raises okX10 qw1221 qw1223 (hts _ qw35) (by decide +kernel)) ?_
  refine fmS (snd_retI hM (by decide +kernel)) ?_
  exact fmE
theorem iX10_height {d mc ms n : Nat} {av : List Value} {M : PM} {P : PO} (hw : wid av ≤ 2) (hb : ∀ J : KT, (∀ (k : Nat) (stops : Nat → Bool) (pc : Nat) (lv : LV) (st : List Value) (nn : NN) (M : PM), lk (tX10_height d mc ms P) pc (wpN (tX10_height d mc ms P) stops k J) lv st nn M → J pc lv st nn M) → J 0 (entA 0 av) [] (n, 0, 0) M) : CallOK (d + 1) mc ms yX10_height (Cond.code yX10_height cX10_height 2 (some .int)) av n M P := call_intro (own := RX10) (by decide) rfl hw (fun _ _ _ _ _ _ _ _ _ _ _ _ _ hM => sX10_height hM) hb
def tX10_open (d mc ms : Nat) (P : PO) : List (Nat × OP) := [(0, oAld 0 1), (1, oPush (.int 0) 2), (2, oPi 10 0 5), (5, oIld 1 6), (6, oCallS d mc ms P 0 0 yX10_isVariable (Cond.code yX10_isVariable cX10_isVariable 1 (some .boolean)) 1 9), (9, oIf (fun x => x = 0) 12 18), (12, oAld 0 13), (13, oPush (.int 1) 14), (14, oCallV d mc ms P 0 0 yX10_raises (Cond.code yX10_raises cX10_raises 2 (some .int)) 1 10 17), (17, oRetI mc ms P), (18, oAld 0 19), (19, oPush (.int 0) 20), (20, oPi 10 34 23), (23, oAld 0 24), (24, oIld 1 25), (25, oPi 10 35 28), (28, oAld 0 29), (29, oGr 10 21 32), (32, oIld 1 33), (33, oAi 100 34), (34, oRetI mc ms P)]
set_option maxRecDepth 20000 in
theorem sX10_open {p : Program} {l : Launch} {e : Env} {s : State} {m : MethodId} {args : Array Value} {below : List Frame} {meth : Method} {c : Code} {D : va_G} {cA : Nat → ClassId} {ad0 : Nat → Nat} {n0 sz d mc ms : Nat} {P : PO} (hM : FM p l s m args meth c D cA 2 ad0 n0 sz cX10_open RX10 (some .int) [] yX10_open.name) : ∀ q ∈ tX10_open d mc ms P, Snd (jM p l e s m args below meth c D cA 2 ad0 n0 sz (d + 1) mc ms P) q.1 q.2 := by
  have hF := hM.1
  have hts := hF.2.2.2.2.1
  unfold tX10_open
  refine fmS (snd_aloadn hF (k := 0) rfl (by decide +kernel)) ?_
  refine fmS (snd_iconst hF (n := 0) rfl (by decide +kernel)) ?_
  refine fmS (snd_puti hF okX10 (k := 0) (by decide) qw1104 rfl rfl rfl rfl (by decide +kernel)) ?_
  refine fmS (snd_iloadn hF (k := 1) rfl (by decide +kernel)) ?_
  refine fmS (snd_callS hM k_X10_isVariable qw1329 qw1330 (by decide +kernel)) ?_
  refine fmS (snd_if_ne hF (off := 9) (by decide) (by decide +kernel)) ?_
  refine fmS (snd_aloadn hF (k := 0) rfl (by decide +kernel)) ?_
  refine fmS (snd_iconst hF (n := 1) rfl (by decide +kernel)) ?_
  refine fmS (snd_callV hM k_X10_raises okX10 qw1221 qw1223 (hts _ qw35) (by decide +kernel)) ?_
  refine fmS (snd_retI hM (by decide +kernel)) ?_
  refine fmS (snd_aloadn hF (k := 0) rfl (by decide +kernel)) ?_
  refine fmS (snd_iconst hF (n := 0) rfl (by decide +kernel)) ?_
  refine fmS (snd_puti hF okX10 (k := 34) (by decide) qw1138 rfl rfl rfl rfl (by decide +kernel)) ?_
  refine fmS (snd_aloadn hF (k := 0) rfl (by decide +kernel)) ?_
  refine fmS (snd_iloadn hF (k := 1) rfl (by decide +kernel)) ?_
  refine fmS (snd_puti hF okX10 (k := 35) (by decide) qw1139 rfl rfl rfl rfl (by decide +kernel)) ?_
  refine fmS (snd_aloadn hF (k := 0) rfl (by decide +kernel)) ?_
  refine fmS (snd_getr hF okX10 (k := 21) (by decide) qw1125 rfl rfl (by decide +kernel)) ?_
  refine fmS (snd_iloadn hF (k := 1) rfl (by decide +kernel)) ?_
  refine fmS (snd_iaload hF (by decide +kernel)) ?_
  refine fmS (snd_retI hM (by decide +kernel)) ?_
  exact fmE
theorem iX10_open {d mc ms n : Nat} {av : List Value} {M : PM} {P : PO} (hw : wid av ≤ 2) (hb : ∀ J : KT, (∀ (k : Nat) (stops : Nat → Bool) (pc : Nat) (lv : LV) (st : List Value) (nn : NN) (M : PM), lk (tX10_open d mc ms P) pc (wpN (tX10_open d mc ms P) stops k J) lv st nn M → J pc lv st nn M) → J 0 (entA 0 av) [] (n, 0, 0) M) : CallOK (d + 1) mc ms yX10_open (Cond.code yX10_open cX10_open 2 (some .int)) av n M P := call_intro (own := RX10) (by decide) rfl hw (fun _ _ _ _ _ _ _ _ _ _ _ _ _ hM => sX10_open hM) hb
def tX10_hasNext (d mc ms : Nat) (P : PO) : List (Nat × OP) := [(0, oAld 0 1), (1, oAld 0 2), (2, oGi 10 34 5), (5, oIf (fun x => 0 ≤ x) 12 8), (8, oPush (.int 1) 9), (9, oGoto 13), (12, oPush (.int 0) 13), (13, oPi 10 0 16), (16, oAld 0 17), (17, oGi 10 0 20), (20, oIf (fun x => x = 0) 23 43), (23, oAld 0 24), (24, oGi 10 34 27), (27, oAld 0 28), (28, oGr 10 21 31), (31, oAld 0 32), (32, oGi 10 35 35), (35, oAi 100 36), (36, oIc (fun x y => y ≤ x) 43 39), (39, oPush (.int 1) 40), (40, oGoto 44), (43, oPush (.int 0) 44), (44, oRetZ mc ms P)]
set_option maxRecDepth 20000 in
theorem sX10_hasNext {p : Program} {l : Launch} {e : Env} {s : State} {m : MethodId} {args : Array Value} {below : List Frame} {meth : Method} {c : Code} {D : va_G} {cA : Nat → ClassId} {ad0 : Nat → Nat} {n0 sz d mc ms : Nat} {P : PO} (hM : FM p l s m args meth c D cA 1 ad0 n0 sz cX10_hasNext RX10 (some .boolean) [] yX10_hasNext.name) : ∀ q ∈ tX10_hasNext d mc ms P, Snd (jM p l e s m args below meth c D cA 1 ad0 n0 sz (d + 1) mc ms P) q.1 q.2 := by
  have hF := hM.1
  have hts := hF.2.2.2.2.1
  unfold tX10_hasNext
  refine fmS (snd_aloadn hF (k := 0) rfl (by decide +kernel)) ?_
  refine fmS (snd_aloadn hF (k := 0) rfl (by decide +kernel)) ?_
  refine fmS (snd_geti hF okX10 (k := 34) (by decide) qw1138 rfl rfl (by decide +kernel)) ?_
  refine fmS (snd_if_ge hF (off := 7) (by decide) (by decide +kernel)) ?_
  refine fmS (snd_iconst hF (n := 1) rfl (by decide +kernel)) ?_
  refine fmS (snd_goto hF (off := 4) (by decide) (by decide +kernel)) ?_
  refine fmS (snd_iconst hF (n := 0) rfl (by decide +kernel)) ?_
  refine fmS (snd_puti hF okX10 (k := 0) (by decide) qw1104 rfl rfl rfl rfl (by decide +kernel)) ?_
  refine fmS (snd_aloadn hF (k := 0) rfl (by decide +kernel)) ?_
  refine fmS (snd_geti hF okX10 (k := 0) (by decide) qw1104 rfl rfl (by decide +kernel)) ?_
  refine fmS (snd_if_ne hF (off := 23) (by decide) (by decide +kernel)) ?_
  refine fmS (snd_aloadn hF (k := 0) rfl (by decide +kernel)) ?_
  refine fmS (snd_geti hF okX10 (k := 34) (by decide) qw1138 rfl rfl (by decide +kernel)) ?_
  refine fmS (snd_aloadn hF (k := 0) rfl (by decide +kernel)) ?_
  refine fmS (snd_getr hF okX10 (k := 21) (by decide) qw1125 rfl rfl (by decide +kernel)) ?_
  refine fmS (snd_aloadn hF (k := 0) rfl (by decide +kernel)) ?_
  refine fmS (snd_geti hF okX10 (k := 35) (by decide) qw1139 rfl rfl (by decide +kernel)) ?_
  refine fmS (snd_iaload hF (by decide +kernel)) ?_
  refine fmS (snd_icmp_ge hF (off := 7) (by decide) (by decide +kernel)) ?_
  refine fmS (snd_iconst hF (n := 1) rfl (by decide +kernel)) ?_
  refine fmS (snd_goto hF (off := 4) (by decide) (by decide +kernel)) ?_
  refine fmS (snd_iconst hF (n := 0) rfl (by decide +kernel)) ?_
  refine fmS (snd_retZ hM (by decide +kernel)) ?_
  exact fmE
theorem iX10_hasNext {d mc ms n : Nat} {av : List Value} {M : PM} {P : PO} (hw : wid av ≤ 1) (hb : ∀ J : KT, (∀ (k : Nat) (stops : Nat → Bool) (pc : Nat) (lv : LV) (st : List Value) (nn : NN) (M : PM), lk (tX10_hasNext d mc ms P) pc (wpN (tX10_hasNext d mc ms P) stops k J) lv st nn M → J pc lv st nn M) → J 0 (entA 0 av) [] (n, 0, 0) M) : CallOK (d + 1) mc ms yX10_hasNext (Cond.code yX10_hasNext cX10_hasNext 1 (some .boolean)) av n M P := call_intro (own := RX10) (by decide) rfl hw (fun _ _ _ _ _ _ _ _ _ _ _ _ _ hM => sX10_hasNext hM) hb
def tX10_next (d mc ms : Nat) (P : PO) : List (Nat × OP) := [(0, oAld 0 1), (1, oPush (.int 0) 2), (2, oPi 10 0 5), (5, oAld 0 6), (6, oGi 10 34 9), (9, oIf (fun x => 0 ≤ x) 18 12), (12, oAld 0 13), (13, oPush (.int 1) 14), (14, oCallV d mc ms P 0 0 yX10_raises (Cond.code yX10_raises cX10_raises 2 (some .int)) 1 10 17), (17, oRetI mc ms P), (18, oAld 0 19), (19, oGi 10 34 22), (22, oAld 0 23), (23, oGr 10 21 26), (26, oAld 0 27), (27, oGi 10 35 30), (30, oAi 100 31), (31, oIc (fun x y => y ≤ x) 56 34), (34, oAld 0 35), (35, oAld 0 36), (36, oGi 10 35 39), (39, oAld 0 40), (40, oDup 41), (41, oGi 10 34 44), (44, oDupx1 45), (45, oPush (.int 1) 46), (46, oI2 (fun x y => x + y) 47), (47, oPi 10 34 50), (50, oCallV d mc ms P 0 0 yX10_part (Cond.code yX10_part cX10_part 3 (some .int)) 2 10 53), (53, oGoto 61), (56, oAld 0 57), (57, oPush (.int 2) 58), (58, oCallV d mc ms P 0 0 yX10_raises (Cond.code yX10_raises cX10_raises 2 (some .int)) 1 10 61), (61, oRetI mc ms P)]
set_option maxRecDepth 20000 in
theorem sX10_next {p : Program} {l : Launch} {e : Env} {s : State} {m : MethodId} {args : Array Value} {below : List Frame} {meth : Method} {c : Code} {D : va_G} {cA : Nat → ClassId} {ad0 : Nat → Nat} {n0 sz d mc ms : Nat} {P : PO} (hM : FM p l s m args meth c D cA 1 ad0 n0 sz cX10_next RX10 (some .int) [] yX10_next.name) : ∀ q ∈ tX10_next d mc ms P, Snd (jM p l e s m args below meth c D cA 1 ad0 n0 sz (d + 1) mc ms P) q.1 q.2 := by
  have hF := hM.1
  have hts := hF.2.2.2.2.1
  unfold tX10_next
  refine fmS (snd_aloadn hF (k := 0) rfl (by decide +kernel)) ?_
  refine fmS (snd_iconst hF (n := 0) rfl (by decide +kernel)) ?_
  refine fmS (snd_puti hF okX10 (k := 0) (by decide) qw1104 rfl rfl rfl rfl (by decide +kernel)) ?_
  refine fmS (snd_aloadn hF (k := 0) rfl (by decide +kernel)) ?_
  refine fmS (snd_geti hF okX10 (k := 34) (by decide) qw1138 rfl rfl (by decide +kernel)) ?_
  refine fmS (snd_if_ge hF (off := 9) (by decide) (by decide +kernel)) ?_
  refine fmS (snd_aloadn hF (k := 0) rfl (by decide +kernel)) ?_
  refine fmS (snd_iconst hF (n := 1) rfl (by decide +kernel)) ?_
  refine fmS (snd_callV hM k_X10_raises okX10 qw1221 qw1223 (hts _ qw35) (by decide +kernel)) ?_
  refine fmS (snd_retI hM (by decide +kernel)) ?_
  refine fmS (snd_aloadn hF (k := 0) rfl (by decide +kernel)) ?_
  refine fmS (snd_geti hF okX10 (k := 34) (by decide) qw1138 rfl rfl (by decide +kernel)) ?_
  refine fmS (snd_aloadn hF (k := 0) rfl (by decide +kernel)) ?_
  refine fmS (snd_getr hF okX10 (k := 21) (by decide) qw1125 rfl rfl (by decide +kernel)) ?_
  refine fmS (snd_aloadn hF (k := 0) rfl (by decide +kernel)) ?_
  refine fmS (snd_geti hF okX10 (k := 35) (by decide) qw1139 rfl rfl (by decide +kernel)) ?_
  refine fmS (snd_iaload hF (by decide +kernel)) ?_
  refine fmS (snd_icmp_ge hF (off := 25) (by decide) (by decide +kernel)) ?_
  refine fmS (snd_aloadn hF (k := 0) rfl (by decide +kernel)) ?_
  refine fmS (snd_aloadn hF (k := 0) rfl (by decide +kernel)) ?_
  refine fmS (snd_geti hF okX10 (k := 35) (by decide) qw1139 rfl rfl (by decide +kernel)) ?_
  refine fmS (snd_aloadn hF (k := 0) rfl (by decide +kernel)) ?_
  refine fmS (snd_dup hF (by decide +kernel)) ?_
  refine fmS (snd_geti hF okX10 (k := 34) (by decide) qw1138 rfl rfl (by decide +kernel)) ?_
  refine fmS (snd_dupx1 hF (by decide +kernel)) ?_
  refine fmS (snd_iconst hF (n := 1) rfl (by decide +kernel)) ?_
  refine fmS (snd_iadd hF (by decide +kernel)) ?_
  refine fmS (snd_puti hF okX10 (k := 34) (by decide) qw1138 rfl rfl rfl rfl (by decide +kernel)) ?_
  refine fmS (snd_callV hM k_X10_part okX10 qw1352 qw1354 (hts _ qw55) (by decide +kernel)) ?_
  refine fmS (snd_goto hF (off := 8) (by decide) (by decide +kernel)) ?_
  refine fmS (snd_aloadn hF (k := 0) rfl (by decide +kernel)) ?_
  refine fmS (snd_iconst hF (n := 2) rfl (by decide +kernel)) ?_
  refine fmS (snd_callV hM k_X10_raises okX10 qw1221 qw1223 (hts _ qw35) (by decide +kernel)) ?_
  refine fmS (snd_retI hM (by decide +kernel)) ?_
  exact fmE
theorem iX10_next {d mc ms n : Nat} {av : List Value} {M : PM} {P : PO} (hw : wid av ≤ 1) (hb : ∀ J : KT, (∀ (k : Nat) (stops : Nat → Bool) (pc : Nat) (lv : LV) (st : List Value) (nn : NN) (M : PM), lk (tX10_next d mc ms P) pc (wpN (tX10_next d mc ms P) stops k J) lv st nn M → J pc lv st nn M) → J 0 (entA 0 av) [] (n, 0, 0) M) : CallOK (d + 1) mc ms yX10_next (Cond.code yX10_next cX10_next 1 (some .int)) av n M P := call_intro (own := RX10) (by decide) rfl hw (fun _ _ _ _ _ _ _ _ _ _ _ _ _ hM => sX10_next hM) hb
def tX10_parallel (d mc ms : Nat) (P : PO) : List (Nat × OP) := [(0, oPush (.int 0) 1), (1, oIst 1 2), (2, oIld 1 3), (3, oPush (.int 8) 5), (5, oIc (fun x y => y ≤ x) 25 8), (8, oAld 0 9), (9, oIld 1 10), (10, oCallV d mc ms P 0 0 yX10_kinds (Cond.code yX10_kinds cX10_kinds 4 (some .int)) 1 10 13), (13, oPush (.int 2) 14), (14, oIc (fun x y => x ≤ y) 19 17), (17, oPush (.int 0) 18), (18, oRetZ mc ms P), (19, oInc 1 1 22), (22, oGoto 2), (25, oPush (.int 1) 26), (26, oRetZ mc ms P)]
set_option maxRecDepth 20000 in
theorem sX10_parallel {p : Program} {l : Launch} {e : Env} {s : State} {m : MethodId} {args : Array Value} {below : List Frame} {meth : Method} {c : Code} {D : va_G} {cA : Nat → ClassId} {ad0 : Nat → Nat} {n0 sz d mc ms : Nat} {P : PO} (hM : FM p l s m args meth c D cA 2 ad0 n0 sz cX10_parallel RX10 (some .boolean) [] yX10_parallel.name) : ∀ q ∈ tX10_parallel d mc ms P, Snd (jM p l e s m args below meth c D cA 2 ad0 n0 sz (d + 1) mc ms P) q.1 q.2 := by
  have hF := hM.1
  have hts := hF.2.2.2.2.1
  unfold tX10_parallel
  refine fmS (snd_iconst hF (n := 0) rfl (by decide +kernel)) ?_
  refine fmS (snd_istoren hF (k := 1) rfl (by decide) (by decide +kernel)) ?_
  refine fmS (snd_iloadn hF (k := 1) rfl (by decide +kernel)) ?_
  refine fmS (snd_bipush hF (n := 8) (by decide +kernel) (by decide +kernel)) ?_
  refine fmS (snd_icmp_ge hF (off := 20) (by decide) (by decide +kernel)) ?_
  refine fmS (snd_aloadn hF (k := 0) rfl (by decide +kernel)) ?_
  refine fmS (snd_iloadn hF (k := 1) rfl (by decide +kernel)) ?_
  refine fmS (snd_callV hM k_X10_kinds okX10 qw1336 qw1338 (hts _ qw51) (by decide +kernel)) ?_
  refine fmS (snd_iconst hF (n := 2) rfl (by decide +kernel)) ?_
  refine fmS (snd_icmp_le hF (off := 5) (by decide) (by decide +kernel)) ?_
  refine fmS (snd_iconst hF (n := 0) rfl (by decide +kernel)) ?_
  refine fmS (snd_retZ hM (by decide +kernel)) ?_
  refine fmS (snd_iinc hF (n := 1) (by decide +kernel) (by decide) (by decide +kernel)) ?_
  refine fmS (snd_goto hF (off := (-20)) (by decide) (by decide +kernel)) ?_
  refine fmS (snd_iconst hF (n := 1) rfl (by decide +kernel)) ?_
  refine fmS (snd_retZ hM (by decide +kernel)) ?_
  exact fmE
theorem iX10_parallel {d mc ms n : Nat} {av : List Value} {M : PM} {P : PO} (hw : wid av ≤ 2) (hb : ∀ J : KT, (∀ (k : Nat) (stops : Nat → Bool) (pc : Nat) (lv : LV) (st : List Value) (nn : NN) (M : PM), lk (tX10_parallel d mc ms P) pc (wpN (tX10_parallel d mc ms P) stops k J) lv st nn M → J pc lv st nn M) → J 0 (entA 0 av) [] (n, 0, 0) M) : CallOK (d + 1) mc ms yX10_parallel (Cond.code yX10_parallel cX10_parallel 2 (some .boolean)) av n M P := call_intro (own := RX10) (by decide) rfl hw (fun _ _ _ _ _ _ _ _ _ _ _ _ _ hM => sX10_parallel hM) hb
def tX10_isParallel (d mc ms : Nat) (P : PO) : List (Nat × OP) := [(0, oAld 0 1), (1, oPush (.int 0) 2), (2, oPi 10 0 5), (5, oAld 0 6), (6, oCallV d mc ms P 0 0 yX10_parallel (Cond.code yX10_parallel cX10_parallel 2 (some .boolean)) 0 10 9), (9, oRetZ mc ms P)]
set_option maxRecDepth 20000 in
theorem sX10_isParallel {p : Program} {l : Launch} {e : Env} {s : State} {m : MethodId} {args : Array Value} {below : List Frame} {meth : Method} {c : Code} {D : va_G} {cA : Nat → ClassId} {ad0 : Nat → Nat} {n0 sz d mc ms : Nat} {P : PO} (hM : FM p l s m args meth c D cA 1 ad0 n0 sz cX10_isParallel RX10 (some .boolean) [] yX10_isParallel.name) : ∀ q ∈ tX10_isParallel d mc ms P, Snd (jM p l e s m args below meth c D cA 1 ad0 n0 sz (d + 1) mc ms P) q.1 q.2 := by
  have hF := hM.1
  have hts := hF.2.2.2.2.1
  unfold tX10_isParallel
  refine fmS (snd_aloadn hF (k := 0) rfl (by decide +kernel)) ?_
  refine fmS (snd_iconst hF (n := 0) rfl (by decide +kernel)) ?_
  refine fmS (snd_puti hF okX10 (k := 0) (by decide) qw1104 rfl rfl rfl rfl (by decide +kernel)) ?_
  refine fmS (snd_aloadn hF (k := 0) rfl (by decide +kernel)) ?_
  refine fmS (snd_callV hM k_X10_parallel okX10 qw1417 qw1419 (hts _ qw62) (by decide +kernel)) ?_
  refine fmS (snd_retZ hM (by decide +kernel)) ?_
  exact fmE
theorem iX10_isParallel {d mc ms n : Nat} {av : List Value} {M : PM} {P : PO} (hw : wid av ≤ 1) (hb : ∀ J : KT, (∀ (k : Nat) (stops : Nat → Bool) (pc : Nat) (lv : LV) (st : List Value) (nn : NN) (M : PM), lk (tX10_isParallel d mc ms P) pc (wpN (tX10_isParallel d mc ms P) stops k J) lv st nn M → J pc lv st nn M) → J 0 (entA 0 av) [] (n, 0, 0) M) : CallOK (d + 1) mc ms yX10_isParallel (Cond.code yX10_isParallel cX10_isParallel 1 (some .boolean)) av n M P := call_intro (own := RX10) (by decide) rfl hw (fun _ _ _ _ _ _ _ _ _ _ _ _ _ hM => sX10_isParallel hM) hb
def tX10_isExact (d mc ms : Nat) (P : PO) : List (Nat × OP) := [(0, oAld 0 1), (1, oIld 1 2), (2, oCallS d mc ms P 0 0 yX10_isVariable (Cond.code yX10_isVariable cX10_isVariable 1 (some .boolean)) 1 5), (5, oIf (fun x => x = 0) 12 8), (8, oPush (.int 0) 9), (9, oGoto 13), (12, oPush (.int 1) 13), (13, oPi 10 0 16), (16, oAld 0 17), (17, oGi 10 0 20), (20, oIf (fun x => x ≤ 0) 25 23), (23, oPush (.int 0) 24), (24, oRetZ mc ms P), (25, oAld 0 26), (26, oIld 1 27), (27, oCallV d mc ms P 0 0 yX10_kinds (Cond.code yX10_kinds cX10_kinds 4 (some .int)) 1 10 30), (30, oIst 2 31), (31, oIld 2 32), (32, oPush (.int 2) 33), (33, oIc (fun x y => x < y) 59 36), (36, oIld 2 37), (37, oPush (.int 2) 38), (38, oIc (fun x y => x = y) 41 63), (41, oAld 0 42), (42, oGr 10 1 45), (45, oPush (.int 1) 46), (46, oAi 100 47), (47, oIf (fun x => x = 0) 59 50), (50, oAld 0 51), (51, oIld 1 52), (52, oCallV d mc ms P 0 0 yX10_operatorOf (Cond.code yX10_operatorOf cX10_operatorOf 3 (some .int)) 1 10 55), (55, oPush (.int 4) 56), (56, oIc (fun x y => x ≤ y) 63 59), (59, oPush (.int 1) 60), (60, oGoto 64), (63, oPush (.int 0) 64), (64, oRetZ mc ms P)]
set_option maxRecDepth 20000 in
theorem sX10_isExact {p : Program} {l : Launch} {e : Env} {s : State} {m : MethodId} {args : Array Value} {below : List Frame} {meth : Method} {c : Code} {D : va_G} {cA : Nat → ClassId} {ad0 : Nat → Nat} {n0 sz d mc ms : Nat} {P : PO} (hM : FM p l s m args meth c D cA 3 ad0 n0 sz cX10_isExact RX10 (some .boolean) [] yX10_isExact.name) : ∀ q ∈ tX10_isExact d mc ms P, Snd (jM p l e s m args below meth c D cA 3 ad0 n0 sz (d + 1) mc ms P) q.1 q.2 := by
  have hF := hM.1
  have hts := hF.2.2.2.2.1
  unfold tX10_isExact
  refine fmS (snd_aloadn hF (k := 0) rfl (by decide +kernel)) ?_
  refine fmS (snd_iloadn hF (k := 1) rfl (by decide +kernel)) ?_
  refine fmS (snd_callS hM k_X10_isVariable qw1329 qw1330 (by decide +kernel)) ?_
  refine fmS (snd_if_eq hF (off := 7) (by decide) (by decide +kernel)) ?_
  refine fmS (snd_iconst hF (n := 0) rfl (by decide +kernel)) ?_
  refine fmS (snd_goto hF (off := 4) (by decide) (by decide +kernel)) ?_
  refine fmS (snd_iconst hF (n := 1) rfl (by decide +kernel)) ?_
  refine fmS (snd_puti hF okX10 (k := 0) (by decide) qw1104 rfl rfl rfl rfl (by decide +kernel)) ?_
  refine fmS (snd_aloadn hF (k := 0) rfl (by decide +kernel)) ?_
  refine fmS (snd_geti hF okX10 (k := 0) (by decide) qw1104 rfl rfl (by decide +kernel)) ?_
  refine fmS (snd_if_le hF (off := 5) (by decide) (by decide +kernel)) ?_
  refine fmS (snd_iconst hF (n := 0) rfl (by decide +kernel)) ?_
  refine fmS (snd_retZ hM (by decide +kernel)) ?_
  refine fmS (snd_aloadn hF (k := 0) rfl (by decide +kernel)) ?_
  refine fmS (snd_iloadn hF (k := 1) rfl (by decide +kernel)) ?_
  refine fmS (snd_callV hM k_X10_kinds okX10 qw1336 qw1338 (hts _ qw51) (by decide +kernel)) ?_
  refine fmS (snd_istoren hF (k := 2) rfl (by decide) (by decide +kernel)) ?_
  refine fmS (snd_iloadn hF (k := 2) rfl (by decide +kernel)) ?_
  refine fmS (snd_iconst hF (n := 2) rfl (by decide +kernel)) ?_
  refine fmS (snd_icmp_lt hF (off := 26) (by decide) (by decide +kernel)) ?_
  refine fmS (snd_iloadn hF (k := 2) rfl (by decide +kernel)) ?_
  refine fmS (snd_iconst hF (n := 2) rfl (by decide +kernel)) ?_
  refine fmS (snd_icmp_ne hF (off := 25) (by decide) (by decide +kernel)) ?_
  refine fmS (snd_aloadn hF (k := 0) rfl (by decide +kernel)) ?_
  refine fmS (snd_getr hF okX10 (k := 1) (by decide) qw1105 rfl rfl (by decide +kernel)) ?_
  refine fmS (snd_iconst hF (n := 1) rfl (by decide +kernel)) ?_
  refine fmS (snd_iaload hF (by decide +kernel)) ?_
  refine fmS (snd_if_eq hF (off := 12) (by decide) (by decide +kernel)) ?_
  refine fmS (snd_aloadn hF (k := 0) rfl (by decide +kernel)) ?_
  refine fmS (snd_iloadn hF (k := 1) rfl (by decide +kernel)) ?_
  refine fmS (snd_callV hM k_X10_operatorOf okX10 qw1356 qw1358 (hts _ qw56) (by decide +kernel)) ?_
  refine fmS (snd_iconst hF (n := 4) rfl (by decide +kernel)) ?_
  refine fmS (snd_icmp_le hF (off := 7) (by decide) (by decide +kernel)) ?_
  refine fmS (snd_iconst hF (n := 1) rfl (by decide +kernel)) ?_
  refine fmS (snd_goto hF (off := 4) (by decide) (by decide +kernel)) ?_
  refine fmS (snd_iconst hF (n := 0) rfl (by decide +kernel)) ?_
  refine fmS (snd_retZ hM (by decide +kernel)) ?_
  exact fmE
theorem iX10_isExact {d mc ms n : Nat} {av : List Value} {M : PM} {P : PO} (hw : wid av ≤ 3) (hb : ∀ J : KT, (∀ (k : Nat) (stops : Nat → Bool) (pc : Nat) (lv : LV) (st : List Value) (nn : NN) (M : PM), lk (tX10_isExact d mc ms P) pc (wpN (tX10_isExact d mc ms P) stops k J) lv st nn M → J pc lv st nn M) → J 0 (entA 0 av) [] (n, 0, 0) M) : CallOK (d + 1) mc ms yX10_isExact (Cond.code yX10_isExact cX10_isExact 3 (some .boolean)) av n M P := call_intro (own := RX10) (by decide) rfl hw (fun _ _ _ _ _ _ _ _ _ _ _ _ _ hM => sX10_isExact hM) hb
def tX10_intBy (d mc ms : Nat) (P : PO) : List (Nat × OP) := [(0, oIld 0 1), (1, oSw [(0, 44), (1, 48), (2, 52), (3, 56), (4, 60), (5, 64), (6, 75)] 86), (44, oIld 1 45), (45, oIld 2 46), (46, oI2 (fun x y => x + y) 47), (47, oRetI mc ms P), (48, oIld 1 49), (49, oIld 2 50), (50, oI2 (fun x y => x * y) 51), (51, oRetI mc ms P), (52, oIld 1 53), (53, oIld 2 54), (54, oI2 (fun x y => x &&& y) 55), (55, oRetI mc ms P), (56, oIld 1 57), (57, oIld 2 58), (58, oI2 (fun x y => x ||| y) 59), (59, oRetI mc ms P), (60, oIld 1 61), (61, oIld 2 62), (62, oI2 (fun x y => x ^^^ y) 63), (63, oRetI mc ms P), (64, oIld 1 65), (65, oIld 2 66), (66, oIc (fun x y => y ≤ x) 73 69), (69, oIld 1 70), (70, oGoto 74), (73, oIld 2 74), (74, oRetI mc ms P), (75, oIld 1 76), (76, oIld 2 77), (77, oIc (fun x y => x ≤ y) 84 80), (80, oIld 1 81), (81, oGoto 85), (84, oIld 2 85), (85, oRetI mc ms P), (86, oIld 1 87), (87, oIld 2 88), (88, oI2 (fun x y => x - y) 89), (89, oRetI mc ms P)]
set_option maxRecDepth 20000 in
theorem sX10_intBy {p : Program} {l : Launch} {e : Env} {s : State} {m : MethodId} {args : Array Value} {below : List Frame} {meth : Method} {c : Code} {D : va_G} {cA : Nat → ClassId} {ad0 : Nat → Nat} {n0 sz d mc ms : Nat} {P : PO} (hM : FM p l s m args meth c D cA 3 ad0 n0 sz cX10_intBy RX10 (some .int) [] yX10_intBy.name) : ∀ q ∈ tX10_intBy d mc ms P, Snd (jM p l e s m args below meth c D cA 3 ad0 n0 sz (d + 1) mc ms P) q.1 q.2 := by
  have hF := hM.1
  have hts := hF.2.2.2.2.1
  unfold tX10_intBy
  refine fmS (snd_iloadn hF (k := 0) rfl (by decide +kernel)) ?_
  refine fmS (snd_tsw hF (lo := 0) (hi := 6) (dflt := 85) (offs := #[43, 47, 51, 55, 59, 63, 74]) (len := 43) (by decide +kernel) (by decide +kernel)) ?_
  refine fmS (snd_iloadn hF (k := 1) rfl (by decide +kernel)) ?_
  refine fmS (snd_iloadn hF (k := 2) rfl (by decide +kernel)) ?_
  refine fmS (snd_iadd hF (by decide +kernel)) ?_
  refine fmS (snd_retI hM (by decide +kernel)) ?_
  refine fmS (snd_iloadn hF (k := 1) rfl (by decide +kernel)) ?_
  refine fmS (snd_iloadn hF (k := 2) rfl (by decide +kernel)) ?_
  refine fmS (snd_imul hF (by decide +kernel)) ?_
  refine fmS (snd_retI hM (by decide +kernel)) ?_
  refine fmS (snd_iloadn hF (k := 1) rfl (by decide +kernel)) ?_
  refine fmS (snd_iloadn hF (k := 2) rfl (by decide +kernel)) ?_
  refine fmS (snd_iand hF (by decide +kernel)) ?_
  refine fmS (snd_retI hM (by decide +kernel)) ?_
  refine fmS (snd_iloadn hF (k := 1) rfl (by decide +kernel)) ?_
  refine fmS (snd_iloadn hF (k := 2) rfl (by decide +kernel)) ?_
  refine fmS (snd_ior hF (by decide +kernel)) ?_
  refine fmS (snd_retI hM (by decide +kernel)) ?_
  refine fmS (snd_iloadn hF (k := 1) rfl (by decide +kernel)) ?_
  refine fmS (snd_iloadn hF (k := 2) rfl (by decide +kernel)) ?_
  refine fmS (snd_ixor hF (by decide +kernel)) ?_
  refine fmS (snd_retI hM (by decide +kernel)) ?_
  refine fmS (snd_iloadn hF (k := 1) rfl (by decide +kernel)) ?_
  refine fmS (snd_iloadn hF (k := 2) rfl (by decide +kernel)) ?_
  refine fmS (snd_icmp_ge hF (off := 7) (by decide) (by decide +kernel)) ?_
  refine fmS (snd_iloadn hF (k := 1) rfl (by decide +kernel)) ?_
  refine fmS (snd_goto hF (off := 4) (by decide) (by decide +kernel)) ?_
  refine fmS (snd_iloadn hF (k := 2) rfl (by decide +kernel)) ?_
  refine fmS (snd_retI hM (by decide +kernel)) ?_
  refine fmS (snd_iloadn hF (k := 1) rfl (by decide +kernel)) ?_
  refine fmS (snd_iloadn hF (k := 2) rfl (by decide +kernel)) ?_
  refine fmS (snd_icmp_le hF (off := 7) (by decide) (by decide +kernel)) ?_
  refine fmS (snd_iloadn hF (k := 1) rfl (by decide +kernel)) ?_
  refine fmS (snd_goto hF (off := 4) (by decide) (by decide +kernel)) ?_
  refine fmS (snd_iloadn hF (k := 2) rfl (by decide +kernel)) ?_
  refine fmS (snd_retI hM (by decide +kernel)) ?_
  refine fmS (snd_iloadn hF (k := 1) rfl (by decide +kernel)) ?_
  refine fmS (snd_iloadn hF (k := 2) rfl (by decide +kernel)) ?_
  refine fmS (snd_isub hF (by decide +kernel)) ?_
  refine fmS (snd_retI hM (by decide +kernel)) ?_
  exact fmE
theorem iX10_intBy {d mc ms n : Nat} {av : List Value} {M : PM} {P : PO} (hw : wid av ≤ 3) (hb : ∀ J : KT, (∀ (k : Nat) (stops : Nat → Bool) (pc : Nat) (lv : LV) (st : List Value) (nn : NN) (M : PM), lk (tX10_intBy d mc ms P) pc (wpN (tX10_intBy d mc ms P) stops k J) lv st nn M → J pc lv st nn M) → J 0 (entA 0 av) [] (n, 0, 0) M) : CallOK (d + 1) mc ms yX10_intBy (Cond.code yX10_intBy cX10_intBy 3 (some .int)) av n M P := call_intro (own := RX10) (by decide) rfl hw (fun _ _ _ _ _ _ _ _ _ _ _ _ _ hM => sX10_intBy hM) hb
def tX10_bounded (d mc ms : Nat) (P : PO) : List (Nat × OP) := [(0, oFld 0 1), (1, oPush (.float 1900671690) 3), (3, oFcmp .l 4), (4, oIf (fun x => x ≤ 0) 12 7), (7, oPush (.float 1900671690) 9), (9, oGoto 25), (12, oFld 0 13), (13, oPush (.float 4048155338) 15), (15, oFcmp .g 16), (16, oIf (fun x => 0 ≤ x) 24 19), (19, oPush (.float 4048155338) 21), (21, oGoto 25), (24, oFld 0 25), (25, oRetF mc ms P)]
set_option maxRecDepth 20000 in
theorem sX10_bounded {p : Program} {l : Launch} {e : Env} {s : State} {m : MethodId} {args : Array Value} {below : List Frame} {meth : Method} {c : Code} {D : va_G} {cA : Nat → ClassId} {ad0 : Nat → Nat} {n0 sz d mc ms : Nat} {P : PO} (hM : FM p l s m args meth c D cA 1 ad0 n0 sz cX10_bounded RX10 (some .float) [] yX10_bounded.name) : ∀ q ∈ tX10_bounded d mc ms P, Snd (jM p l e s m args below meth c D cA 1 ad0 n0 sz (d + 1) mc ms P) q.1 q.2 := by
  have hF := hM.1
  have hts := hF.2.2.2.2.1
  unfold tX10_bounded
  refine fmS (snd_floadn hF (k := 0) rfl (by decide +kernel)) ?_
  refine fmS (snd_ldcf hF qw1465 (by decide +kernel)) ?_
  refine fmS (snd_fcmp hF (by decide +kernel)) ?_
  refine fmS (snd_if_le hF (off := 8) (by decide) (by decide +kernel)) ?_
  refine fmS (snd_ldcf hF qw1465 (by decide +kernel)) ?_
  refine fmS (snd_goto hF (off := 16) (by decide) (by decide +kernel)) ?_
  refine fmS (snd_floadn hF (k := 0) rfl (by decide +kernel)) ?_
  refine fmS (snd_ldcf hF qw1466 (by decide +kernel)) ?_
  refine fmS (snd_fcmp hF (by decide +kernel)) ?_
  refine fmS (snd_if_ge hF (off := 8) (by decide) (by decide +kernel)) ?_
  refine fmS (snd_ldcf hF qw1466 (by decide +kernel)) ?_
  refine fmS (snd_goto hF (off := 4) (by decide) (by decide +kernel)) ?_
  refine fmS (snd_floadn hF (k := 0) rfl (by decide +kernel)) ?_
  refine fmS (snd_retF hM (by decide +kernel)) ?_
  exact fmE
theorem iX10_bounded {d mc ms n : Nat} {av : List Value} {M : PM} {P : PO} (hw : wid av ≤ 1) (hb : ∀ J : KT, (∀ (k : Nat) (stops : Nat → Bool) (pc : Nat) (lv : LV) (st : List Value) (nn : NN) (M : PM), lk (tX10_bounded d mc ms P) pc (wpN (tX10_bounded d mc ms P) stops k J) lv st nn M → J pc lv st nn M) → J 0 (entA 0 av) [] (n, 0, 0) M) : CallOK (d + 1) mc ms yX10_bounded (Cond.code yX10_bounded cX10_bounded 1 (some .float)) av n M P := call_intro (own := RX10) (by decide) rfl hw (fun _ _ _ _ _ _ _ _ _ _ _ _ _ hM => sX10_bounded hM) hb
def tX10_intAt (d mc ms : Nat) (P : PO) : List (Nat × OP) := [(0, oAld 0 1), (1, oGr 10 1 4), (4, oAld 0 5), (5, oDup 6), (6, oGi 10 24 9), (9, oDupx1 10), (10, oPush (.int 1) 11), (11, oI2 (fun x y => x + y) 12), (12, oPi 10 24 15), (15, oAi 100 16), (16, oIst 2 17), (17, oIld 2 18), (18, oPush (.int 100) 20), (20, oIc (fun x y => y ≤ x) 25 23), (23, oIld 2 24), (24, oRetI mc ms P), (25, oIld 2 26), (26, oPush (.int 200) 29), (29, oIc (fun x y => y ≤ x) 42 32), (32, oAld 0 33), (33, oGr 10 25 36), (36, oIld 2 37), (37, oPush (.int 100) 39), (39, oI2 (fun x y => x - y) 40), (40, oAi 100 41), (41, oRetI mc ms P), (42, oIld 2 43), (43, oPush (.int 300) 46), (46, oIc (fun x y => y ≤ x) 68 49), (49, oAld 0 50), (50, oGr 10 1 53), (53, oPush (.int 19) 55), (55, oPush (.int 16) 57), (57, oIld 2 58), (58, oPush (.int 200) 61), (61, oI2 (fun x y => x - y) 62), (62, oI2 (fun x y => x * y) 63), (63, oI2 (fun x y => x + y) 64), (64, oIld 1 65), (65, oI2 (fun x y => x + y) 66), (66, oAi 100 67), (67, oRetI mc ms P), (68, oAld 0 69), (69, oIld 1 70), (70, oCallV d mc ms P 0 0 yX10_intAt (Cond.code yX10_intAt cX10_intAt 6 (some .int)) 1 10 73), (73, oIst 3 74), (74, oAld 0 75), (75, oIld 1 76), (76, oCallV d mc ms P 0 0 yX10_intAt (Cond.code yX10_intAt cX10_intAt 6 (some .int)) 1 10 79), (79, oIst 4 81), (81, oIld 2 82), (82, oPush (.int 308) 85), (85, oIc (fun x y => y ≤ x) 100 88), (88, oIld 2 89), (89, oPush (.int 300) 92), (92, oI2 (fun x y => x - y) 93), (93, oIld 3 94), (94, oIld 4 96), (96, oCallS d mc ms P 0 0 yX10_intBy (Cond.code yX10_intBy cX10_intBy 3 (some .int)) 3 99), (99, oRetI mc ms P), (100, oAld 0 101), (101, oIld 1 102), (102, oCallV d mc ms P 0 0 yX10_intAt (Cond.code yX10_intAt cX10_intAt 6 (some .int)) 1 10 105), (105, oIst 5 107), (107, oIld 3 108), (108, oIf (fun x => x ≤ 0) 116 111), (111, oIld 4 113), (113, oGoto 118), (116, oIld 5 118), (118, oRetI mc ms P)]
set_option maxRecDepth 20000 in
theorem sX10_intAt {p : Program} {l : Launch} {e : Env} {s : State} {m : MethodId} {args : Array Value} {below : List Frame} {meth : Method} {c : Code} {D : va_G} {cA : Nat → ClassId} {ad0 : Nat → Nat} {n0 sz d mc ms : Nat} {P : PO} (hM : FM p l s m args meth c D cA 6 ad0 n0 sz cX10_intAt RX10 (some .int) [] yX10_intAt.name) : ∀ q ∈ tX10_intAt d mc ms P, Snd (jM p l e s m args below meth c D cA 6 ad0 n0 sz (d + 1) mc ms P) q.1 q.2 := by
  have hF := hM.1
  have hts := hF.2.2.2.2.1
  unfold tX10_intAt
  refine fmS (snd_aloadn hF (k := 0) rfl (by decide +kernel)) ?_
  refine fmS (snd_getr hF okX10 (k := 1) (by decide) qw1105 rfl rfl (by decide +kernel)) ?_
  refine fmS (snd_aloadn hF (k := 0) rfl (by decide +kernel)) ?_
  refine fmS (snd_dup hF (by decide +kernel)) ?_
  refine fmS (snd_geti hF okX10 (k := 24) (by decide) qw1128 rfl rfl (by decide +kernel)) ?_
  refine fmS (snd_dupx1 hF (by decide +kernel)) ?_
  refine fmS (snd_iconst hF (n := 1) rfl (by decide +kernel)) ?_
  refine fmS (snd_iadd hF (by decide +kernel)) ?_
  refine fmS (snd_puti hF okX10 (k := 24) (by decide) qw1128 rfl rfl rfl rfl (by decide +kernel)) ?_
  refine fmS (snd_iaload hF (by decide +kernel)) ?_
  refine fmS (snd_istoren hF (k := 2) rfl (by decide) (by decide +kernel)) ?_
  refine fmS (snd_iloadn hF (k := 2) rfl (by decide +kernel)) ?_
  refine fmS (snd_bipush hF (n := 100) (by decide +kernel) (by decide +kernel)) ?_
  refine fmS (snd_icmp_ge hF (off := 5) (by decide) (by decide +kernel)) ?_
  refine fmS (snd_iloadn hF (k := 2) rfl (by decide +kernel)) ?_
  refine fmS (snd_retI hM (by decide +kernel)) ?_
  refine fmS (snd_iloadn hF (k := 2) rfl (by decide +kernel)) ?_
  refine fmS (snd_sipush hF (n := 200) (by decide +kernel) (by decide +kernel)) ?_
  refine fmS (snd_icmp_ge hF (off := 13) (by decide) (by decide +kernel)) ?_
  refine fmS (snd_aloadn hF (k := 0) rfl (by decide +kernel)) ?_
  refine fmS (snd_getr hF okX10 (k := 25) (by decide) qw1129 rfl rfl (by decide +kernel)) ?_
  refine fmS (snd_iloadn hF (k := 2) rfl (by decide +kernel)) ?_
  refine fmS (snd_bipush hF (n := 100) (by decide +kernel) (by decide +kernel)) ?_
  refine fmS (snd_isub hF (by decide +kernel)) ?_
  refine fmS (snd_iaload hF (by decide +kernel)) ?_
  refine fmS (snd_retI hM (by decide +kernel)) ?_
  refine fmS (snd_iloadn hF (k := 2) rfl (by decide +kernel)) ?_
  refine fmS (snd_sipush hF (n := 300) (by decide +kernel) (by decide +kernel)) ?_
  refine fmS (snd_icmp_ge hF (off := 22) (by decide) (by decide +kernel)) ?_
  refine fmS (snd_aloadn hF (k := 0) rfl (by decide +kernel)) ?_
  refine fmS (snd_getr hF okX10 (k := 1) (by decide) qw1105 rfl rfl (by decide +kernel)) ?_
  refine fmS (snd_bipush hF (n := 19) (by decide +kernel) (by decide +kernel)) ?_
  refine fmS (snd_bipush hF (n := 16) (by decide +kernel) (by decide +kernel)) ?_
  refine fmS (snd_iloadn hF (k := 2) rfl (by decide +kernel)) ?_
  refine fmS (snd_sipush hF (n := 200) (by decide +kernel) (by decide +kernel)) ?_
  refine fmS (snd_isub hF (by decide +kernel)) ?_
  refine fmS (snd_imul hF (by decide +kernel)) ?_
  refine fmS (snd_iadd hF (by decide +kernel)) ?_
  refine fmS (snd_iloadn hF (k := 1) rfl (by decide +kernel)) ?_
  refine fmS (snd_iadd hF (by decide +kernel)) ?_
  refine fmS (snd_iaload hF (by decide +kernel)) ?_
  refine fmS (snd_retI hM (by decide +kernel)) ?_
  refine fmS (snd_aloadn hF (k := 0) rfl (by decide +kernel)) ?_
  refine fmS (snd_iloadn hF (k := 1) rfl (by decide +kernel)) ?_
  refine fmS (snd_callV hM k_X10_intAt okX10 qw1448 qw1450 (hts _ qw67) (by decide +kernel)) ?_
  refine fmS (snd_istoren hF (k := 3) rfl (by decide) (by decide +kernel)) ?_
  refine fmS (snd_aloadn hF (k := 0) rfl (by decide +kernel)) ?_
  refine fmS (snd_iloadn hF (k := 1) rfl (by decide +kernel)) ?_
  refine fmS (snd_callV hM k_X10_intAt okX10 qw1448 qw1450 (hts _ qw67) (by decide +kernel)) ?_
  refine fmS (snd_istore hF (by decide) (by decide +kernel)) ?_
  refine fmS (snd_iloadn hF (k := 2) rfl (by decide +kernel)) ?_
  refine fmS (snd_sipush hF (n := 308) (by decide +kernel) (by decide +kernel)) ?_
  refine fmS (snd_icmp_ge hF (off := 15) (by decide) (by decide +kernel)) ?_
  refine fmS (snd_iloadn hF (k := 2) rfl (by decide +kernel)) ?_
  refine fmS (snd_sipush hF (n := 300) (by decide +kernel) (by decide +kernel)) ?_
  refine fmS (snd_isub hF (by decide +kernel)) ?_
  refine fmS (snd_iloadn hF (k := 3) rfl (by decide +kernel)) ?_
  refine fmS (snd_iload hF (by decide +kernel)) ?_
  refine fmS (snd_callS hM k_X10_intBy qw1452 qw1453 (by decide +kernel)) ?_
  refine fmS (snd_retI hM (by decide +kernel)) ?_
  refine fmS (snd_aloadn hF (k := 0) rfl (by decide +kernel)) ?_
  refine fmS (snd_iloadn hF (k := 1) rfl (by decide +kernel)) ?_
  refine fmS (snd_callV hM k_X10_intAt okX10 qw1448 qw1450 (hts _ qw67) (by decide +kernel)) ?_
  refine fmS (snd_istore hF (by decide) (by decide +kernel)) ?_
  refine fmS (snd_iloadn hF (k := 3) rfl (by decide +kernel)) ?_
  refine fmS (snd_if_le hF (off := 8) (by decide) (by decide +kernel)) ?_
  refine fmS (snd_iload hF (by decide +kernel)) ?_
  refine fmS (snd_goto hF (off := 5) (by decide) (by decide +kernel)) ?_
  refine fmS (snd_iload hF (by decide +kernel)) ?_
  refine fmS (snd_retI hM (by decide +kernel)) ?_
  exact fmE
theorem iX10_intAt {d mc ms n : Nat} {av : List Value} {M : PM} {P : PO} (hw : wid av ≤ 6) (hb : ∀ J : KT, (∀ (k : Nat) (stops : Nat → Bool) (pc : Nat) (lv : LV) (st : List Value) (nn : NN) (M : PM), lk (tX10_intAt d mc ms P) pc (wpN (tX10_intAt d mc ms P) stops k J) lv st nn M → J pc lv st nn M) → J 0 (entA 0 av) [] (n, 0, 0) M) : CallOK (d + 1) mc ms yX10_intAt (Cond.code yX10_intAt cX10_intAt 6 (some .int)) av n M P := call_intro (own := RX10) (by decide) rfl hw (fun _ _ _ _ _ _ _ _ _ _ _ _ _ hM => sX10_intAt hM) hb
def tX10_floatAt (d mc ms : Nat) (P : PO) : List (Nat × OP) := [(0, oAld 0 1), (1, oGr 10 1 4), (4, oAld 0 5), (5, oDup 6), (6, oGi 10 24 9), (9, oDupx1 10), (10, oPush (.int 1) 11), (11, oI2 (fun x y => x + y) 12), (12, oPi 10 24 15), (15, oAi 100 16), (16, oIst 2 17), (17, oIld 2 18), (18, oPush (.int 100) 20), (20, oIc (fun x y => y ≤ x) 26 23), (23, oIld 2 24), (24, oIcv (fun x => .float (FP.i2f x)) 25), (25, oRetF mc ms P), (26, oIld 2 27), (27, oPush (.int 200) 30), (30, oIc (fun x y => y ≤ x) 43 33), (33, oAld 0 34), (34, oGr 10 26 37), (37, oIld 2 38), (38, oPush (.int 100) 40), (40, oI2 (fun x y => x - y) 41), (41, oAf 42), (42, oRetF mc ms P), (43, oIld 2 44), (44, oPush (.int 300) 47), (47, oIc (fun x y => y ≤ x) 70 50), (50, oAld 0 51), (51, oGr 10 1 54), (54, oPush (.int 19) 56), (56, oPush (.int 16) 58), (58, oIld 2 59), (59, oPush (.int 200) 62), (62, oI2 (fun x y => x - y) 63), (63, oI2 (fun x y => x * y) 64), (64, oI2 (fun x y => x + y) 65), (65, oIld 1 66), (66, oI2 (fun x y => x + y) 67), (67, oAi 100 68), (68, oIcv (fun x => .float (FP.i2f x)) 69), (69, oRetF mc ms P), (70, oAld 0 71), (71, oIld 1 72), (72, oCallV d mc ms P 0 0 yX10_floatAt (Cond.code yX10_floatAt cX10_floatAt 6 (some .float)) 1 10 75), (75, oFst 3 76), (76, oAld 0 77), (77, oIld 1 78), (78, oCallV d mc ms P 0 0 yX10_floatAt (Cond.code yX10_floatAt cX10_floatAt 6 (some .float)) 1 10 81), (81, oFst 4 83), (83, oIld 2 84), (84, oPush (.int 308) 87), (87, oIc (fun x y => y ≤ x) 102 90), (90, oIld 2 91), (91, oPush (.int 300) 94), (94, oI2 (fun x y => x - y) 95), (95, oFld 3 96), (96, oFld 4 98), (98, oCallS d mc ms P 0 0 yX10_floatBy (Cond.code yX10_floatBy cX10_floatBy 3 (some .float)) 3 101), (101, oRetF mc ms P), (102, oAld 0 103), (103, oIld 1 104), (104, oCallV d mc ms P 0 0 yX10_floatAt (Cond.code yX10_floatAt cX10_floatAt 6 (some .float)) 1 10 107), (107, oFst 5 109), (109, oFld 3 110), (110, oPush (.float FP.fconst0) 111), (111, oFcmp .l 112), (112, oIf (fun x => x ≤ 0) 120 115), (115, oFld 4 117), (117, oGoto 122), (120, oFld 5 122), (122, oRetF mc ms P)]
set_option maxRecDepth 20000 in
theorem sX10_floatAt {p : Program} {l : Launch} {e : Env} {s : State} {m : MethodId} {args : Array Value} {below : List Frame} {meth : Method} {c : Code} {D : va_G} {cA : Nat → ClassId} {ad0 : Nat → Nat} {n0 sz d mc ms : Nat} {P : PO} (hM : FM p l s m args meth c D cA 6 ad0 n0 sz cX10_floatAt RX10 (some .float) [] yX10_floatAt.name) : ∀ q ∈ tX10_floatAt d mc ms P, Snd (jM p l e s m args below meth c D cA 6 ad0 n0 sz (d + 1) mc ms P) q.1 q.2 := by
  have hF := hM.1
  have hts := hF.2.2.2.2.1
  unfold tX10_floatAt
  refine fmS (snd_aloadn hF (k := 0) rfl (by decide +kernel)) ?_
  refine fmS (snd_getr hF okX10 (k := 1) (by decide) qw1105 rfl rfl (by decide +kernel)) ?_
  refine fmS (snd_aloadn hF (k := 0) rfl (by decide +kernel)) ?_
  refine fmS (snd_dup hF (by decide +kernel)) ?_
  refine fmS (snd_geti hF okX10 (k := 24) (by decide) qw1128 rfl rfl (by decide +kernel)) ?_
  refine fmS (snd_dupx1 hF (by decide +kernel)) ?_
  refine fmS (snd_iconst hF (n := 1) rfl (by decide +kernel)) ?_
  refine fmS (snd_iadd hF (by decide +kernel)) ?_
  refine fmS (snd_puti hF okX10 (k := 24) (by decide) qw1128 rfl rfl rfl rfl (by decide +kernel)) ?_
  refine fmS (snd_iaload hF (by decide +kernel)) ?_
  refine fmS (snd_istoren hF (k := 2) rfl (by decide) (by decide +kernel)) ?_
  refine fmS (snd_iloadn hF (k := 2) rfl (by decide +kernel)) ?_
  refine fmS (snd_bipush hF (n := 100) (by decide +kernel) (by decide +kernel)) ?_
  refine fmS (snd_icmp_ge hF (off := 6) (by decide) (by decide +kernel)) ?_
  refine fmS (snd_iloadn hF (k := 2) rfl (by decide +kernel)) ?_
  refine fmS (snd_i2f hF (by decide +kernel)) ?_
  refine fmS (snd_retF hM (by decide +kernel)) ?_
  refine fmS (snd_iloadn hF (k := 2) rfl (by decide +kernel)) ?_
  refine fmS (snd_sipush hF (n := 200) (by decide +kernel) (by decide +kernel)) ?_
  refine fmS (snd_icmp_ge hF (off := 13) (by decide) (by decide +kernel)) ?_
  refine fmS (snd_aloadn hF (k := 0) rfl (by decide +kernel)) ?_
  refine fmS (snd_getr hF okX10 (k := 26) (by decide) qw1130 rfl rfl (by decide +kernel)) ?_
  refine fmS (snd_iloadn hF (k := 2) rfl (by decide +kernel)) ?_
  refine fmS (snd_bipush hF (n := 100) (by decide +kernel) (by decide +kernel)) ?_
  refine fmS (snd_isub hF (by decide +kernel)) ?_
  refine fmS (snd_faload hF (by decide +kernel)) ?_
  refine fmS (snd_retF hM (by decide +kernel)) ?_
  refine fmS (snd_iloadn hF (k := 2) rfl (by decide +kernel)) ?_
  refine fmS (snd_sipush hF (n := 300) (by decide +kernel) (by decide +kernel)) ?_
  refine fmS (snd_icmp_ge hF (off := 23) (by decide) (by decide +kernel)) ?_
  refine fmS (snd_aloadn hF (k := 0) rfl (by decide +kernel)) ?_
  refine fmS (snd_getr hF okX10 (k := 1) (by decide) qw1105 rfl rfl (by decide +kernel)) ?_
  refine fmS (snd_bipush hF (n := 19) (by decide +kernel) (by decide +kernel)) ?_
  refine fmS (snd_bipush hF (n := 16) (by decide +kernel) (by decide +kernel)) ?_
  refine fmS (snd_iloadn hF (k := 2) rfl (by decide +kernel)) ?_
  refine fmS (snd_sipush hF (n := 200) (by decide +kernel) (by decide +kernel)) ?_
  refine fmS (snd_isub hF (by decide +kernel)) ?_
  refine fmS (snd_imul hF (by decide +kernel)) ?_
  refine fmS (snd_iadd hF (by decide +kernel)) ?_
  refine fmS (snd_iloadn hF (k := 1) rfl (by decide +kernel)) ?_
  refine fmS (snd_iadd hF (by decide +kernel)) ?_
  refine fmS (snd_iaload hF (by decide +kernel)) ?_
  refine fmS (snd_i2f hF (by decide +kernel)) ?_
  refine fmS (snd_retF hM (by decide +kernel)) ?_
  refine fmS (snd_aloadn hF (k := 0) rfl (by decide +kernel)) ?_
  refine fmS (snd_iloadn hF (k := 1) rfl (by decide +kernel)) ?_
  refine fmS (snd_callV hM k_X10_floatAt okX10 qw1455 qw1457 (hts _ qw68) (by decide +kernel)) ?_
  refine fmS (snd_fstoren hF (k := 3) rfl (by decide) (by decide +kernel)) ?_
  refine fmS (snd_aloadn hF (k := 0) rfl (by decide +kernel)) ?_
  refine fmS (snd_iloadn hF (k := 1) rfl (by decide +kernel)) ?_
  refine fmS (snd_callV hM k_X10_floatAt okX10 qw1455 qw1457 (hts _ qw68) (by decide +kernel)) ?_
  refine fmS (snd_fstore hF (by decide) (by decide +kernel)) ?_
  refine fmS (snd_iloadn hF (k := 2) rfl (by decide +kernel)) ?_
  refine fmS (snd_sipush hF (n := 308) (by decide +kernel) (by decide +kernel)) ?_
  refine fmS (snd_icmp_ge hF (off := 15) (by decide) (by decide +kernel)) ?_
  refine fmS (snd_iloadn hF (k := 2) rfl (by decide +kernel)) ?_
  refine fmS (snd_sipush hF (n := 300) (by decide +kernel) (by decide +kernel)) ?_
  refine fmS (snd_isub hF (by decide +kernel)) ?_
  refine fmS (snd_floadn hF (k := 3) rfl (by decide +kernel)) ?_
  refine fmS (snd_fload hF (by decide +kernel)) ?_
  refine fmS (snd_callS hM k_X10_floatBy qw1459 qw1460 (by decide +kernel)) ?_
  refine fmS (snd_retF hM (by decide +kernel)) ?_
  refine fmS (snd_aloadn hF (k := 0) rfl (by decide +kernel)) ?_
  refine fmS (snd_iloadn hF (k := 1) rfl (by decide +kernel)) ?_
  refine fmS (snd_callV hM k_X10_floatAt okX10 qw1455 qw1457 (hts _ qw68) (by decide +kernel)) ?_
  refine fmS (snd_fstore hF (by decide) (by decide +kernel)) ?_
  refine fmS (snd_floadn hF (k := 3) rfl (by decide +kernel)) ?_
  refine fmS (snd_fconst0 hF (by decide +kernel)) ?_
  refine fmS (snd_fcmp hF (by decide +kernel)) ?_
  refine fmS (snd_if_le hF (off := 8) (by decide) (by decide +kernel)) ?_
  refine fmS (snd_fload hF (by decide +kernel)) ?_
  refine fmS (snd_goto hF (off := 5) (by decide) (by decide +kernel)) ?_
  refine fmS (snd_fload hF (by decide +kernel)) ?_
  refine fmS (snd_retF hM (by decide +kernel)) ?_
  exact fmE
theorem iX10_floatAt {d mc ms n : Nat} {av : List Value} {M : PM} {P : PO} (hw : wid av ≤ 6) (hb : ∀ J : KT, (∀ (k : Nat) (stops : Nat → Bool) (pc : Nat) (lv : LV) (st : List Value) (nn : NN) (M : PM), lk (tX10_floatAt d mc ms P) pc (wpN (tX10_floatAt d mc ms P) stops k J) lv st nn M → J pc lv st nn M) → J 0 (entA 0 av) [] (n, 0, 0) M) : CallOK (d + 1) mc ms yX10_floatAt (Cond.code yX10_floatAt cX10_floatAt 6 (some .float)) av n M P := call_intro (own := RX10) (by decide) rfl hw (fun _ _ _ _ _ _ _ _ _ _ _ _ _ hM => sX10_floatAt hM) hb
def tX10_runs (d mc ms : Nat) (P : PO) : List (Nat × OP) := [(0, oPush (.int 0) 1), (1, oIst 2 2), (2, oIld 2 3), (3, oAld 0 4), (4, oGr 10 1 7), (7, oPush (.int 0) 8), (8, oAi 100 9), (9, oIc (fun x y => y ≤ x) 74 12), (12, oAld 0 13), (13, oIld 2 14), (14, oCallS d mc ms P 0 0 yX10_code (Cond.code yX10_code cX10_code 1 (some .int)) 1 17), (17, oPi 10 24 20), (20, oAld 0 21), (21, oGr 10 1 24), (24, oPush (.int 1) 25), (25, oAi 100 26), (26, oIf (fun x => x = 0) 29 50), (29, oAld 0 30), (30, oGr 10 25 33), (33, oAld 0 34), (34, oGr 10 1 37), (37, oPush (.int 3) 38), (38, oIld 2 39), (39, oI2 (fun x y => x + y) 40), (40, oAi 100 41), (41, oAld 0 42), (42, oIld 1 43), (43, oCallV d mc ms P 0 0 yX10_intAt (Cond.code yX10_intAt cX10_intAt 6 (some .int)) 1 10 46), (46, oSi 100 (fun x => x) 47), (47, oGoto 68), (50, oAld 0 51), (51, oGr 10 26 54), (54, oAld 0 55), (55, oGr 10 1 58), (58, oPush (.int 3) 59), (59, oIld 2 60), (60, oI2 (fun x y => x + y) 61), (61, oAi 100 62), (62, oAld 0 63), (63, oIld 1 64), (64, oCallV d mc ms P 0 0 yX10_floatAt (Cond.code yX10_floatAt cX10_floatAt 6 (some .float)) 1 10 67), (67, oSf 68), (68, oInc 2 1 71), (71, oGoto 2), (74, oRetV mc ms P)]
set_option maxRecDepth 20000 in
theorem sX10_runs {p : Program} {l : Launch} {e : Env} {s : State} {m : MethodId} {args : Array Value} {below : List Frame} {meth : Method} {c : Code} {D : va_G} {cA : Nat → ClassId} {ad0 : Nat → Nat} {n0 sz d mc ms : Nat} {P : PO} (hM : FM p l s m args meth c D cA 3 ad0 n0 sz cX10_runs RX10 none [] yX10_runs.name) : ∀ q ∈ tX10_runs d mc ms P, Snd (jM p l e s m args below meth c D cA 3 ad0 n0 sz (d + 1) mc ms P) q.1 q.2 := by
  have hF := hM.1
  have hts := hF.2.2.2.2.1
  unfold tX10_runs
  refine fmS (snd_iconst hF (n := 0) rfl (by decide +kernel)) ?_
  refine fmS (snd_istoren hF (k := 2) rfl (by decide) (by decide +kernel)) ?_
  refine fmS (snd_iloadn hF (k := 2) rfl (by decide +kernel)) ?_
  refine fmS (snd_aloadn hF (k := 0) rfl (by decide +kernel)) ?_
  refine fmS (snd_getr hF okX10 (k := 1) (by decide) qw1105 rfl rfl (by decide +kernel)) ?_
  refine fmS (snd_iconst hF (n := 0) rfl (by decide +kernel)) ?_
  refine fmS (snd_iaload hF (by decide +kernel)) ?_
  refine fmS (snd_icmp_ge hF (off := 65) (by decide) (by decide +kernel)) ?_
  refine fmS (snd_aloadn hF (k := 0) rfl (by decide +kernel)) ?_
  refine fmS (snd_iloadn hF (k := 2) rfl (by decide +kernel)) ?_
  refine fmS (snd_callS hM k_X10_code qw1098 qw1099 (by decide +kernel)) ?_
  refine fmS (snd_puti hF okX10 (k := 24) (by decide) qw1128 rfl rfl rfl rfl (by decide +kernel)) ?_
  refine fmS (snd_aloadn hF (k := 0) rfl (by decide +kernel)) ?_
  refine fmS (snd_getr hF okX10 (k := 1) (by decide) qw1105 rfl rfl (by decide +kernel)) ?_
  refine fmS (snd_iconst hF (n := 1) rfl (by decide +kernel)) ?_
  refine fmS (snd_iaload hF (by decide +kernel)) ?_
  refine fmS (snd_if_ne hF (off := 24) (by decide) (by decide +kernel)) ?_
  refine fmS (snd_aloadn hF (k := 0) rfl (by decide +kernel)) ?_
  refine fmS (snd_getr hF okX10 (k := 25) (by decide) qw1129 rfl rfl (by decide +kernel)) ?_
  refine fmS (snd_aloadn hF (k := 0) rfl (by decide +kernel)) ?_
  refine fmS (snd_getr hF okX10 (k := 1) (by decide) qw1105 rfl rfl (by decide +kernel)) ?_
  refine fmS (snd_iconst hF (n := 3) rfl (by decide +kernel)) ?_
  refine fmS (snd_iloadn hF (k := 2) rfl (by decide +kernel)) ?_
  refine fmS (snd_iadd hF (by decide +kernel)) ?_
  refine fmS (snd_iaload hF (by decide +kernel)) ?_
  refine fmS (snd_aloadn hF (k := 0) rfl (by decide +kernel)) ?_
  refine fmS (snd_iloadn hF (k := 1) rfl (by decide +kernel)) ?_
  refine fmS (snd_callV hM k_X10_intAt okX10 qw1448 qw1450 (hts _ qw67) (by decide +kernel)) ?_
  refine fmS (snd_iastore hF (by decide +kernel)) ?_
  refine fmS (snd_goto hF (off := 21) (by decide) (by decide +kernel)) ?_
  refine fmS (snd_aloadn hF (k := 0) rfl (by decide +kernel)) ?_
  refine fmS (snd_getr hF okX10 (k := 26) (by decide) qw1130 rfl rfl (by decide +kernel)) ?_
  refine fmS (snd_aloadn hF (k := 0) rfl (by decide +kernel)) ?_
  refine fmS (snd_getr hF okX10 (k := 1) (by decide) qw1105 rfl rfl (by decide +kernel)) ?_
  refine fmS (snd_iconst hF (n := 3) rfl (by decide +kernel)) ?_
  refine fmS (snd_iloadn hF (k := 2) rfl (by decide +kernel)) ?_
  refine fmS (snd_iadd hF (by decide +kernel)) ?_
  refine fmS (snd_iaload hF (by decide +kernel)) ?_
  refine fmS (snd_aloadn hF (k := 0) rfl (by decide +kernel)) ?_
  refine fmS (snd_iloadn hF (k := 1) rfl (by decide +kernel)) ?_
  refine fmS (snd_callV hM k_X10_floatAt okX10 qw1455 qw1457 (hts _ qw68) (by decide +kernel)) ?_
  refine fmS (snd_fastore hF (by decide +kernel)) ?_
  refine fmS (snd_iinc hF (n := 1) (by decide +kernel) (by decide) (by decide +kernel)) ?_
  refine fmS (snd_goto hF (off := (-69)) (by decide) (by decide +kernel)) ?_
  refine fmS (snd_retV hM (by decide +kernel)) ?_
  exact fmE
theorem iX10_runs {d mc ms n : Nat} {av : List Value} {M : PM} {P : PO} (hw : wid av ≤ 3) (hb : ∀ J : KT, (∀ (k : Nat) (stops : Nat → Bool) (pc : Nat) (lv : LV) (st : List Value) (nn : NN) (M : PM), lk (tX10_runs d mc ms P) pc (wpN (tX10_runs d mc ms P) stops k J) lv st nn M → J pc lv st nn M) → J 0 (entA 0 av) [] (n, 0, 0) M) : CallOK (d + 1) mc ms yX10_runs (Cond.code yX10_runs cX10_runs 3 none) av n M P := call_intro (own := RX10) (by decide) rfl hw (fun _ _ _ _ _ _ _ _ _ _ _ _ _ hM => sX10_runs hM) hb
def tX10_begins (d mc ms : Nat) (P : PO) : List (Nat × OP) := [(0, oPush (.int 0) 1), (1, oIst 1 2), (2, oIld 1 3), (3, oPush (.int 8) 5), (5, oIc (fun x y => y ≤ x) 45 8), (8, oAld 0 9), (9, oGr 10 25 12), (12, oIld 1 13), (13, oAld 0 14), (14, oGr 10 1 17), (17, oPush (.int 67) 19), (19, oIld 1 20), (20, oI2 (fun x y => x + y) 21), (21, oAi 100 22), (22, oSi 100 (fun x => x) 23), (23, oAld 0 24), (24, oGr 10 26 27), (27, oIld 1 28), (28, oAld 0 29), (29, oGr 10 1 32), (32, oPush (.int 67) 34), (34, oIld 1 35), (35, oI2 (fun x y => x + y) 36), (36, oAi 100 37), (37, oIcv (fun x => .float (FP.i2f x)) 38), (38, oSf 39), (39, oInc 1 1 42), (42, oGoto 2), (45, oRetV mc ms P)]
set_option maxRecDepth 20000 in
theorem sX10_begins {p : Program} {l : Launch} {e : Env} {s : State} {m : MethodId} {args : Array Value} {below : List Frame} {meth : Method} {c : Code} {D : va_G} {cA : Nat → ClassId} {ad0 : Nat → Nat} {n0 sz d mc ms : Nat} {P : PO} (hM : FM p l s m args meth c D cA 2 ad0 n0 sz cX10_begins RX10 none [] yX10_begins.name) : ∀ q ∈ tX10_begins d mc ms P, Snd (jM p l e s m args below meth c D cA 2 ad0 n0 sz (d + 1) mc ms P) q.1 q.2 := by
  have hF := hM.1
  have hts := hF.2.2.2.2.1
  unfold tX10_begins
  refine fmS (snd_iconst hF (n := 0) rfl (by decide +kernel)) ?_
  refine fmS (snd_istoren hF (k := 1) rfl (by decide) (by decide +kernel)) ?_
  refine fmS (snd_iloadn hF (k := 1) rfl (by decide +kernel)) ?_
  refine fmS (snd_bipush hF (n := 8) (by decide +kernel) (by decide +kernel)) ?_
  refine fmS (snd_icmp_ge hF (off := 40) (by decide) (by decide +kernel)) ?_
  refine fmS (snd_aloadn hF (k := 0) rfl (by decide +kernel)) ?_
  refine fmS (snd_getr hF okX10 (k := 25) (by decide) qw1129 rfl rfl (by decide +kernel)) ?_
  refine fmS (snd_iloadn hF (k := 1) rfl (by decide +kernel)) ?_
  refine fmS (snd_aloadn hF (k := 0) rfl (by decide +kernel)) ?_
  refine fmS (snd_getr hF okX10 (k := 1) (by decide) qw1105 rfl rfl (by decide +kernel)) ?_
  refine fmS (snd_bipush hF (n := 67) (by decide +kernel) (by decide +kernel)) ?_
  refine fmS (snd_iloadn hF (k := 1) rfl (by decide +kernel)) ?_
  refine fmS (snd_iadd hF (by decide +kernel)) ?_
  refine fmS (snd_iaload hF (by decide +kernel)) ?_
  refine fmS (snd_iastore hF (by decide +kernel)) ?_
  refine fmS (snd_aloadn hF (k := 0) rfl (by decide +kernel)) ?_
  refine fmS (snd_getr hF okX10 (k := 26) (by decide) qw1130 rfl rfl (by decide +kernel)) ?_
  refine fmS (snd_iloadn hF (k := 1) rfl (by decide +kernel)) ?_
  refine fmS (snd_aloadn hF (k := 0) rfl (by decide +kernel)) ?_
  refine fmS (snd_getr hF okX10 (k := 1) (by decide) qw1105 rfl rfl (by decide +kernel)) ?_
  refine fmS (snd_bipush hF (n := 67) (by decide +kernel) (by decide +kernel)) ?_
  refine fmS (snd_iloadn hF (k := 1) rfl (by decide +kernel)) ?_
  refine fmS (snd_iadd hF (by decide +kernel)) ?_
  refine fmS (snd_iaload hF (by decide +kernel)) ?_
  refine fmS (snd_i2f hF (by decide +kernel)) ?_
  refine fmS (snd_fastore hF (by decide +kernel)) ?_
  refine fmS (snd_iinc hF (n := 1) (by decide +kernel) (by decide) (by decide +kernel)) ?_
  refine fmS (snd_goto hF (off := (-40)) (by decide) (by decide +kernel)) ?_
  refine fmS (snd_retV hM (by decide +kernel)) ?_
  exact fmE
theorem iX10_begins {d mc ms n : Nat} {av : List Value} {M : PM} {P : PO} (hw : wid av ≤ 2) (hb : ∀ J : KT, (∀ (k : Nat) (stops : Nat → Bool) (pc : Nat) (lv : LV) (st : List Value) (nn : NN) (M : PM), lk (tX10_begins d mc ms P) pc (wpN (tX10_begins d mc ms P) stops k J) lv st nn M → J pc lv st nn M) → J 0 (entA 0 av) [] (n, 0, 0) M) : CallOK (d + 1) mc ms yX10_begins (Cond.code yX10_begins cX10_begins 2 none) av n M P := call_intro (own := RX10) (by decide) rfl hw (fun _ _ _ _ _ _ _ _ _ _ _ _ _ hM => sX10_begins hM) hb
def tX10_beginsPart (d mc ms : Nat) (P : PO) : List (Nat × OP) := [(0, oAld 0 1), (1, oCallV d mc ms P 0 0 yX10_begins (Cond.code yX10_begins cX10_begins 2 none) 0 10 4), (4, oPush (.int 0) 5), (5, oIst 1 6), (6, oIld 1 7), (7, oPush (.int 8) 9), (9, oIc (fun x y => y ≤ x) 120 12), (12, oAld 0 13), (13, oIld 1 14), (14, oCallV d mc ms P 0 0 yX10_isReduction (Cond.code yX10_isReduction cX10_isReduction 2 (some .boolean)) 1 10 17), (17, oIf (fun x => x = 0) 20 23), (20, oGoto 114), (23, oAld 0 24), (24, oIld 1 25), (25, oCallV d mc ms P 0 0 yX10_operatorOf (Cond.code yX10_operatorOf cX10_operatorOf 3 (some .int)) 1 10 28), (28, oIst 2 29), (29, oAld 0 30), (30, oGr 10 25 33), (33, oIld 1 34), (34, oIld 2 35), (35, oPush (.int 1) 36), (36, oIc (fun x y => x = y) 39 43), (39, oPush (.int 1) 40), (40, oGoto 76), (43, oIld 2 44), (44, oPush (.int 2) 45), (45, oIc (fun x y => x = y) 48 52), (48, oPush (.int (-1)) 49), (49, oGoto 76), (52, oIld 2 53), (53, oPush (.int 5) 54), (54, oIc (fun x y => x = y) 57 63), (57, oPush (.int 2147483647) 60), (60, oGoto 76), (63, oIld 2 64), (64, oPush (.int 6) 66), (66, oIc (fun x y => x = y) 69 75), (69, oPush (.int (-2147483648)) 72), (72, oGoto 76), (75, oPush (.int 0) 76), (76, oSi 100 (fun x => x) 77), (77, oAld 0 78), (78, oGr 10 26 81), (81, oIld 1 82), (82, oIld 2 83), (83, oPush (.int 1) 84), (84, oIc (fun x y => x = y) 87 91), (87, oPush (.float FP.fconst1) 88), (88, oGoto 113), (91, oIld 2 92), (92, oPush (.int 5) 93), (93, oIc (fun x y => x = y) 96 101), (96, oPush (.float 1900671690) 98), (98, oGoto 113), (101, oIld 2 102), (102, oPush (.int 6) 104), (104, oIc (fun x y => x = y) 107 112), (107, oPush (.float 4048155338) 109), (109, oGoto 113), (112, oPush (.float FP.fconst0) 113), (113, oSf 114), (114, oInc 1 1 117), (117, oGoto 6), (120, oRetV mc ms P)]
set_option maxRecDepth 20000 in
theorem sX10_beginsPart {p : Program} {l : Launch} {e : Env} {s : State} {m : MethodId} {args : Array Value} {below : List Frame} {meth : Method} {c : Code} {D : va_G} {cA : Nat → ClassId} {ad0 : Nat → Nat} {n0 sz d mc ms : Nat} {P : PO} (hM : FM p l s m args meth c D cA 3 ad0 n0 sz cX10_beginsPart RX10 none [] yX10_beginsPart.name) : ∀ q ∈ tX10_beginsPart d mc ms P, Snd (jM p l e s m args below meth c D cA 3 ad0 n0 sz (d + 1) mc ms P) q.1 q.2 := by
  have hF := hM.1
  have hts := hF.2.2.2.2.1
  unfold tX10_beginsPart
  refine fmS (snd_aloadn hF (k := 0) rfl (by decide +kernel)) ?_
  refine fmS (snd_callV hM k_X10_begins okX10 qw1440 qw1442 (hts _ qw65) (by decide +kernel)) ?_
  refine fmS (snd_iconst hF (n := 0) rfl (by decide +kernel)) ?_
  refine fmS (snd_istoren hF (k := 1) rfl (by decide) (by decide +kernel)) ?_
  refine fmS (snd_iloadn hF (k := 1) rfl (by decide +kernel)) ?_
  refine fmS (snd_bipush hF (n := 8) (by decide +kernel) (by decide +kernel)) ?_
  refine fmS (snd_icmp_ge hF (off := 111) (by decide) (by decide +kernel)) ?_
  refine fmS (snd_aloadn hF (k := 0) rfl (by decide +kernel)) ?_
  refine fmS (snd_iloadn hF (k := 1) rfl (by decide +kernel)) ?_
  refine fmS (snd_callV hM k_X10_isReduction okX10 qw1478 qw1480 (hts _ qw69) (by decide +kernel)) ?_
  refine fmS (snd_if_ne hF (off := 6) (by decide) (by decide +kernel)) ?_
  refine fmS (snd_goto hF (off := 94) (by decide) (by decide +kernel)) ?_
  refine fmS (snd_aloadn hF (k := 0) rfl (by decide +kernel)) ?_
  refine fmS (snd_iloadn hF (k := 1) rfl (by decide +kernel)) ?_
  refine fmS (snd_callV hM k_X10_operatorOf okX10 qw1356 qw1358 (hts _ qw56) (by decide +kernel)) ?_
  refine fmS (snd_istoren hF (k := 2) rfl (by decide) (by decide +kernel)) ?_
  refine fmS (snd_aloadn hF (k := 0) rfl (by decide +kernel)) ?_
  refine fmS (snd_getr hF okX10 (k := 25) (by decide) qw1129 rfl rfl (by decide +kernel)) ?_
  refine fmS (snd_iloadn hF (k := 1) rfl (by decide +kernel)) ?_
  refine fmS (snd_iloadn hF (k := 2) rfl (by decide +kernel)) ?_
  refine fmS (snd_iconst hF (n := 1) rfl (by decide +kernel)) ?_
  refine fmS (snd_icmp_ne hF (off := 7) (by decide) (by decide +kernel)) ?_
  refine fmS (snd_iconst hF (n := 1) rfl (by decide +kernel)) ?_
  refine fmS (snd_goto hF (off := 36) (by decide) (by decide +kernel)) ?_
  refine fmS (snd_iloadn hF (k := 2) rfl (by decide +kernel)) ?_
  refine fmS (snd_iconst hF (n := 2) rfl (by decide +kernel)) ?_
  refine fmS (snd_icmp_ne hF (off := 7) (by decide) (by decide +kernel)) ?_
  refine fmS (snd_iconst hF (n := (-1)) rfl (by decide +kernel)) ?_
  refine fmS (snd_goto hF (off := 27) (by decide) (by decide +kernel)) ?_
  refine fmS (snd_iloadn hF (k := 2) rfl (by decide +kernel)) ?_
  refine fmS (snd_iconst hF (n := 5) rfl (by decide +kernel)) ?_
  refine fmS (snd_icmp_ne hF (off := 9) (by decide) (by decide +kernel)) ?_
  refine fmS (snd_ldcw hF qw1494 (by decide +kernel)) ?_
  refine fmS (snd_goto hF (off := 16) (by decide) (by decide +kernel)) ?_
  refine fmS (snd_iloadn hF (k := 2) rfl (by decide +kernel)) ?_
  refine fmS (snd_bipush hF (n := 6) (by decide +kernel) (by decide +kernel)) ?_
  refine fmS (snd_icmp_ne hF (off := 9) (by decide) (by decide +kernel)) ?_
  refine fmS (snd_ldcw hF qw1495 (by decide +kernel)) ?_
  refine fmS (snd_goto hF (off := 4) (by decide) (by decide +kernel)) ?_
  refine fmS (snd_iconst hF (n := 0) rfl (by decide +kernel)) ?_
  refine fmS (snd_iastore hF (by decide +kernel)) ?_
  refine fmS (snd_aloadn hF (k := 0) rfl (by decide +kernel)) ?_
  refine fmS (snd_getr hF okX10 (k := 26) (by decide) qw1130 rfl rfl (by decide +kernel)) ?_
  refine fmS (snd_iloadn hF (k := 1) rfl (by decide +kernel)) ?_
  refine fmS (snd_iloadn hF (k := 2) rfl (by decide +kernel)) ?_
  refine fmS (snd_iconst hF (n := 1) rfl (by decide +kernel)) ?_
  refine fmS (snd_icmp_ne hF (off := 7) (by decide) (by decide +kernel)) ?_
  refine fmS (snd_fconst1 hF (by decide +kernel)) ?_
  refine fmS (snd_goto hF (off := 25) (by decide) (by decide +kernel)) ?_
  refine fmS (snd_iloadn hF (k := 2) rfl (by decide +kernel)) ?_
  refine fmS (snd_iconst hF (n := 5) rfl (by decide +kernel)) ?_
  refine fmS (snd_icmp_ne hF (off := 8) (by decide) (by decide +kernel)) ?_
  refine fmS (snd_ldcf hF qw1465 (by decide +kernel)) ?_
  refine fmS (snd_goto hF (off := 15) (by decide) (by decide +kernel)) ?_
  refine fmS (snd_iloadn hF (k := 2) rfl (by decide +kernel)) ?_
  refine fmS (snd_bipush hF (n := 6) (by decide +kernel) (by decide +kernel)) ?_
  refine fmS (snd_icmp_ne hF (off := 8) (by decide) (by decide +kernel)) ?_
  refine fmS (snd_ldcf hF qw1466 (by decide +kernel)) ?_
  refine fmS (snd_goto hF (off := 4) (by decide) (by decide +kernel)) ?_
  refine fmS (snd_fconst0 hF (by decide +kernel)) ?_
  refine fmS (snd_fastore hF (by decide +kernel)) ?_
  refine fmS (snd_iinc hF (n := 1) (by decide +kernel) (by decide) (by decide +kernel)) ?_
  refine fmS (snd_goto hF (off := (-111)) (by decide) (by decide +kernel)) ?_
  refine fmS (snd_retV hM (by decide +kernel)) ?_
  exact fmE
theorem iX10_beginsPart {d mc ms n : Nat} {av : List Value} {M : PM} {P : PO} (hw : wid av ≤ 3) (hb : ∀ J : KT, (∀ (k : Nat) (stops : Nat → Bool) (pc : Nat) (lv : LV) (st : List Value) (nn : NN) (M : PM), lk (tX10_beginsPart d mc ms P) pc (wpN (tX10_beginsPart d mc ms P) stops k J) lv st nn M → J pc lv st nn M) → J 0 (entA 0 av) [] (n, 0, 0) M) : CallOK (d + 1) mc ms yX10_beginsPart (Cond.code yX10_beginsPart cX10_beginsPart 3 none) av n M P := call_intro (own := RX10) (by decide) rfl hw (fun _ _ _ _ _ _ _ _ _ _ _ _ _ hM => sX10_beginsPart hM) hb
def tX10_parts (d mc ms : Nat) (P : PO) : List (Nat × OP) := [(0, oIld 1 1), (1, oPush (.int 3) 2), (2, oIc (fun x y => x = y) 5 14), (5, oAld 0 6), (6, oGr 10 1 9), (9, oPush (.int 2) 10), (10, oAi 100 11), (11, oGoto 15), (14, oIld 2 15), (15, oRetI mc ms P)]
set_option maxRecDepth 20000 in
theorem sX10_parts {p : Program} {l : Launch} {e : Env} {s : State} {m : MethodId} {args : Array Value} {below : List Frame} {meth : Method} {c : Code} {D : va_G} {cA : Nat → ClassId} {ad0 : Nat → Nat} {n0 sz d mc ms : Nat} {P : PO} (hM : FM p l s m args meth c D cA 3 ad0 n0 sz cX10_parts RX10 (some .int) [] yX10_parts.name) : ∀ q ∈ tX10_parts d mc ms P, Snd (jM p l e s m args below meth c D cA 3 ad0 n0 sz (d + 1) mc ms P) q.1 q.2 := by
  have hF := hM.1
  have hts := hF.2.2.2.2.1
  unfold tX10_parts
  refine fmS (snd_iloadn hF (k := 1) rfl (by decide +kernel)) ?_
  refine fmS (snd_iconst hF (n := 3) rfl (by decide +kernel)) ?_
  refine fmS (snd_icmp_ne hF (off := 12) (by decide) (by decide +kernel)) ?_
  refine fmS (snd_aloadn hF (k := 0) rfl (by decide +kernel)) ?_
  refine fmS (snd_getr hF okX10 (k := 1) (by decide) qw1105 rfl rfl (by decide +kernel)) ?_
  refine fmS (snd_iconst hF (n := 2) rfl (by decide +kernel)) ?_
  refine fmS (snd_iaload hF (by decide +kernel)) ?_
  refine fmS (snd_goto hF (off := 4) (by decide) (by decide +kernel)) ?_
  refine fmS (snd_iloadn hF (k := 2) rfl (by decide +kernel)) ?_
  refine fmS (snd_retI hM (by decide +kernel)) ?_
  exact fmE
theorem iX10_parts {d mc ms n : Nat} {av : List Value} {M : PM} {P : PO} (hw : wid av ≤ 3) (hb : ∀ J : KT, (∀ (k : Nat) (stops : Nat → Bool) (pc : Nat) (lv : LV) (st : List Value) (nn : NN) (M : PM), lk (tX10_parts d mc ms P) pc (wpN (tX10_parts d mc ms P) stops k J) lv st nn M → J pc lv st nn M) → J 0 (entA 0 av) [] (n, 0, 0) M) : CallOK (d + 1) mc ms yX10_parts (Cond.code yX10_parts cX10_parts 3 (some .int)) av n M P := call_intro (own := RX10) (by decide) rfl hw (fun _ _ _ _ _ _ _ _ _ _ _ _ _ hM => sX10_parts hM) hb
def tX10_share (d mc ms : Nat) (P : PO) : List (Nat × OP) := [(0, oIld 0 1), (1, oIld 1 2), (2, oI2 (fun x y => x + y) 3), (3, oPush (.int 1) 4), (4, oI2 (fun x y => x - y) 5), (5, oIld 1 6), (6, oI2n (fun x y => x / y) 7), (7, oRetI mc ms P)]
set_option maxRecDepth 20000 in
theorem sX10_share {p : Program} {l : Launch} {e : Env} {s : State} {m : MethodId} {args : Array Value} {below : List Frame} {meth : Method} {c : Code} {D : va_G} {cA : Nat → ClassId} {ad0 : Nat → Nat} {n0 sz d mc ms : Nat} {P : PO} (hM : FM p l s m args meth c D cA 2 ad0 n0 sz cX10_share RX10 (some .int) [] yX10_share.name) : ∀ q ∈ tX10_share d mc ms P, Snd (jM p l e s m args below meth c D cA 2 ad0 n0 sz (d + 1) mc ms P) q.1 q.2 := by
  have hF := hM.1
  have hts := hF.2.2.2.2.1
  unfold tX10_share
  refine fmS (snd_iloadn hF (k := 0) rfl (by decide +kernel)) ?_
  refine fmS (snd_iloadn hF (k := 1) rfl (by decide +kernel)) ?_
  refine fmS (snd_iadd hF (by decide +kernel)) ?_
  refine fmS (snd_iconst hF (n := 1) rfl (by decide +kernel)) ?_
  refine fmS (snd_isub hF (by decide +kernel)) ?_
  refine fmS (snd_iloadn hF (k := 1) rfl (by decide +kernel)) ?_
  refine fmS (snd_idiv hF (by decide +kernel)) ?_
  refine fmS (snd_retI hM (by decide +kernel)) ?_
  exact fmE
theorem iX10_share {d mc ms n : Nat} {av : List Value} {M : PM} {P : PO} (hw : wid av ≤ 2) (hb : ∀ J : KT, (∀ (k : Nat) (stops : Nat → Bool) (pc : Nat) (lv : LV) (st : List Value) (nn : NN) (M : PM), lk (tX10_share d mc ms P) pc (wpN (tX10_share d mc ms P) stops k J) lv st nn M → J pc lv st nn M) → J 0 (entA 0 av) [] (n, 0, 0) M) : CallOK (d + 1) mc ms yX10_share (Cond.code yX10_share cX10_share 2 (some .int)) av n M P := call_intro (own := RX10) (by decide) rfl hw (fun _ _ _ _ _ _ _ _ _ _ _ _ _ hM => sX10_share hM) hb
def tX10_partOf (d mc ms : Nat) (P : PO) : List (Nat × OP) := [(0, oIld 1 1), (1, oPush (.int 1) 2), (2, oIc (fun x y => x = y) 5 11), (5, oIld 3 6), (6, oIld 2 7), (7, oI2n (fun x y => x - x / y * y) 8), (8, oGoto 32), (11, oIld 1 12), (12, oPush (.int 2) 13), (13, oIc (fun x y => x = y) 16 31), (16, oIld 3 17), (17, oAld 0 18), (18, oGr 10 1 21), (21, oPush (.int 2) 22), (22, oAi 100 23), (23, oIld 2 24), (24, oCallS d mc ms P 0 0 yX10_share (Cond.code yX10_share cX10_share 2 (some .int)) 2 27), (27, oI2n (fun x y => x / y) 28), (28, oGoto 32), (31, oIld 3 32), (32, oRetI mc ms P)]
set_option maxRecDepth 20000 in
theorem sX10_partOf {p : Program} {l : Launch} {e : Env} {s : State} {m : MethodId} {args : Array Value} {below : List Frame} {meth : Method} {c : Code} {D : va_G} {cA : Nat → ClassId} {ad0 : Nat → Nat} {n0 sz d mc ms : Nat} {P : PO} (hM : FM p l s m args meth c D cA 4 ad0 n0 sz cX10_partOf RX10 (some .int) [] yX10_partOf.name) : ∀ q ∈ tX10_partOf d mc ms P, Snd (jM p l e s m args below meth c D cA 4 ad0 n0 sz (d + 1) mc ms P) q.1 q.2 := by
  have hF := hM.1
  have hts := hF.2.2.2.2.1
  unfold tX10_partOf
  refine fmS (snd_iloadn hF (k := 1) rfl (by decide +kernel)) ?_
  refine fmS (snd_iconst hF (n := 1) rfl (by decide +kernel)) ?_
  refine fmS (snd_icmp_ne hF (off := 9) (by decide) (by decide +kernel)) ?_
  refine fmS (snd_iloadn hF (k := 3) rfl (by decide +kernel)) ?_
  refine fmS (snd_iloadn hF (k := 2) rfl (by decide +kernel)) ?_
  refine fmS (snd_irem hF (by decide +kernel)) ?_
  refine fmS (snd_goto hF (off := 24) (by decide) (by decide +kernel)) ?_
  refine fmS (snd_iloadn hF (k := 1) rfl (by decide +kernel)) ?_
  refine fmS (snd_iconst hF (n := 2) rfl (by decide +kernel)) ?_
  refine fmS (snd_icmp_ne hF (off := 18) (by decide) (by decide +kernel)) ?_
  refine fmS (snd_iloadn hF (k := 3) rfl (by decide +kernel)) ?_
  refine fmS (snd_aloadn hF (k := 0) rfl (by decide +kernel)) ?_
  refine fmS (snd_getr hF okX10 (k := 1) (by decide) qw1105 rfl rfl (by decide +kernel)) ?_
  refine fmS (snd_iconst hF (n := 2) rfl (by decide +kernel)) ?_
  refine fmS (snd_iaload hF (by decide +kernel)) ?_
  refine fmS (snd_iloadn hF (k := 2) rfl (by decide +kernel)) ?_
  refine fmS (snd_callS hM k_X10_share qw1500 qw1501 (by decide +kernel)) ?_
  refine fmS (snd_idiv hF (by decide +kernel)) ?_
  refine fmS (snd_goto hF (off := 4) (by decide) (by decide +kernel)) ?_
  refine fmS (snd_iloadn hF (k := 3) rfl (by decide +kernel)) ?_
  refine fmS (snd_retI hM (by decide +kernel)) ?_
  exact fmE
theorem iX10_partOf {d mc ms n : Nat} {av : List Value} {M : PM} {P : PO} (hw : wid av ≤ 4) (hb : ∀ J : KT, (∀ (k : Nat) (stops : Nat → Bool) (pc : Nat) (lv : LV) (st : List Value) (nn : NN) (M : PM), lk (tX10_partOf d mc ms P) pc (wpN (tX10_partOf d mc ms P) stops k J) lv st nn M → J pc lv st nn M) → J 0 (entA 0 av) [] (n, 0, 0) M) : CallOK (d + 1) mc ms yX10_partOf (Cond.code yX10_partOf cX10_partOf 4 (some .int)) av n M P := call_intro (own := RX10) (by decide) rfl hw (fun _ _ _ _ _ _ _ _ _ _ _ _ _ hM => sX10_partOf hM) hb
def tX10_executes (d mc ms : Nat) (P : PO) : List (Nat × OP) := [(0, oAld 0 1), (1, oCallV d mc ms P 0 0 yX10_begins (Cond.code yX10_begins cX10_begins 2 none) 0 10 4), (4, oAld 0 5), (5, oGr 10 1 8), (8, oPush (.int 2) 9), (9, oAi 100 10), (10, oIst 3 11), (11, oPush (.int 0) 12), (12, oIst 4 14), (14, oIld 4 16), (16, oIld 3 17), (17, oIc (fun x y => y ≤ x) 36 20), (20, oIld 1 21), (21, oIf (fun x => x = 0) 24 36), (24, oAld 0 25), (25, oIld 4 27), (27, oCallV d mc ms P 0 0 yX10_runs (Cond.code yX10_runs cX10_runs 3 none) 1 10 30), (30, oInc 4 1 33), (33, oGoto 14), (36, oIld 1 37), (37, oIf (fun x => x = 0) 44 40), (40, oIld 3 41), (41, oIf (fun x => x = 0) 44 45), (44, oRetV mc ms P), (45, oAld 0 46), (46, oIld 3 47), (47, oPush (.int 1) 48), (48, oI2 (fun x y => x - y) 49), (49, oCallV d mc ms P 0 0 yX10_runs (Cond.code yX10_runs cX10_runs 3 none) 1 10 52), (52, oPush (.int 0) 53), (53, oIst 4 55), (55, oIld 4 57), (57, oPush (.int 8) 59), (59, oIc (fun x y => y ≤ x) 96 62), (62, oAld 0 63), (63, oGr 10 30 66), (66, oIld 4 68), (68, oAld 0 69), (69, oGr 10 25 72), (72, oIld 4 74), (74, oAi 100 75), (75, oSi 100 (fun x => x) 76), (76, oAld 0 77), (77, oGr 10 31 80), (80, oIld 4 82), (82, oAld 0 83), (83, oGr 10 26 86), (86, oIld 4 88), (88, oAf 89), (89, oSf 90), (90, oInc 4 1 93), (93, oGoto 55), (96, oPush (.int 0) 97), (97, oIst 4 99), (99, oIld 4 101), (101, oPush (.int 8) 103), (103, oIc (fun x y => y ≤ x) 129 106), (106, oAld 0 107), (107, oIld 4 109), (109, oCallV d mc ms P 0 0 yX10_isReduction (Cond.code yX10_isReduction cX10_isReduction 2 (some .boolean)) 1 10 112), (112, oIf (fun x => x = 0) 123 115), (115, oAld 0 116), (116, oIld 4 118), (118, oIld 1 119), (119, oIld 2 120), (120, oCallV d mc ms P 0 0 yX10_combines (Cond.code yX10_combines cX10_combines 9 none) 3 10 123), (123, oInc 4 1 126), (126, oGoto 99), (129, oPush (.int 0) 130), (130, oIst 4 132), (132, oIld 4 134), (134, oPush (.int 8) 136), (136, oIc (fun x y => y ≤ x) 173 139), (139, oAld 0 140), (140, oGr 10 25 143), (143, oIld 4 145), (145, oAld 0 146), (146, oGr 10 30 149), (149, oIld 4 151), (151, oAi 100 152), (152, oSi 100 (fun x => x) 153), (153, oAld 0 154), (154, oGr 10 26 157), (157, oIld 4 159), (159, oAld 0 160), (160, oGr 10 31 163), (163, oIld 4 165), (165, oAf 166), (166, oSf 167), (167, oInc 4 1 170), (170, oGoto 132), (173, oRetV mc ms P)]
set_option maxRecDepth 20000 in
theorem sX10_executes {p : Program} {l : Launch} {e : Env} {s : State} {m : MethodId} {args : Array Value} {below : List Frame} {meth : Method} {c : Code} {D : va_G} {cA : Nat → ClassId} {ad0 : Nat → Nat} {n0 sz d mc ms : Nat} {P : PO} (hM : FM p l s m args meth c D cA 5 ad0 n0 sz cX10_executes RX10 none [] yX10_executes.name) : ∀ q ∈ tX10_executes d mc ms P, Snd (jM p l e s m args below meth c D cA 5 ad0 n0 sz (d + 1) mc ms P) q.1 q.2 := by
  have hF := hM.1
  have hts := hF.2.2.2.2.1
  unfold tX10_executes
  refine fmS (snd_aloadn hF (k := 0) rfl (by decide +kernel)) ?_
  refine fmS (snd_callV hM k_X10_begins okX10 qw1440 qw1442 (hts _ qw65) (by decide +kernel)) ?_
  refine fmS (snd_aloadn hF (k := 0) rfl (by decide +kernel)) ?_
  refine fmS (snd_getr hF okX10 (k := 1) (by decide) qw1105 rfl rfl (by decide +kernel)) ?_
  refine fmS (snd_iconst hF (n := 2) rfl (by decide +kernel)) ?_
  refine fmS (snd_iaload hF (by decide +kernel)) ?_
  refine fmS (snd_istoren hF (k := 3) rfl (by decide) (by decide +kernel)) ?_
  refine fmS (snd_iconst hF (n := 0) rfl (by decide +kernel)) ?_
  refine fmS (snd_istore hF (by decide) (by decide +kernel)) ?_
  refine fmS (snd_iload hF (by decide +kernel)) ?_
  refine fmS (snd_iloadn hF (k := 3) rfl (by decide +kernel)) ?_
  refine fmS (snd_icmp_ge hF (off := 19) (by decide) (by decide +kernel)) ?_
  refine fmS (snd_iloadn hF (k := 1) rfl (by decide +kernel)) ?_
  refine fmS (snd_if_ne hF (off := 15) (by decide) (by decide +kernel)) ?_
  refine fmS (snd_aloadn hF (k := 0) rfl (by decide +kernel)) ?_
  refine fmS (snd_iload hF (by decide +kernel)) ?_
  refine fmS (snd_callV hM k_X10_runs okX10 qw1444 qw1446 (hts _ qw66) (by decide +kernel)) ?_
  refine fmS (snd_iinc hF (n := 1) (by decide +kernel) (by decide) (by decide +kernel)) ?_
  refine fmS (snd_goto hF (off := (-19)) (by decide) (by decide +kernel)) ?_
  refine fmS (snd_iloadn hF (k := 1) rfl (by decide +kernel)) ?_
  refine fmS (snd_if_eq hF (off := 7) (by decide) (by decide +kernel)) ?_
  refine fmS (snd_iloadn hF (k := 3) rfl (by decide +kernel)) ?_
  refine fmS (snd_if_ne hF (off := 4) (by decide) (by decide +kernel)) ?_
  refine fmS (snd_retV hM (by decide +kernel)) ?_
  refine fmS (snd_aloadn hF (k := 0) rfl (by decide +kernel)) ?_
  refine fmS (snd_iloadn hF (k := 3) rfl (by decide +kernel)) ?_
  refine fmS (snd_iconst hF (n := 1) rfl (by decide +kernel)) ?_
  refine fmS (snd_isub hF (by decide +kernel)) ?_
  refine fmS (snd_callV hM k_X10_runs okX10 qw1444 qw1446 (hts _ qw66) (by decide +kernel)) ?_
  refine fmS (snd_iconst hF (n := 0) rfl (by decide +kernel)) ?_
  refine fmS (snd_istore hF (by decide) (by decide +kernel)) ?_
  refine fmS (snd_iload hF (by decide +kernel)) ?_
  refine fmS (snd_bipush hF (n := 8) (by decide +kernel) (by decide +kernel)) ?_
  refine fmS (snd_icmp_ge hF (off := 37) (by decide) (by decide +kernel)) ?_
  refine fmS (snd_aloadn hF (k := 0) rfl (by decide +kernel)) ?_
  refine fmS (snd_getr hF okX10 (k := 30) (by decide) qw1134 rfl rfl (by decide +kernel)) ?_
  refine fmS (snd_iload hF (by decide +kernel)) ?_
  refine fmS (snd_aloadn hF (k := 0) rfl (by decide +kernel)) ?_
  refine fmS (snd_getr hF okX10 (k := 25) (by decide) qw1129 rfl rfl (by decide +kernel)) ?_
  refine fmS (snd_iload hF (by decide +kernel)) ?_
  refine fmS (snd_iaload hF (by decide +kernel)) ?_
  refine fmS (snd_iastore hF (by decide +kernel)) ?_
  refine fmS (snd_aloadn hF (k := 0) rfl (by decide +kernel)) ?_
  refine fmS (snd_getr hF okX10 (k := 31) (by decide) qw1135 rfl rfl (by decide +kernel)) ?_
  refine fmS (snd_iload hF (by decide +kernel)) ?_
  refine fmS (snd_aloadn hF (k := 0) rfl (by decide +kernel)) ?_
  refine fmS (snd_getr hF okX10 (k := 26) (by decide) qw1130 rfl rfl (by decide +kernel)) ?_
  refine fmS (snd_iload hF (by decide +kernel)) ?_
  refine fmS (snd_faload hF (by decide +kernel)) ?_
  refine fmS (snd_fastore hF (by decide +kernel)) ?_
  refine fmS (snd_iinc hF (n := 1) (by decide +kernel) (by decide) (by decide +kernel)) ?_
  refine fmS (snd_goto hF (off := (-38)) (by decide) (by decide +kernel)) ?_
  refine fmS (snd_iconst hF (n := 0) rfl (by decide +kernel)) ?_
  refine fmS (snd_istore hF (by decide) (by decide +kernel)) ?_
  refine fmS (snd_iload hF (by decide +kernel)) ?_
  refine fmS (snd_bipush hF (n := 8) (by decide +kernel) (by decide +kernel)) ?_
  refine fmS (snd_icmp_ge hF (off := 26) (by decide) (by decide +kernel)) ?_
  refine fmS (snd_aloadn hF (k := 0) rfl (by decide +kernel)) ?_
  refine fmS (snd_iload hF (by decide +kernel)) ?_
  refine fmS (snd_callV hM k_X10_isReduction okX10 qw1478 qw1480 (hts _ qw69) (by decide +kernel)) ?_
  refine fmS (snd_if_eq hF (off := 11) (by decide) (by decide +kernel)) ?_
  refine fmS (snd_aloadn hF (k := 0) rfl (by decide +kernel)) ?_
  refine fmS (snd_iload hF (by decide +kernel)) ?_
  refine fmS (snd_iloadn hF (k := 1) rfl (by decide +kernel)) ?_
  refine fmS (snd_iloadn hF (k := 2) rfl (by decide +kernel)) ?_
  refine fmS (snd_callV hM k_X10_combines okX10 qw1482 qw1484 (hts _ qw70) (by decide +kernel)) ?_
  refine fmS (snd_iinc hF (n := 1) (by decide +kernel) (by decide) (by decide +kernel)) ?_
  refine fmS (snd_goto hF (off := (-27)) (by decide) (by decide +kernel)) ?_
  refine fmS (snd_iconst hF (n := 0) rfl (by decide +kernel)) ?_
  refine fmS (snd_istore hF (by decide) (by decide +kernel)) ?_
  refine fmS (snd_iload hF (by decide +kernel)) ?_
  refine fmS (snd_bipush hF (n := 8) (by decide +kernel) (by decide +kernel)) ?_
  refine fmS (snd_icmp_ge hF (off := 37) (by decide) (by decide +kernel)) ?_
  refine fmS (snd_aloadn hF (k := 0) rfl (by decide +kernel)) ?_
  refine fmS (snd_getr hF okX10 (k := 25) (by decide) qw1129 rfl rfl (by decide +kernel)) ?_
  refine fmS (snd_iload hF (by decide +kernel)) ?_
  refine fmS (snd_aloadn hF (k := 0) rfl (by decide +kernel)) ?_
  refine fmS (snd_getr hF okX10 (k := 30) (by decide) qw1134 rfl rfl (by decide +kernel)) ?_
  refine fmS (snd_iload hF (by decide +kernel)) ?_
  refine fmS (snd_iaload hF (by decide +kernel)) ?_
  refine fmS (snd_iastore hF (by decide +kernel)) ?_
  refine fmS (snd_aloadn hF (k := 0) rfl (by decide +kernel)) ?_
  refine fmS (snd_getr hF okX10 (k := 26) (by decide) qw1130 rfl rfl (by decide +kernel)) ?_
  refine fmS (snd_iload hF (by decide +kernel)) ?_
  refine fmS (snd_aloadn hF (k := 0) rfl (by decide +kernel)) ?_
  refine fmS (snd_getr hF okX10 (k := 31) (by decide) qw1135 rfl rfl (by decide +kernel)) ?_
  refine fmS (snd_iload hF (by decide +kernel)) ?_
  refine fmS (snd_faload hF (by decide +kernel)) ?_
  refine fmS (snd_fastore hF (by decide +kernel)) ?_
  refine fmS (snd_iinc hF (n := 1) (by decide +kernel) (by decide) (by decide +kernel)) ?_
  refine fmS (snd_goto hF (off := (-38)) (by decide) (by decide +kernel)) ?_
  refine fmS (snd_retV hM (by decide +kernel)) ?_
  exact fmE
theorem iX10_executes {d mc ms n : Nat} {av : List Value} {M : PM} {P : PO} (hw : wid av ≤ 5) (hb : ∀ J : KT, (∀ (k : Nat) (stops : Nat → Bool) (pc : Nat) (lv : LV) (st : List Value) (nn : NN) (M : PM), lk (tX10_executes d mc ms P) pc (wpN (tX10_executes d mc ms P) stops k J) lv st nn M → J pc lv st nn M) → J 0 (entA 0 av) [] (n, 0, 0) M) : CallOK (d + 1) mc ms yX10_executes (Cond.code yX10_executes cX10_executes 5 none) av n M P := call_intro (own := RX10) (by decide) rfl hw (fun _ _ _ _ _ _ _ _ _ _ _ _ _ hM => sX10_executes hM) hb
def tX10_combines (d mc ms : Nat) (P : PO) : List (Nat × OP) := [(0, oAld 0 1), (1, oIld 2 2), (2, oIld 3 3), (3, oCallV d mc ms P 0 0 yX10_parts (Cond.code yX10_parts cX10_parts 3 (some .int)) 2 10 6), (6, oIst 4 8), (8, oAld 0 9), (9, oIld 1 10), (10, oCallV d mc ms P 0 0 yX10_operatorOf (Cond.code yX10_operatorOf cX10_operatorOf 3 (some .int)) 1 10 13), (13, oIst 5 15), (15, oPush (.int 0) 16), (16, oIst 6 18), (18, oIld 6 20), (20, oIld 4 22), (22, oIc (fun x y => y ≤ x) 100 25), (25, oAld 0 26), (26, oCallV d mc ms P 0 0 yX10_beginsPart (Cond.code yX10_beginsPart cX10_beginsPart 3 none) 0 10 29), (29, oPush (.int 0) 30), (30, oIst 7 32), (32, oIld 7 34), (34, oAld 0 35), (35, oGr 10 1 38), (38, oPush (.int 2) 39), (39, oAi 100 40), (40, oIc (fun x y => y ≤ x) 68 43), (43, oAld 0 44), (44, oIld 2 45), (45, oIld 3 46), (46, oIld 7 48), (48, oCallV d mc ms P 0 0 yX10_partOf (Cond.code yX10_partOf cX10_partOf 4 (some .int)) 3 10 51), (51, oIld 6 53), (53, oIc (fun x y => x = y) 56 62), (56, oAld 0 57), (57, oIld 7 59), (59, oCallV d mc ms P 0 0 yX10_runs (Cond.code yX10_runs cX10_runs 3 none) 1 10 62), (62, oInc 7 1 65), (65, oGoto 32), (68, oAld 0 69), (69, oGr 10 27 72), (72, oIld 6 74), (74, oAld 0 75), (75, oGr 10 25 78), (78, oIld 1 79), (79, oAi 100 80), (80, oSi 100 (fun x => x) 81), (81, oAld 0 82), (82, oGr 10 28 85), (85, oIld 6 87), (87, oAld 0 88), (88, oGr 10 26 91), (91, oIld 1 92), (92, oAf 93), (93, oSf 94), (94, oInc 6 1 97), (97, oGoto 18), (100, oIld 2 101), (101, oPush (.int 3) 102), (102, oIc (fun x y => x = y) 105 234), (105, oIld 4 107), (107, oPush (.int 1) 108), (108, oIc (fun x y => x ≤ y) 234 111), (111, oPush (.int 0) 112), (112, oIst 6 114), (114, oPush (.int 0) 115), (115, oIst 7 117), (117, oIld 7 119), (119, oIld 4 121), (121, oIc (fun x y => y ≤ x) 227 124), (124, oAld 0 125), (125, oGr 10 27 128), (128, oIld 6 130), (130, oIld 7 132), (132, oPush (.int 1) 133), (133, oI2 (fun x y => x + y) 134), (134, oIld 4 136), (136, oIc (fun x y => y ≤ x) 163 139), (139, oIld 5 141), (141, oAld 0 142), (142, oGr 10 27 145), (145, oIld 7 147), (147, oAi 100 148), (148, oAld 0 149), (149, oGr 10 27 152), (152, oIld 7 154), (154, oPush (.int 1) 155), (155, oI2 (fun x y => x + y) 156), (156, oAi 100 157), (157, oCallS d mc ms P 0 0 yX10_intBy (Cond.code yX10_intBy cX10_intBy 3 (some .int)) 3 160), (160, oGoto 170), (163, oAld 0 164), (164, oGr 10 27 167), (167, oIld 7 169), (169, oAi 100 170), (170, oSi 100 (fun x => x) 171), (171, oAld 0 172), (172, oGr 10 28 175), (175, oIld 6 177), (177, oIld 7 179), (179, oPush (.int 1) 180), (180, oI2 (fun x y => x + y) 181), (181, oIld 4 183), (183, oIc (fun x y => y ≤ x) 210 186), (186, oIld 5 188), (188, oAld 0 189), (189, oGr 10 28 192), (192, oIld 7 194), (194, oAf 195), (195, oAld 0 196), (196, oGr 10 28 199), (199, oIld 7 201), (201, oPush (.int 1) 202), (202, oI2 (fun x y => x + y) 203), (203, oAf 204), (204, oCallS d mc ms P 0 0 yX10_floatBy (Cond.code yX10_floatBy cX10_floatBy 3 (some .float)) 3 207), (207, oGoto 217), (210, oAld 0 211), (211, oGr 10 28 214), (214, oIld 7 216), (216, oAf 217), (217, oSf 218), (218, oInc 6 1 221), (221, oInc 7 2 224), (224, oGoto 117), (227, oIld 6 229), (229, oIst 4 231), (231, oGoto 100), (234, oAld 0 235), (235, oGr 10 1 238), (238, oPush (.int 67) 240), (240, oIld 1 241), (241, oI2 (fun x y => x + y) 242), (242, oAi 100 243), (243, oIst 6 245), (245, oAld 0 246), (246, oGr 10 1 249), (249, oPush (.int 67) 251), (251, oIld 1 252), (252, oI2 (fun x y => x + y) 253), (253, oAi 100 254), (254, oIcv (fun x => .float (FP.i2f x)) 255), (255, oFst 7 257), (257, oPush (.int 0) 258), (258, oIst 8 260), (260, oIld 8 262), (262, oIld 4 264), (264, oIc (fun x y => y ≤ x) 305 267), (267, oIld 5 269), (269, oIld 6 271), (271, oAld 0 272), (272, oGr 10 27 275), (275, oIld 8 277), (277, oAi 100 278), (278, oCallS d mc ms P 0 0 yX10_intBy (Cond.code yX10_intBy cX10_intBy 3 (some .int)) 3 281), (281, oIst 6 283), (283, oIld 5 285), (285, oFld 7 287), (287, oAld 0 288), (288, oGr 10 28 291), (291, oIld 8 293), (293, oAf 294), (294, oCallS d mc ms P 0 0 yX10_floatBy (Cond.code yX10_floatBy cX10_floatBy 3 (some .float)) 3 297), (297, oFst 7 299), (299, oInc 8 1 302), (302, oGoto 260), (305, oAld 0 306), (306, oGr 10 30 309), (309, oIld 1 310), (310, oIld 6 312), (312, oSi 100 (fun x => x) 313), (313, oAld 0 314), (314, oGr 10 31 317), (317, oIld 1 318), (318, oFld 7 320), (320, oSf 321), (321, oRetV mc ms P)]
set_option maxRecDepth 20000 in
theorem sX10_combines {p : Program} {l : Launch} {e : Env} {s : State} {m : MethodId} {args : Array Value} {below : List Frame} {meth : Method} {c : Code} {D : va_G} {cA : Nat → ClassId} {ad0 : Nat → Nat} {n0 sz d mc ms : Nat} {P : PO} (hM : FM p l s m args meth c D cA 9 ad0 n0 sz cX10_combines RX10 none [] yX10_combines.name) : ∀ q ∈ tX10_combines d mc ms P, Snd (jM p l e s m args below meth c D cA 9 ad0 n0 sz (d + 1) mc ms P) q.1 q.2 := by
  have hF := hM.1
  have hts := hF.2.2.2.2.1
  unfold tX10_combines
  refine fmS (snd_aloadn hF (k := 0) rfl (by decide +kernel)) ?_
  refine fmS (snd_iloadn hF (k := 2) rfl (by decide +kernel)) ?_
  refine fmS (snd_iloadn hF (k := 3) rfl (by decide +kernel)) ?_
  refine fmS (snd_callV hM k_X10_parts okX10 qw1486 qw1488 (hts _ qw71) (by decide +kernel)) ?_
  refine fmS (snd_istore hF (by decide) (by decide +kernel)) ?_
  refine fmS (snd_aloadn hF (k := 0) rfl (by decide +kernel)) ?_
  refine fmS (snd_iloadn hF (k := 1) rfl (by decide +kernel)) ?_
  refine fmS (snd_callV hM k_X10_operatorOf okX10 qw1356 qw1358 (hts _ qw56) (by decide +kernel)) ?_
  refine fmS (snd_istore hF (by decide) (by decide +kernel)) ?_
  refine fmS (snd_iconst hF (n := 0) rfl (by decide +kernel)) ?_
  refine fmS (snd_istore hF (by decide) (by decide +kernel)) ?_
  refine fmS (snd_iload hF (by decide +kernel)) ?_
  refine fmS (snd_iload hF (by decide +kernel)) ?_
  refine fmS (snd_icmp_ge hF (off := 78) (by decide) (by decide +kernel)) ?_
  refine fmS (snd_aloadn hF (k := 0) rfl (by decide +kernel)) ?_
  refine fmS (snd_callV hM k_X10_beginsPart okX10 qw1490 qw1492 (hts _ qw72) (by decide +kernel)) ?_
  refine fmS (snd_iconst hF (n := 0) rfl (by decide +kernel)) ?_
  refine fmS (snd_istore hF (by decide) (by decide +kernel)) ?_
  refine fmS (snd_iload hF (by decide +kernel)) ?_
  refine fmS (snd_aloadn hF (k := 0) rfl (by decide +kernel)) ?_
  refine fmS (snd_getr hF okX10 (k := 1) (by decide) qw1105 rfl rfl (by decide +kernel)) ?_
  refine fmS (snd_iconst hF (n := 2) rfl (by decide +kernel)) ?_
  refine fmS (snd_iaload hF (by decide +kernel)) ?_
  refine fmS (snd_icmp_ge hF (off := 28) (by decide) (by decide +kernel)) ?_
  refine fmS (snd_aloadn hF (k := 0) rfl (by decide +kernel)) ?_
  refine fmS (snd_iloadn hF (k := 2) rfl (by decide +kernel)) ?_
  refine fmS (snd_iloadn hF (k := 3) rfl (by decide +kernel)) ?_
  refine fmS (snd_iload hF (by decide +kernel)) ?_
  refine fmS (snd_callV hM k_X10_partOf okX10 qw1496 qw1498 (hts _ qw73) (by decide +kernel)) ?_
  refine fmS (snd_iload hF (by decide +kernel)) ?_
  refine fmS (snd_icmp_ne hF (off := 9) (by decide) (by decide +kernel)) ?_
  refine fmS (snd_aloadn hF (k := 0) rfl (by decide +kernel)) ?_
  refine fmS (snd_iload hF (by decide +kernel)) ?_
  refine fmS (snd_callV hM k_X10_runs okX10 qw1444 qw1446 (hts _ qw66) (by decide +kernel)) ?_
  refine fmS (snd_iinc hF (n := 1) (by decide +kernel) (by decide) (by decide +kernel)) ?_
  refine fmS (snd_goto hF (off := (-33)) (by decide) (by decide +kernel)) ?_
  refine fmS (snd_aloadn hF (k := 0) rfl (by decide +kernel)) ?_
  refine fmS (snd_getr hF okX10 (k := 27) (by decide) qw1131 rfl rfl (by decide +kernel)) ?_
  refine fmS (snd_iload hF (by decide +kernel)) ?_
  refine fmS (snd_aloadn hF (k := 0) rfl (by decide +kernel)) ?_
  refine fmS (snd_getr hF okX10 (k := 25) (by decide) qw1129 rfl rfl (by decide +kernel)) ?_
  refine fmS (snd_iloadn hF (k := 1) rfl (by decide +kernel)) ?_
  refine fmS (snd_iaload hF (by decide +kernel)) ?_
  refine fmS (snd_iastore hF (by decide +kernel)) ?_
  refine fmS (snd_aloadn hF (k := 0) rfl (by decide +kernel)) ?_
  refine fmS (snd_getr hF okX10 (k := 28) (by decide) qw1132 rfl rfl (by decide +kernel)) ?_
  refine fmS (snd_iload hF (by decide +kernel)) ?_
  refine fmS (snd_aloadn hF (k := 0) rfl (by decide +kernel)) ?_
  refine fmS (snd_getr hF okX10 (k := 26) (by decide) qw1130 rfl rfl (by decide +kernel)) ?_
  refine fmS (snd_iloadn hF (k := 1) rfl (by decide +kernel)) ?_
  refine fmS (snd_faload hF (by decide +kernel)) ?_
  refine fmS (snd_fastore hF (by decide +kernel)) ?_
  refine fmS (snd_iinc hF (n := 1) (by decide +kernel) (by decide) (by decide +kernel)) ?_
  refine fmS (snd_goto hF (off := (-79)) (by decide) (by decide +kernel)) ?_
  refine fmS (snd_iloadn hF (k := 2) rfl (by decide +kernel)) ?_
  refine fmS (snd_iconst hF (n := 3) rfl (by decide +kernel)) ?_
  refine fmS (snd_icmp_ne hF (off := 132) (by decide) (by decide +kernel)) ?_
  refine fmS (snd_iload hF (by decide +kernel)) ?_
  refine fmS (snd_iconst hF (n := 1) rfl (by decide +kernel)) ?_
  refine fmS (snd_icmp_le hF (off := 126) (by decide) (by decide +kernel)) ?_
  refine fmS (snd_iconst hF (n := 0) rfl (by decide +kernel)) ?_
  refine fmS (snd_istore hF (by decide) (by decide +kernel)) ?_
  refine fmS (snd_iconst hF (n := 0) rfl (by decide +kernel)) ?_
  refine fmS (snd_istore hF (by decide) (by decide +kernel)) ?_
  refine fmS (snd_iload hF (by decide +kernel)) ?_
  refine fmS (snd_iload hF (by decide +kernel)) ?_
  refine fmS (snd_icmp_ge hF (off := 106) (by decide) (by decide +kernel)) ?_
  refine fmS (snd_aloadn hF (k := 0) rfl (by decide +kernel)) ?_
  refine fmS (snd_getr hF okX10 (k := 27) (by decide) qw1131 rfl rfl (by decide +kernel)) ?_
  refine fmS (snd_iload hF (by decide +kernel)) ?_
  refine fmS (snd_iload hF (by decide +kernel)) ?_
  refine fmS (snd_iconst hF (n := 1) rfl (by decide +kernel)) ?_
  refine fmS (snd_iadd hF (by decide +kernel)) ?_
  refine fmS (snd_iload hF (by decide +kernel)) ?_
  refine fmS (snd_icmp_ge hF (off := 27) (by decide) (by decide +kernel)) ?_
  refine fmS (snd_iload hF (by decide +kernel)) ?_
  refine fmS (snd_aloadn hF (k := 0) rfl (by decide +kernel)) ?_
  refine fmS (snd_getr hF okX10 (k := 27) (by decide) qw1131 rfl rfl (by decide +kernel)) ?_
  refine fmS (snd_iload hF (by decide +kernel)) ?_
  refine fmS (snd_iaload hF (by decide +kernel)) ?_
  refine fmS (snd_aloadn hF (k := 0) rfl (by decide +kernel)) ?_
  refine fmS (snd_getr hF okX10 (k := 27) (by decide) qw1131 rfl rfl (by decide +kernel)) ?_
  refine fmS (snd_iload hF (by decide +kernel)) ?_
  refine fmS (snd_iconst hF (n := 1) rfl (by decide +kernel)) ?_
  refine fmS (snd_iadd hF (by decide +kernel)) ?_
  refine fmS (snd_iaload hF (by decide +kernel)) ?_
  refine fmS (snd_callS hM k_X10_intBy qw1452 qw1453 (by decide +kernel)) ?_
  refine fmS (snd_goto hF (off := 10) (by decide) (by decide +kernel)) ?_
  refine fmS (snd_aloadn hF (k := 0) rfl (by decide +kernel)) ?_
  refine fmS (snd_getr hF okX10 (k := 27) (by decide) qw1131 rfl rfl (by decide +kernel)) ?_
  refine fmS (snd_iload hF (by decide +kernel)) ?_
  refine fmS (snd_iaload hF (by decide +kernel)) ?_
  refine fmS (snd_iastore hF (by decide +kernel)) ?_
  refine fmS (snd_aloadn hF (k := 0) rfl (by decide +kernel)) ?_
  refine fmS (snd_getr hF okX10 (k := 28) (by decide) qw1132 rfl rfl (by decide +kernel)) ?_
  refine fmS (snd_iload hF (by decide +kernel)) ?_
  refine fmS (snd_iload hF (by decide +kernel)) ?_
  refine fmS (snd_iconst hF (n := 1) rfl (by decide +kernel)) ?_
  refine fmS (snd_iadd hF (by decide +kernel)) ?_
  refine fmS (snd_iload hF (by decide +kernel)) ?_
  refine fmS (snd_icmp_ge hF (off := 27) (by decide) (by decide +kernel)) ?_
  refine fmS (snd_iload hF (by decide +kernel)) ?_
  refine fmS (snd_aloadn hF (k := 0) rfl (by decide +kernel)) ?_
  refine fmS (snd_getr hF okX10 (k := 28) (by decide) qw1132 rfl rfl (by decide +kernel)) ?_
  refine fmS (snd_iload hF (by decide +kernel)) ?_
  refine fmS (snd_faload hF (by decide +kernel)) ?_
  refine fmS (snd_aloadn hF (k := 0) rfl (by decide +kernel)) ?_
  refine fmS (snd_getr hF okX10 (k := 28) (by decide) qw1132 rfl rfl (by decide +kernel)) ?_
  refine fmS (snd_iload hF (by decide +kernel)) ?_
  refine fmS (snd_iconst hF (n := 1) rfl (by decide +kernel)) ?_
  refine fmS (snd_iadd hF (by decide +kernel)) ?_
  refine fmS (snd_faload hF (by decide +kernel)) ?_
  refine fmS (snd_callS hM k_X10_floatBy qw1459 qw1460 (by decide +kernel)) ?_
  refine fmS (snd_goto hF (off := 10) (by decide) (by decide +kernel)) ?_
  refine fmS (snd_aloadn hF (k := 0) rfl (by decide +kernel)) ?_
  refine fmS (snd_getr hF okX10 (k := 28) (by decide) qw1132 rfl rfl (by decide +kernel)) ?_
  refine fmS (snd_iload hF (by decide +kernel)) ?_
  refine fmS (snd_faload hF (by decide +kernel)) ?_
  refine fmS (snd_fastore hF (by decide +kernel)) ?_
  refine fmS (snd_iinc hF (n := 1) (by decide +kernel) (by decide) (by decide +kernel)) ?_
  refine fmS (snd_iinc hF (n := 2) (by decide +kernel) (by decide) (by decide +kernel)) ?_
  refine fmS (snd_goto hF (off := (-107)) (by decide) (by decide +kernel)) ?_
  refine fmS (snd_iload hF (by decide +kernel)) ?_
  refine fmS (snd_istore hF (by decide) (by decide +kernel)) ?_
  refine fmS (snd_goto hF (off := (-131)) (by decide) (by decide +kernel)) ?_
  refine fmS (snd_aloadn hF (k := 0) rfl (by decide +kernel)) ?_
  refine fmS (snd_getr hF okX10 (k := 1) (by decide) qw1105 rfl rfl (by decide +kernel)) ?_
  refine fmS (snd_bipush hF (n := 67) (by decide +kernel) (by decide +kernel)) ?_
  refine fmS (snd_iloadn hF (k := 1) rfl (by decide +kernel)) ?_
  refine fmS (snd_iadd hF (by decide +kernel)) ?_
  refine fmS (snd_iaload hF (by decide +kernel)) ?_
  refine fmS (snd_istore hF (by decide) (by decide +kernel)) ?_
  refine fmS (snd_aloadn hF (k := 0) rfl (by decide +kernel)) ?_
  refine fmS (snd_getr hF okX10 (k := 1) (by decide) qw1105 rfl rfl (by decide +kernel)) ?_
  refine fmS (snd_bipush hF (n := 67) (by decide +kernel) (by decide +kernel)) ?_
  refine fmS (snd_iloadn hF (k := 1) rfl (by decide +kernel)) ?_
  refine fmS (snd_iadd hF (by decide +kernel)) ?_
  refine fmS (snd_iaload hF (by decide +kernel)) ?_
  refine fmS (snd_i2f hF (by decide +kernel)) ?_
  refine fmS (snd_fstore hF (by decide) (by decide +kernel)) ?_
  refine fmS (snd_iconst hF (n := 0) rfl (by decide +kernel)) ?_
  refine fmS (snd_istore hF (by decide) (by decide +kernel)) ?_
  refine fmS (snd_iload hF (by decide +kernel)) ?_
  refine fmS (snd_iload hF (by decide +kernel)) ?_
  refine fmS (snd_icmp_ge hF (off := 41) (by decide) (by decide +kernel)) ?_
  refine fmS (snd_iload hF (by decide +kernel)) ?_
  refine fmS (snd_iload hF (by decide +kernel)) ?_
  refine fmS (snd_aloadn hF (k := 0) rfl (by decide +kernel)) ?_
  refine fmS (snd_getr hF okX10 (k := 27) (by decide) qw1131 rfl rfl (by decide +kernel)) ?_
  refine fmS (snd_iload hF (by decide +kernel)) ?_
  refine fmS (snd_iaload hF (by decide +kernel)) ?_
  refine fmS (snd_callS hM k_X10_intBy qw1452 qw1453 (by decide +kernel)) ?_
  refine fmS (snd_istore hF (by decide) (by decide +kernel)) ?_
  refine fmS (snd_iload hF (by decide +kernel)) ?_
  refine fmS (snd_fload hF (by decide +kernel)) ?_
  refine fmS (snd_aloadn hF (k := 0) rfl (by decide +kernel)) ?_
  refine fmS (snd_getr hF okX10 (k := 28) (by decide) qw1132 rfl rfl (by decide +kernel)) ?_
  refine fmS (snd_iload hF (by decide +kernel)) ?_
  refine fmS (snd_faload hF (by decide +kernel)) ?_
  refine fmS (snd_callS hM k_X10_floatBy qw1459 qw1460 (by decide +kernel)) ?_
  refine fmS (snd_fstore hF (by decide) (by decide +kernel)) ?_
  refine fmS (snd_iinc hF (n := 1) (by decide +kernel) (by decide) (by decide +kernel)) ?_
  refine fmS (snd_goto hF (off := (-42)) (by decide) (by decide +kernel)) ?_
  refine fmS (snd_aloadn hF (k := 0) rfl (by decide +kernel)) ?_
  refine fmS (snd_getr hF okX10 (k := 30) (by decide) qw1134 rfl rfl (by decide +kernel)) ?_
  refine fmS (snd_iloadn hF (k := 1) rfl (by decide +kernel)) ?_
  refine fmS (snd_iload hF (by decide +kernel)) ?_
  refine fmS (snd_iastore hF (by decide +kernel)) ?_
  refine fmS (snd_aloadn hF (k := 0) rfl (by decide +kernel)) ?_
  refine fmS (snd_getr hF okX10 (k := 31) (by decide) qw1135 rfl rfl (by decide +kernel)) ?_
  refine fmS (snd_iloadn hF (k := 1) rfl (by decide +kernel)) ?_
  refine fmS (snd_fload hF (by decide +kernel)) ?_
  refine fmS (snd_fastore hF (by decide +kernel)) ?_
  refine fmS (snd_retV hM (by decide +kernel)) ?_
  exact fmE
theorem iX10_combines {d mc ms n : Nat} {av : List Value} {M : PM} {P : PO} (hw : wid av ≤ 9) (hb : ∀ J : KT, (∀ (k : Nat) (stops : Nat → Bool) (pc : Nat) (lv : LV) (st : List Value) (nn : NN) (M : PM), lk (tX10_combines d mc ms P) pc (wpN (tX10_combines d mc ms P) stops k J) lv st nn M → J pc lv st nn M) → J 0 (entA 0 av) [] (n, 0, 0) M) : CallOK (d + 1) mc ms yX10_combines (Cond.code yX10_combines cX10_combines 9 none) av n M P := call_intro (own := RX10) (by decide) rfl hw (fun _ _ _ _ _ _ _ _ _ _ _ _ _ hM => sX10_combines hM) hb
def tX10_hasBits (d mc ms : Nat) (P : PO) : List (Nat × OP) := [(0, oPush (.int 0) 1), (1, oIst 1 2), (2, oIld 1 3), (3, oAld 0 4), (4, oGr 10 1 7), (7, oPush (.int 0) 8), (8, oAi 100 9), (9, oIc (fun x y => y ≤ x) 64 12), (12, oPush (.int 0) 13), (13, oIst 2 14), (14, oIld 2 15), (15, oAld 0 16), (16, oGr 10 1 19), (19, oPush (.int 11) 21), (21, oIld 1 22), (22, oI2 (fun x y => x + y) 23), (23, oAi 100 24), (24, oIc (fun x y => y ≤ x) 58 27), (27, oAld 0 28), (28, oGr 10 1 31), (31, oIld 1 32), (32, oCallS d mc ms P 0 0 yX10_code (Cond.code yX10_code cX10_code 1 (some .int)) 1 35), (35, oIld 2 36), (36, oI2 (fun x y => x + y) 37), (37, oAi 100 38), (38, oPush (.int 302) 41), (41, oPush (.int 304) 44), (44, oCallS d mc ms P 0 0 yX10_in (Cond.code yX10_in cX10_in 3 (some .boolean)) 3 47), (47, oIf (fun x => x = 0) 52 50), (50, oPush (.int 1) 51), (51, oRetZ mc ms P), (52, oInc 2 1 55), (55, oGoto 14), (58, oInc 1 1 61), (61, oGoto 2), (64, oPush (.int 0) 65), (65, oRetZ mc ms P)]
set_option maxRecDepth 20000 in
theorem sX10_hasBits {p : Program} {l : Launch} {e : Env} {s : State} {m : MethodId} {args : Array Value} {below : List Frame} {meth : Method} {c : Code} {D : va_G} {cA : Nat → ClassId} {ad0 : Nat → Nat} {n0 sz d mc ms : Nat} {P : PO} (hM : FM p l s m args meth c D cA 3 ad0 n0 sz cX10_hasBits RX10 (some .boolean) [] yX10_hasBits.name) : ∀ q ∈ tX10_hasBits d mc ms P, Snd (jM p l e s m args below meth c D cA 3 ad0 n0 sz (d + 1) mc ms P) q.1 q.2 := by
  have hF := hM.1
  have hts := hF.2.2.2.2.1
  unfold tX10_hasBits
  refine fmS (snd_iconst hF (n := 0) rfl (by decide +kernel)) ?_
  refine fmS (snd_istoren hF (k := 1) rfl (by decide) (by decide +kernel)) ?_
  refine fmS (snd_iloadn hF (k := 1) rfl (by decide +kernel)) ?_
  refine fmS (snd_aloadn hF (k := 0) rfl (by decide +kernel)) ?_
  refine fmS (snd_getr hF okX10 (k := 1) (by decide) qw1105 rfl rfl (by decide +kernel)) ?_
  refine fmS (snd_iconst hF (n := 0) rfl (by decide +kernel)) ?_
  refine fmS (snd_iaload hF (by decide +kernel)) ?_
  refine fmS (snd_icmp_ge hF (off := 55) (by decide) (by decide +kernel)) ?_
  refine fmS (snd_iconst hF (n := 0) rfl (by decide +kernel)) ?_
  refine fmS (snd_istoren hF (k := 2) rfl (by decide) (by decide +kernel)) ?_
  refine fmS (snd_iloadn hF (k := 2) rfl (by decide +kernel)) ?_
  refine fmS (snd_aloadn hF (k := 0) rfl (by decide +kernel)) ?_
  refine fmS (snd_getr hF okX10 (k := 1) (by decide) qw1105 rfl rfl (by decide +kernel)) ?_
  refine fmS (snd_bipush hF (n := 11) (by decide +kernel) (by decide +kernel)) ?_
  refine fmS (snd_iloadn hF (k := 1) rfl (by decide +kernel)) ?_
  refine fmS (snd_iadd hF (by decide +kernel)) ?_
  refine fmS (snd_iaload hF (by decide +kernel)) ?_
  refine fmS (snd_icmp_ge hF (off := 34) (by decide) (by decide +kernel)) ?_
  refine fmS (snd_aloadn hF (k := 0) rfl (by decide +kernel)) ?_
  refine fmS (snd_getr hF okX10 (k := 1) (by decide) qw1105 rfl rfl (by decide +kernel)) ?_
  refine fmS (snd_iloadn hF (k := 1) rfl (by decide +kernel)) ?_
  refine fmS (snd_callS hM k_X10_code qw1098 qw1099 (by decide +kernel)) ?_
  refine fmS (snd_iloadn hF (k := 2) rfl (by decide +kernel)) ?_
  refine fmS (snd_iadd hF (by decide +kernel)) ?_
  refine fmS (snd_iaload hF (by decide +kernel)) ?_
  refine fmS (snd_sipush hF (n := 302) (by decide +kernel) (by decide +kernel)) ?_
  refine fmS (snd_sipush hF (n := 304) (by decide +kernel) (by decide +kernel)) ?_
  refine fmS (snd_callS hM k_X10_in qw1101 qw1102 (by decide +kernel)) ?_
  refine fmS (snd_if_eq hF (off := 5) (by decide) (by decide +kernel)) ?_
  refine fmS (snd_iconst hF (n := 1) rfl (by decide +kernel)) ?_
  refine fmS (snd_retZ hM (by decide +kernel)) ?_
  refine fmS (snd_iinc hF (n := 1) (by decide +kernel) (by decide) (by decide +kernel)) ?_
  refine fmS (snd_goto hF (off := (-41)) (by decide) (by decide +kernel)) ?_
  refine fmS (snd_iinc hF (n := 1) (by decide +kernel) (by decide) (by decide +kernel)) ?_
  refine fmS (snd_goto hF (off := (-59)) (by decide) (by decide +kernel)) ?_
  refine fmS (snd_iconst hF (n := 0) rfl (by decide +kernel)) ?_
  refine fmS (snd_retZ hM (by decide +kernel)) ?_
  exact fmE
theorem iX10_hasBits {d mc ms n : Nat} {av : List Value} {M : PM} {P : PO} (hw : wid av ≤ 3) (hb : ∀ J : KT, (∀ (k : Nat) (stops : Nat → Bool) (pc : Nat) (lv : LV) (st : List Value) (nn : NN) (M : PM), lk (tX10_hasBits d mc ms P) pc (wpN (tX10_hasBits d mc ms P) stops k J) lv st nn M → J pc lv st nn M) → J 0 (entA 0 av) [] (n, 0, 0) M) : CallOK (d + 1) mc ms yX10_hasBits (Cond.code yX10_hasBits cX10_hasBits 3 (some .boolean)) av n M P := call_intro (own := RX10) (by decide) rfl hw (fun _ _ _ _ _ _ _ _ _ _ _ _ _ hM => sX10_hasBits hM) hb
def tX10_isOrder (d mc ms : Nat) (P : PO) : List (Nat × OP) := [(0, oIld 0 1), (1, oIf (fun x => x = 0) 28 4), (4, oIld 0 5), (5, oPush (.int 3) 6), (6, oIc (fun x y => x = y) 28 9), (9, oIld 0 10), (10, oPush (.int 1) 11), (11, oPush (.int 2) 12), (12, oCallS d mc ms P 0 0 yX10_in (Cond.code yX10_in cX10_in 3 (some .boolean)) 3 15), (15, oIf (fun x => x = 0) 32 18), (18, oIld 1 19), (19, oPush (.int 1) 20), (20, oPush (.int 8) 22), (22, oCallS d mc ms P 0 0 yX10_in (Cond.code yX10_in cX10_in 3 (some .boolean)) 3 25), (25, oIf (fun x => x = 0) 32 28), (28, oPush (.int 1) 29), (29, oGoto 33), (32, oPush (.int 0) 33), (33, oRetZ mc ms P)]
set_option maxRecDepth 20000 in
theorem sX10_isOrder {p : Program} {l : Launch} {e : Env} {s : State} {m : MethodId} {args : Array Value} {below : List Frame} {meth : Method} {c : Code} {D : va_G} {cA : Nat → ClassId} {ad0 : Nat → Nat} {n0 sz d mc ms : Nat} {P : PO} (hM : FM p l s m args meth c D cA 2 ad0 n0 sz cX10_isOrder RX10 (some .boolean) [] yX10_isOrder.name) : ∀ q ∈ tX10_isOrder d mc ms P, Snd (jM p l e s m args below meth c D cA 2 ad0 n0 sz (d + 1) mc ms P) q.1 q.2 := by
  have hF := hM.1
  have hts := hF.2.2.2.2.1
  unfold tX10_isOrder
  refine fmS (snd_iloadn hF (k := 0) rfl (by decide +kernel)) ?_
  refine fmS (snd_if_eq hF (off := 27) (by decide) (by decide +kernel)) ?_
  refine fmS (snd_iloadn hF (k := 0) rfl (by decide +kernel)) ?_
  refine fmS (snd_iconst hF (n := 3) rfl (by decide +kernel)) ?_
  refine fmS (snd_icmp_eq hF (off := 22) (by decide) (by decide +kernel)) ?_
  refine fmS (snd_iloadn hF (k := 0) rfl (by decide +kernel)) ?_
  refine fmS (snd_iconst hF (n := 1) rfl (by decide +kernel)) ?_
  refine fmS (snd_iconst hF (n := 2) rfl (by decide +kernel)) ?_
  refine fmS (snd_callS hM k_X10_in qw1101 qw1102 (by decide +kernel)) ?_
  refine fmS (snd_if_eq hF (off := 17) (by decide) (by decide +kernel)) ?_
  refine fmS (snd_iloadn hF (k := 1) rfl (by decide +kernel)) ?_
  refine fmS (snd_iconst hF (n := 1) rfl (by decide +kernel)) ?_
  refine fmS (snd_bipush hF (n := 8) (by decide +kernel) (by decide +kernel)) ?_
  refine fmS (snd_callS hM k_X10_in qw1101 qw1102 (by decide +kernel)) ?_
  refine fmS (snd_if_eq hF (off := 7) (by decide) (by decide +kernel)) ?_
  refine fmS (snd_iconst hF (n := 1) rfl (by decide +kernel)) ?_
  refine fmS (snd_goto hF (off := 4) (by decide) (by decide +kernel)) ?_
  refine fmS (snd_iconst hF (n := 0) rfl (by decide +kernel)) ?_
  refine fmS (snd_retZ hM (by decide +kernel)) ?_
  exact fmE
theorem iX10_isOrder {d mc ms n : Nat} {av : List Value} {M : PM} {P : PO} (hw : wid av ≤ 2) (hb : ∀ J : KT, (∀ (k : Nat) (stops : Nat → Bool) (pc : Nat) (lv : LV) (st : List Value) (nn : NN) (M : PM), lk (tX10_isOrder d mc ms P) pc (wpN (tX10_isOrder d mc ms P) stops k J) lv st nn M → J pc lv st nn M) → J 0 (entA 0 av) [] (n, 0, 0) M) : CallOK (d + 1) mc ms yX10_isOrder (Cond.code yX10_isOrder cX10_isOrder 2 (some .boolean)) av n M P := call_intro (own := RX10) (by decide) rfl hw (fun _ _ _ _ _ _ _ _ _ _ _ _ _ hM => sX10_isOrder hM) hb
def tX10_execute (d mc ms : Nat) (P : PO) : List (Nat × OP) := [(0, oAld 0 1), (1, oPush (.int 0) 2), (2, oPi 10 0 5), (5, oIld 1 6), (6, oIld 2 7), (7, oCallS d mc ms P 0 0 yX10_isOrder (Cond.code yX10_isOrder cX10_isOrder 2 (some .boolean)) 2 10), (10, oIf (fun x => x = 0) 13 19), (13, oAld 0 14), (14, oPush (.int 1) 15), (15, oCallV d mc ms P 0 0 yX10_raises (Cond.code yX10_raises cX10_raises 2 (some .int)) 1 10 18), (18, oRetI mc ms P), (19, oAld 0 20), (20, oGr 10 1 23), (23, oPush (.int 1) 24), (24, oAi 100 25), (25, oPush (.int 1) 26), (26, oIc (fun x y => x = y) 29 42), (29, oAld 0 30), (30, oCallV d mc ms P 0 0 yX10_hasBits (Cond.code yX10_hasBits cX10_hasBits 3 (some .boolean)) 0 10 33), (33, oIf (fun x => x = 0) 42 36), (36, oAld 0 37), (37, oPush (.int 2) 38), (38, oCallV d mc ms P 0 0 yX10_raises (Cond.code yX10_raises cX10_raises 2 (some .int)) 1 10 41), (41, oRetI mc ms P), (42, oIld 1 43), (43, oIf (fun x => x ≤ 0) 59 46), (46, oAld 0 47), (47, oCallV d mc ms P 0 0 yX10_parallel (Cond.code yX10_parallel cX10_parallel 2 (some .boolean)) 0 10 50), (50, oIf (fun x => x = 0) 53 59), (53, oAld 0 54), (54, oPush (.int 3) 55), (55, oCallV d mc ms P 0 0 yX10_raises (Cond.code yX10_raises cX10_raises 2 (some .int)) 1 10 58), (58, oRetI mc ms P), (59, oAld 0 60), (60, oIld 1 61), (61, oIld 2 62), (62, oCallV d mc ms P 0 0 yX10_executes (Cond.code yX10_executes cX10_executes 5 none) 2 10 65), (65, oAld 0 66), (66, oAld 0 67), (67, oGr 10 1 70), (70, oPush (.int 1) 71), (71, oAi 100 72), (72, oPi 10 29 75), (75, oPush (.int 0) 76), (76, oIst 3 77), (77, oPush (.int 0) 78), (78, oIst 4 80), (80, oIld 4 82), (82, oPush (.int 8) 84), (84, oIc (fun x y => y ≤ x) 178 87), (87, oAld 0 88), (88, oGr 10 32 91), (91, oIld 4 93), (93, oAld 0 94), (94, oGr 10 25 97), (97, oIld 4 99), (99, oAi 100 100), (100, oSi 100 (fun x => x) 101), (101, oAld 0 102), (102, oGr 10 33 105), (105, oIld 4 107), (107, oAld 0 108), (108, oGr 10 26 111), (111, oIld 4 113), (113, oAf 114), (114, oSf 115), (115, oAld 0 116), (116, oGr 10 1 119), (119, oPush (.int 1) 120), (120, oAi 100 121), (121, oIf (fun x => x = 0) 124 147), (124, oAld 0 125), (125, oGr 10 25 128), (128, oIld 4 130), (130, oAi 100 131), (131, oAld 0 132), (132, oGr 10 1 135), (135, oPush (.int 67) 137), (137, oIld 4 139), (139, oI2 (fun x y => x + y) 140), (140, oAi 100 141), (141, oIc (fun x y => x = y) 172 144), (144, oGoto 169), (147, oAld 0 148), (148, oGr 10 26 151), (151, oIld 4 153), (153, oAf 154), (154, oAld 0 155), (155, oGr 10 1 158), (158, oPush (.int 67) 160), (160, oIld 4 162), (162, oI2 (fun x y => x + y) 163), (163, oAi 100 164), (164, oIcv (fun x => .float (FP.i2f x)) 165), (165, oFcmp .l 166), (166, oIf (fun x => x = 0) 172 169), (169, oInc 3 1 172), (172, oInc 4 1 175), (175, oGoto 80), (178, oIld 3 179), (179, oRetI mc ms P)]
set_option maxRecDepth 20000 in
theorem sX10_execute {p : Program} {l : Launch} {e : Env} {s : State} {m : MethodId} {args : Array Value} {below : List Frame} {meth : Method} {c : Code} {D : va_G} {cA : Nat → ClassId} {ad0 : Nat → Nat} {n0 sz d mc ms : Nat} {P : PO} (hM : FM p l s m args meth c D cA 5 ad0 n0 sz cX10_execute RX10 (some .int) [] yX10_execute.name) : ∀ q ∈ tX10_execute d mc ms P, Snd (jM p l e s m args below meth c D cA 5 ad0 n0 sz (d + 1) mc ms P) q.1 q.2 := by
  have hF := hM.1
  have hts := hF.2.2.2.2.1
  unfold tX10_execute
  refine fmS (snd_aloadn hF (k := 0) rfl (by decide +kernel)) ?_
  refine fmS (snd_iconst hF (n := 0) rfl (by decide +kernel)) ?_
  refine fmS (snd_puti hF okX10 (k := 0) (by decide) qw1104 rfl rfl rfl rfl (by decide +kernel)) ?_
  refine fmS (snd_iloadn hF (k := 1) rfl (by decide +kernel)) ?_
  refine fmS (snd_iloadn hF (k := 2) rfl (by decide +kernel)) ?_
  refine fmS (snd_callS hM k_X10_isOrder qw1429 qw1430 (by decide +kernel)) ?_
  refine fmS (snd_if_ne hF (off := 9) (by decide) (by decide +kernel)) ?_
  refine fmS (snd_aloadn hF (k := 0) rfl (by decide +kernel)) ?_
  refine fmS (snd_iconst hF (n := 1) rfl (by decide +kernel)) ?_
  refine fmS (snd_callV hM k_X10_raises okX10 qw1221 qw1223 (hts _ qw35) (by decide +kernel)) ?_
  refine fmS (snd_retI hM (by decide +kernel)) ?_
  refine fmS (snd_aloadn hF (k := 0) rfl (by decide +kernel)) ?_
  refine fmS (snd_getr hF okX10 (k := 1) (by decide) qw1105 rfl rfl (by decide +kernel)) ?_
  refine fmS (snd_iconst hF (n := 1) rfl (by decide +kernel)) ?_
  refine fmS (snd_iaload hF (by decide +kernel)) ?_
  refine fmS (snd_iconst hF (n := 1) rfl (by decide +kernel)) ?_
  refine fmS (snd_icmp_ne hF (off := 16) (by decide) (by decide +kernel)) ?_
  refine fmS (snd_aloadn hF (k := 0) rfl (by decide +kernel)) ?_
  refine fmS (snd_callV hM k_X10_hasBits okX10 qw1432 qw1434 (hts _ qw63) (by decide +kernel)) ?_
  refine fmS (snd_if_eq hF (off := 9) (by decide) (by decide +kernel)) ?_
  refine fmS (snd_aloadn hF (k := 0) rfl (by decide +kernel)) ?_
  refine fmS (snd_iconst hF (n := 2) rfl (by decide +kernel)) ?_
  refine fmS (snd_callV hM k_X10_raises okX10 qw1221 qw1223 (hts _ qw35) (by decide +kernel)) ?_
  refine fmS (snd_retI hM (by decide +kernel)) ?_
  refine fmS (snd_iloadn hF (k := 1) rfl (by decide +kernel)) ?_
  refine fmS (snd_if_le hF (off := 16) (by decide) (by decide +kernel)) ?_
  refine fmS (snd_aloadn hF (k := 0) rfl (by decide +kernel)) ?_
  refine fmS (snd_callV hM k_X10_parallel okX10 qw1417 qw1419 (hts _ qw62) (by decide +kernel)) ?_
  refine fmS (snd_if_ne hF (off := 9) (by decide) (by decide +kernel)) ?_
  refine fmS (snd_aloadn hF (k := 0) rfl (by decide +kernel)) ?_
  refine fmS (snd_iconst hF (n := 3) rfl (by decide +kernel)) ?_
  refine fmS (snd_callV hM k_X10_raises okX10 qw1221 qw1223 (hts _ qw35) (by decide +kernel)) ?_
  refine fmS (snd_retI hM (by decide +kernel)) ?_
  refine fmS (snd_aloadn hF (k := 0) rfl (by decide +kernel)) ?_
  refine fmS (snd_iloadn hF (k := 1) rfl (by decide +kernel)) ?_
  refine fmS (snd_iloadn hF (k := 2) rfl (by decide +kernel)) ?_
  refine fmS (snd_callV hM k_X10_executes okX10 qw1436 qw1438 (hts _ qw64) (by decide +kernel)) ?_
  refine fmS (snd_aloadn hF (k := 0) rfl (by decide +kernel)) ?_
  refine fmS (snd_aloadn hF (k := 0) rfl (by decide +kernel)) ?_
  refine fmS (snd_getr hF okX10 (k := 1) (by decide) qw1105 rfl rfl (by decide +kernel)) ?_
  refine fmS (snd_iconst hF (n := 1) rfl (by decide +kernel)) ?_
  refine fmS (snd_iaload hF (by decide +kernel)) ?_
  refine fmS (snd_puti hF okX10 (k := 29) (by decide) qw1133 rfl rfl rfl rfl (by decide +kernel)) ?_
  refine fmS (snd_iconst hF (n := 0) rfl (by decide +kernel)) ?_
  refine fmS (snd_istoren hF (k := 3) rfl (by decide) (by decide +kernel)) ?_
  refine fmS (snd_iconst hF (n := 0) rfl (by decide +kernel)) ?_
  refine fmS (snd_istore hF (by decide) (by decide +kernel)) ?_
  refine fmS (snd_iload hF (by decide +kernel)) ?_
  refine fmS (snd_bipush hF (n := 8) (by decide +kernel) (by decide +kernel)) ?_
  refine fmS (snd_icmp_ge hF (off := 94) (by decide) (by decide +kernel)) ?_
  refine fmS (snd_aloadn hF (k := 0) rfl (by decide +kernel)) ?_
  refine fmS (snd_getr hF okX10 (k := 32) (by decide) qw1136 rfl rfl (by decide +kernel)) ?_
  refine fmS (snd_iload hF (by decide +kernel)) ?_
  refine fmS (snd_aloadn hF (k := 0) rfl (by decide +kernel)) ?_
  refine fmS (snd_getr hF okX10 (k := 25) (by decide) qw1129 rfl rfl (by decide +kernel)) ?_
  refine fmS (snd_iload hF (by decide +kernel)) ?_
  refine fmS (snd_iaload hF (by decide +kernel)) ?_
  refine fmS (snd_iastore hF (by decide +kernel)) ?_
  refine fmS (snd_aloadn hF (k := 0) rfl (by decide +kernel)) ?_
  refine fmS (snd_getr hF okX10 (k := 33) (by decide) qw1137 rfl rfl (by decide +kernel)) ?_
  refine fmS (snd_iload hF (by decide +kernel)) ?_
  refine fmS (snd_aloadn hF (k := 0) rfl (by decide +kernel)) ?_
  refine fmS (snd_getr hF okX10 (k := 26) (by decide) qw1130 rfl rfl (by decide +kernel)) ?_
  refine fmS (snd_iload hF (by decide +kernel)) ?_
  refine fmS (snd_faload hF (by decide +kernel)) ?_
  refine fmS (snd_fastore hF (by decide +kernel)) ?_
  refine fmS (snd_aloadn hF (k := 0) rfl (by decide +kernel)) ?_
  refine fmS (snd_getr hF okX10 (k := 1) (by decide) qw1105 rfl rfl (by decide +kernel)) ?_
  refine fmS (snd_iconst hF (n := 1) rfl (by decide +kernel)) ?_
  refine fmS (snd_iaload hF (by decide +kernel)) ?_
  refine fmS (snd_if_ne hF (off := 26) (by decide) (by decide +kernel)) ?_
  refine fmS (snd_aloadn hF (k := 0) rfl (by decide +kernel)) ?_
  refine fmS (snd_getr hF okX10 (k := 25) (by decide) qw1129 rfl rfl (by decide +kernel)) ?_
  refine fmS (snd_iload hF (by decide +kernel)) ?_
  refine fmS (snd_iaload hF (by decide +kernel)) ?_
  refine fmS (snd_aloadn hF (k := 0) rfl (by decide +kernel)) ?_
  refine fmS (snd_getr hF okX10 (k := 1) (by decide) qw1105 rfl rfl (by decide +kernel)) ?_
  refine fmS (snd_bipush hF (n := 67) (by decide +kernel) (by decide +kernel)) ?_
  refine fmS (snd_iload hF (by decide +kernel)) ?_
  refine fmS (snd_iadd hF (by decide +kernel)) ?_
  refine fmS (snd_iaload hF (by decide +kernel)) ?_
  refine fmS (snd_icmp_eq hF (off := 31) (by decide) (by decide +kernel)) ?_
  refine fmS (snd_goto hF (off := 25) (by decide) (by decide +kernel)) ?_
  refine fmS (snd_aloadn hF (k := 0) rfl (by decide +kernel)) ?_
  refine fmS (snd_getr hF okX10 (k := 26) (by decide) qw1130 rfl rfl (by decide +kernel)) ?_
  refine fmS (snd_iload hF (by decide +kernel)) ?_
  refine fmS (snd_faload hF (by decide +kernel)) ?_
  refine fmS (snd_aloadn hF (k := 0) rfl (by decide +kernel)) ?_
  refine fmS (snd_getr hF okX10 (k := 1) (by decide) qw1105 rfl rfl (by decide +kernel)) ?_
  refine fmS (snd_bipush hF (n := 67) (by decide +kernel) (by decide +kernel)) ?_
  refine fmS (snd_iload hF (by decide +kernel)) ?_
  refine fmS (snd_iadd hF (by decide +kernel)) ?_
  refine fmS (snd_iaload hF (by decide +kernel)) ?_
  refine fmS (snd_i2f hF (by decide +kernel)) ?_
  refine fmS (snd_fcmp hF (by decide +kernel)) ?_
  refine fmS (snd_if_eq hF (off := 6) (by decide) (by decide +kernel)) ?_
  refine fmS (snd_iinc hF (n := 1) (by decide +kernel) (by decide) (by decide +kernel)) ?_
  refine fmS (snd_iinc hF (n := 1) (by decide +kernel) (by decide) (by decide +kernel)) ?_
  refine fmS (snd_goto hF (off := (-95)) (by decide) (by decide +kernel)) ?_
  refine fmS (snd_iloadn hF (k := 3) rfl (by decide +kernel)) ?_
  refine fmS (snd_retI hM (by decide +kernel)) ?_
  exact fmE
theorem iX10_execute {d mc ms n : Nat} {av : List Value} {M : PM} {P : PO} (hw : wid av ≤ 5) (hb : ∀ J : KT, (∀ (k : Nat) (stops : Nat → Bool) (pc : Nat) (lv : LV) (st : List Value) (nn : NN) (M : PM), lk (tX10_execute d mc ms P) pc (wpN (tX10_execute d mc ms P) stops k J) lv st nn M → J pc lv st nn M) → J 0 (entA 0 av) [] (n, 0, 0) M) : CallOK (d + 1) mc ms yX10_execute (Cond.code yX10_execute cX10_execute 5 (some .int)) av n M P := call_intro (own := RX10) (by decide) rfl hw (fun _ _ _ _ _ _ _ _ _ _ _ _ _ hM => sX10_execute hM) hb
def tX10_result (d mc ms : Nat) (P : PO) : List (Nat × OP) := [(0, oAld 0 1), (1, oPush (.int 0) 2), (2, oPi 10 0 5), (5, oIld 1 6), (6, oCallS d mc ms P 0 0 yX10_isVariable (Cond.code yX10_isVariable cX10_isVariable 1 (some .boolean)) 1 9), (9, oIf (fun x => x = 0) 12 18), (12, oAld 0 13), (13, oPush (.int 1) 14), (14, oCallV d mc ms P 0 0 yX10_raises (Cond.code yX10_raises cX10_raises 2 (some .int)) 1 10 17), (17, oRetI mc ms P), (18, oAld 0 19), (19, oGi 10 29 22), (22, oIf (fun x => x = 0) 25 34), (25, oAld 0 26), (26, oGr 10 32 29), (29, oIld 1 30), (30, oAi 100 31), (31, oGoto 39), (34, oAld 0 35), (35, oPush (.int 2) 36), (36, oCallV d mc ms P 0 0 yX10_raises (Cond.code yX10_raises cX10_raises 2 (some .int)) 1 10 39), (39, oRetI mc ms P)]
set_option maxRecDepth 20000 in
theorem sX10_result {p : Program} {l : Launch} {e : Env} {s : State} {m : MethodId} {args : Array Value} {below : List Frame} {meth : Method} {c : Code} {D : va_G} {cA : Nat → ClassId} {ad0 : Nat → Nat} {n0 sz d mc ms : Nat} {P : PO} (hM : FM p l s m args meth c D cA 2 ad0 n0 sz cX10_result RX10 (some .int) [] yX10_result.name) : ∀ q ∈ tX10_result d mc ms P, Snd (jM p l e s m args below meth c D cA 2 ad0 n0 sz (d + 1) mc ms P) q.1 q.2 := by
  have hF := hM.1
  have hts := hF.2.2.2.2.1
  unfold tX10_result
  refine fmS (snd_aloadn hF (k := 0) rfl (by decide +kernel)) ?_
  refine fmS (snd_iconst hF (n := 0) rfl (by decide +kernel)) ?_
  refine fmS (snd_puti hF okX10 (k := 0) (by decide) qw1104 rfl rfl rfl rfl (by decide +kernel)) ?_
  refine fmS (snd_iloadn hF (k := 1) rfl (by decide +kernel)) ?_
  refine fmS (snd_callS hM k_X10_isVariable qw1329 qw1330 (by decide +kernel)) ?_
  refine fmS (snd_if_ne hF (off := 9) (by decide) (by decide +kernel)) ?_
  refine fmS (snd_aloadn hF (k := 0) rfl (by decide +kernel)) ?_
  refine fmS (snd_iconst hF (n := 1) rfl (by decide +kernel)) ?_
  refine fmS (snd_callV hM k_X10_raises okX10 qw1221 qw1223 (hts _ qw35) (by decide +kernel)) ?_
  refine fmS (snd_retI hM (by decide +kernel)) ?_
  refine fmS (snd_aloadn hF (k := 0) rfl (by decide +kernel)) ?_
  refine fmS (snd_geti hF okX10 (k := 29) (by decide) qw1133 rfl rfl (by decide +kernel)) ?_
  refine fmS (snd_if_ne hF (off := 12) (by decide) (by decide +kernel)) ?_
  refine fmS (snd_aloadn hF (k := 0) rfl (by decide +kernel)) ?_
  refine fmS (snd_getr hF okX10 (k := 32) (by decide) qw1136 rfl rfl (by decide +kernel)) ?_
  refine fmS (snd_iloadn hF (k := 1) rfl (by decide +kernel)) ?_
  refine fmS (snd_iaload hF (by decide +kernel)) ?_
  refine fmS (snd_goto hF (off := 8) (by decide) (by decide +kernel)) ?_
  refine fmS (snd_aloadn hF (k := 0) rfl (by decide +kernel)) ?_
  refine fmS (snd_iconst hF (n := 2) rfl (by decide +kernel)) ?_
  refine fmS (snd_callV hM k_X10_raises okX10 qw1221 qw1223 (hts _ qw35) (by decide +kernel)) ?_
  refine fmS (snd_retI hM (by decide +kernel)) ?_
  exact fmE
theorem iX10_result {d mc ms n : Nat} {av : List Value} {M : PM} {P : PO} (hw : wid av ≤ 2) (hb : ∀ J : KT, (∀ (k : Nat) (stops : Nat → Bool) (pc : Nat) (lv : LV) (st : List Value) (nn : NN) (M : PM), lk (tX10_result d mc ms P) pc (wpN (tX10_result d mc ms P) stops k J) lv st nn M → J pc lv st nn M) → J 0 (entA 0 av) [] (n, 0, 0) M) : CallOK (d + 1) mc ms yX10_result (Cond.code yX10_result cX10_result 2 (some .int)) av n M P := call_intro (own := RX10) (by decide) rfl hw (fun _ _ _ _ _ _ _ _ _ _ _ _ _ hM => sX10_result hM) hb
def tX10_resultFloat (d mc ms : Nat) (P : PO) : List (Nat × OP) := [(0, oAld 0 1), (1, oPush (.int 0) 2), (2, oPi 10 0 5), (5, oIld 1 6), (6, oCallS d mc ms P 0 0 yX10_isVariable (Cond.code yX10_isVariable cX10_isVariable 1 (some .boolean)) 1 9), (9, oIf (fun x => x = 0) 12 19), (12, oAld 0 13), (13, oPush (.int 1) 14), (14, oCallV d mc ms P 0 0 yX10_raises (Cond.code yX10_raises cX10_raises 2 (some .int)) 1 10 17), (17, oIcv (fun x => .float (FP.i2f x)) 18), (18, oRetF mc ms P), (19, oAld 0 20), (20, oGi 10 29 23), (23, oPush (.int 1) 24), (24, oIc (fun x y => x = y) 27 36), (27, oAld 0 28), (28, oGr 10 33 31), (31, oIld 1 32), (32, oAf 33), (33, oGoto 42), (36, oAld 0 37), (37, oPush (.int 2) 38), (38, oCallV d mc ms P 0 0 yX10_raises (Cond.code yX10_raises cX10_raises 2 (some .int)) 1 10 41), (41, oIcv (fun x => .float (FP.i2f x)) 42), (42, oRetF mc ms P)]
set_option maxRecDepth 20000 in
theorem sX10_resultFloat {p : Program} {l : Launch} {e : Env} {s : State} {m : MethodId} {args : Array Value} {below : List Frame} {meth : Method} {c : Code} {D : va_G} {cA : Nat → ClassId} {ad0 : Nat → Nat} {n0 sz d mc ms : Nat} {P : PO} (hM : FM p l s m args meth c D cA 2 ad0 n0 sz cX10_resultFloat RX10 (some .float) [] yX10_resultFloat.name) : ∀ q ∈ tX10_resultFloat d mc ms P, Snd (jM p l e s m args below meth c D cA 2 ad0 n0 sz (d + 1) mc ms P) q.1 q.2 := by
  have hF := hM.1
  have hts := hF.2.2.2.2.1
  unfold tX10_resultFloat
  refine fmS (snd_aloadn hF (k := 0) rfl (by decide +kernel)) ?_
  refine fmS (snd_iconst hF (n := 0) rfl (by decide +kernel)) ?_
  refine fmS (snd_puti hF okX10 (k := 0) (by decide) qw1104 rfl rfl rfl rfl (by decide +kernel)) ?_
  refine fmS (snd_iloadn hF (k := 1) rfl (by decide +kernel)) ?_
  refine fmS (snd_callS hM k_X10_isVariable qw1329 qw1330 (by decide +kernel)) ?_
  refine fmS (snd_if_ne hF (off := 10) (by decide) (by decide +kernel)) ?_
  refine fmS (snd_aloadn hF (k := 0) rfl (by decide +kernel)) ?_
  refine fmS (snd_iconst hF (n := 1) rfl (by decide +kernel)) ?_
  refine fmS (snd_callV hM k_X10_raises okX10 qw1221 qw1223 (hts _ qw35) (by decide +kernel)) ?_
  refine fmS (snd_i2f hF (by decide +kernel)) ?_
  refine fmS (snd_retF hM (by decide +kernel)) ?_
  refine fmS (snd_aloadn hF (k := 0) rfl (by decide +kernel)) ?_
  refine fmS (snd_geti hF okX10 (k := 29) (by decide) qw1133 rfl rfl (by decide +kernel)) ?_
  refine fmS (snd_iconst hF (n := 1) rfl (by decide +kernel)) ?_
  refine fmS (snd_icmp_ne hF (off := 12) (by decide) (by decide +kernel)) ?_
  refine fmS (snd_aloadn hF (k := 0) rfl (by decide +kernel)) ?_
  refine fmS (snd_getr hF okX10 (k := 33) (by decide) qw1137 rfl rfl (by decide +kernel)) ?_
  refine fmS (snd_iloadn hF (k := 1) rfl (by decide +kernel)) ?_
  refine fmS (snd_faload hF (by decide +kernel)) ?_
  refine fmS (snd_goto hF (off := 9) (by decide) (by decide +kernel)) ?_
  refine fmS (snd_aloadn hF (k := 0) rfl (by decide +kernel)) ?_
  refine fmS (snd_iconst hF (n := 2) rfl (by decide +kernel)) ?_
  refine fmS (snd_callV hM k_X10_raises okX10 qw1221 qw1223 (hts _ qw35) (by decide +kernel)) ?_
  refine fmS (snd_i2f hF (by decide +kernel)) ?_
  refine fmS (snd_retF hM (by decide +kernel)) ?_
  exact fmE
theorem iX10_resultFloat {d mc ms n : Nat} {av : List Value} {M : PM} {P : PO} (hw : wid av ≤ 2) (hb : ∀ J : KT, (∀ (k : Nat) (stops : Nat → Bool) (pc : Nat) (lv : LV) (st : List Value) (nn : NN) (M : PM), lk (tX10_resultFloat d mc ms P) pc (wpN (tX10_resultFloat d mc ms P) stops k J) lv st nn M → J pc lv st nn M) → J 0 (entA 0 av) [] (n, 0, 0) M) : CallOK (d + 1) mc ms yX10_resultFloat (Cond.code yX10_resultFloat cX10_resultFloat 2 (some .float)) av n M P := call_intro (own := RX10) (by decide) rfl hw (fun _ _ _ _ _ _ _ _ _ _ _ _ _ hM => sX10_resultFloat hM) hb
def tX10_costs (d mc ms : Nat) (P : PO) : List (Nat × OP) := [(0, oAld 0 1), (1, oGr 10 1 4), (4, oPush (.int 2) 5), (5, oAi 100 6), (6, oIst 3 7), (7, oIld 3 8), (8, oIf (fun x => x = 0) 11 13), (11, oPush (.int 0) 12), (12, oRetI mc ms P), (13, oPush (.int 0) 14), (14, oIst 4 16), (16, oPush (.int 0) 17), (17, oIst 5 19), (19, oIld 5 21), (21, oAld 0 22), (22, oGr 10 1 25), (25, oPush (.int 0) 26), (26, oAi 100 27), (27, oIc (fun x y => y ≤ x) 82 30), (30, oPush (.int 0) 31), (31, oIst 6 33), (33, oIld 6 35), (35, oAld 0 36), (36, oGr 10 1 39), (39, oPush (.int 11) 41), (41, oIld 5 43), (43, oI2 (fun x y => x + y) 44), (44, oAi 100 45), (45, oIc (fun x y => y ≤ x) 76 48), (48, oAld 0 49), (49, oGr 10 1 52), (52, oIld 5 54), (54, oCallS d mc ms P 0 0 yX10_code (Cond.code yX10_code cX10_code 1 (some .int)) 1 57), (57, oIld 6 59), (59, oI2 (fun x y => x + y) 60), (60, oAi 100 61), (61, oCallS d mc ms P 0 0 yX10_operands (Cond.code yX10_operands cX10_operands 1 (some .int)) 1 64), (64, oIf (fun x => x ≤ 0) 70 67), (67, oInc 4 1 70), (70, oInc 6 1 73), (73, oGoto 33), (76, oInc 5 1 79), (79, oGoto 19), (82, oPush (.int 0) 83), (83, oIst 5 85), (85, oPush (.int 0) 86), (86, oIst 6 88), (88, oIld 6 90), (90, oPush (.int 8) 92), (92, oIc (fun x y => y ≤ x) 113 95), (95, oAld 0 96), (96, oIld 6 98), (98, oCallV d mc ms P 0 0 yX10_isReduction (Cond.code yX10_isReduction cX10_isReduction 2 (some .boolean)) 1 10 101), (101, oIf (fun x => x = 0) 107 104), (104, oInc 5 1 107), (107, oInc 6 1 110), (110, oGoto 88), (113, oIld 1 114), (114, oIf (fun x => x = 0) 117 122), (117, oIld 3 118), (118, oIld 4 120), (120, oI2 (fun x y => x * y) 121), (121, oRetI mc ms P), (122, oIld 1 123), (123, oPush (.int 3) 124), (124, oIc (fun x y => y ≤ x) 141 127), (127, oIld 3 128), (128, oIld 2 129), (129, oCallS d mc ms P 0 0 yX10_share (Cond.code yX10_share cX10_share 2 (some .int)) 2 132), (132, oIld 4 134), (134, oI2 (fun x y => x * y) 135), (135, oIld 5 137), (137, oIld 2 138), (138, oI2 (fun x y => x * y) 139), (139, oI2 (fun x y => x + y) 140), (140, oRetI mc ms P), (141, oPush (.int 0) 142), (142, oIst 6 144), (144, oIld 3 145), (145, oIst 7 147), (147, oIld 7 149), (149, oPush (.int 1) 150), (150, oIc (fun x y => x ≤ y) 167 153), (153, oInc 6 1 156), (156, oIld 7 158), (158, oPush (.int 1) 159), (159, oI2 (fun x y => x + y) 160), (160, oPush (.int 2) 161), (161, oI2n (fun x y => x / y) 162), (162, oIst 7 164), (164, oGoto 147), (167, oIld 4 169), (169, oIld 5 171), (171, oIld 6 173), (173, oPush (.int 1) 174), (174, oI2 (fun x y => x + y) 175), (175, oI2 (fun x y => x * y) 176), (176, oI2 (fun x y => x + y) 177), (177, oRetI mc ms P)]
set_option maxRecDepth 20000 in
theorem sX10_costs {p : Program} {l : Launch} {e : Env} {s : State} {m : MethodId} {args : Array Value} {below : List Frame} {meth : Method} {c : Code} {D : va_G} {cA : Nat → ClassId} {ad0 : Nat → Nat} {n0 sz d mc ms : Nat} {P : PO} (hM : FM p l s m args meth c D cA 8 ad0 n0 sz cX10_costs RX10 (some .int) [] yX10_costs.name) : ∀ q ∈ tX10_costs d mc ms P, Snd (jM p l e s m args below meth c D cA 8 ad0 n0 sz (d + 1) mc ms P) q.1 q.2 := by
  have hF := hM.1
  have hts := hF.2.2.2.2.1
  unfold tX10_costs
  refine fmS (snd_aloadn hF (k := 0) rfl (by decide +kernel)) ?_
  refine fmS (snd_getr hF okX10 (k := 1) (by decide) qw1105 rfl rfl (by decide +kernel)) ?_
  refine fmS (snd_iconst hF (n := 2) rfl (by decide +kernel)) ?_
  refine fmS (snd_iaload hF (by decide +kernel)) ?_
  refine fmS (snd_istoren hF (k := 3) rfl (by decide) (by decide +kernel)) ?_
  refine fmS (snd_iloadn hF (k := 3) rfl (by decide +kernel)) ?_
  refine fmS (snd_if_ne hF (off := 5) (by decide) (by decide +kernel)) ?_
  refine fmS (snd_iconst hF (n := 0) rfl (by decide +kernel)) ?_
  refine fmS (snd_retI hM (by decide +kernel)) ?_
  refine fmS (snd_iconst hF (n := 0) rfl (by decide +kernel)) ?_
  refine fmS (snd_istore hF (by decide) (by decide +kernel)) ?_
  refine fmS (snd_iconst hF (n := 0) rfl (by decide +kernel)) ?_
  refine fmS (snd_istore hF (by decide) (by decide +kernel)) ?_
  refine fmS (snd_iload hF (by decide +kernel)) ?_
  refine fmS (snd_aloadn hF (k := 0) rfl (by decide +kernel)) ?_
  refine fmS (snd_getr hF okX10 (k := 1) (by decide) qw1105 rfl rfl (by decide +kernel)) ?_
  refine fmS (snd_iconst hF (n := 0) rfl (by decide +kernel)) ?_
  refine fmS (snd_iaload hF (by decide +kernel)) ?_
  refine fmS (snd_icmp_ge hF (off := 55) (by decide) (by decide +kernel)) ?_
  refine fmS (snd_iconst hF (n := 0) rfl (by decide +kernel)) ?_
  refine fmS (snd_istore hF (by decide) (by decide +kernel)) ?_
  refine fmS (snd_iload hF (by decide +kernel)) ?_
  refine fmS (snd_aloadn hF (k := 0) rfl (by decide +kernel)) ?_
  refine fmS (snd_getr hF okX10 (k := 1) (by decide) qw1105 rfl rfl (by decide +kernel)) ?_
  refine fmS (snd_bipush hF (n := 11) (by decide +kernel) (by decide +kernel)) ?_
  refine fmS (snd_iload hF (by decide +kernel)) ?_
  refine fmS (snd_iadd hF (by decide +kernel)) ?_
  refine fmS (snd_iaload hF (by decide +kernel)) ?_
  refine fmS (snd_icmp_ge hF (off := 31) (by decide) (by decide +kernel)) ?_
  refine fmS (snd_aloadn hF (k := 0) rfl (by decide +kernel)) ?_
  refine fmS (snd_getr hF okX10 (k := 1) (by decide) qw1105 rfl rfl (by decide +kernel)) ?_
  refine fmS (snd_iload hF (by decide +kernel)) ?_
  refine fmS (snd_callS hM k_X10_code qw1098 qw1099 (by decide +kernel)) ?_
  refine fmS (snd_iload hF (by decide +kernel)) ?_
  refine fmS (snd_iadd hF (by decide +kernel)) ?_
  refine fmS (snd_iaload hF (by decide +kernel)) ?_
  refine fmS (snd_callS hM k_X10_operands qw1281 qw1282 (by decide +kernel)) ?_
  refine fmS (snd_if_le hF (off := 6) (by decide) (by decide +kernel)) ?_
  refine fmS (snd_iinc hF (n := 1) (by decide +kernel) (by decide) (by decide +kernel)) ?_
  refine fmS (snd_iinc hF (n := 1) (by decide +kernel) (by decide) (by decide +kernel)) ?_
  refine fmS (snd_goto hF (off := (-40)) (by decide) (by decide +kernel)) ?_
  refine fmS (snd_iinc hF (n := 1) (by decide +kernel) (by decide) (by decide +kernel)) ?_
  refine fmS (snd_goto hF (off := (-60)) (by decide) (by decide +kernel)) ?_
  refine fmS (snd_iconst hF (n := 0) rfl (by decide +kernel)) ?_
  refine fmS (snd_istore hF (by decide) (by decide +kernel)) ?_
  refine fmS (snd_iconst hF (n := 0) rfl (by decide +kernel)) ?_
  refine fmS (snd_istore hF (by decide) (by decide +kernel)) ?_
  refine fmS (snd_iload hF (by decide +kernel)) ?_
  refine fmS (snd_bipush hF (n := 8) (by decide +kernel) (by decide +kernel)) ?_
  refine fmS (snd_icmp_ge hF (off := 21) (by decide) (by decide +kernel)) ?_
  refine fmS (snd_aloadn hF (k := 0) rfl (by decide +kernel)) ?_
  refine fmS (snd_iload hF (by decide +kernel)) ?_
  refine fmS (snd_callV hM k_X10_isReduction okX10 qw1478 qw1480 (hts _ qw69) (by decide +kernel)) ?_
  refine fmS (snd_if_eq hF (off := 6) (by decide) (by decide +kernel)) ?_
  refine fmS (snd_iinc hF (n := 1) (by decide +kernel) (by decide) (by decide +kernel)) ?_
  refine fmS (snd_iinc hF (n := 1) (by decide +kernel) (by decide) (by decide +kernel)) ?_
  refine fmS (snd_goto hF (off := (-22)) (by decide) (by decide +kernel)) ?_
  refine fmS (snd_iloadn hF (k := 1) rfl (by decide +kernel)) ?_
  refine fmS (snd_if_ne hF (off := 8) (by decide) (by decide +kernel)) ?_
  refine fmS (snd_iloadn hF (k := 3) rfl (by decide +kernel)) ?_
  refine fmS (snd_iload hF (by decide +kernel)) ?_
  refine fmS (snd_imul hF (by decide +kernel)) ?_
  refine fmS (snd_retI hM (by decide +kernel)) ?_
  refine fmS (snd_iloadn hF (k := 1) rfl (by decide +kernel)) ?_
  refine fmS (snd_iconst hF (n := 3) rfl (by decide +kernel)) ?_
  refine fmS (snd_icmp_ge hF (off := 17) (by decide) (by decide +kernel)) ?_
  refine fmS (snd_iloadn hF (k := 3) rfl (by decide +kernel)) ?_
  refine fmS (snd_iloadn hF (k := 2) rfl (by decide +kernel)) ?_
  refine fmS (snd_callS hM k_X10_share qw1500 qw1501 (by decide +kernel)) ?_
  refine fmS (snd_iload hF (by decide +kernel)) ?_
  refine fmS (snd_imul hF (by decide +kernel)) ?_
  refine fmS (snd_iload hF (by decide +kernel)) ?_
  refine fmS (snd_iloadn hF (k := 2) rfl (by decide +kernel)) ?_
  refine fmS (snd_imul hF (by decide +kernel)) ?_
  refine fmS (snd_iadd hF (by decide +kernel)) ?_
  refine fmS (snd_retI hM (by decide +kernel)) ?_
  refine fmS (snd_iconst hF (n := 0) rfl (by decide +kernel)) ?_
  refine fmS (snd_istore hF (by decide) (by decide +kernel)) ?_
  refine fmS (snd_iloadn hF (k := 3) rfl (by decide +kernel)) ?_
  refine fmS (snd_istore hF (by decide) (by decide +kernel)) ?_
  refine fmS (snd_iload hF (by decide +kernel)) ?_
  refine fmS (snd_iconst hF (n := 1) rfl (by decide +kernel)) ?_
  refine fmS (snd_icmp_le hF (off := 17) (by decide) (by decide +kernel)) ?_
  refine fmS (snd_iinc hF (n := 1) (by decide +kernel) (by decide) (by decide +kernel)) ?_
  refine fmS (snd_iload hF (by decide +kernel)) ?_
  refine fmS (snd_iconst hF (n := 1) rfl (by decide +kernel)) ?_
  refine fmS (snd_iadd hF (by decide +kernel)) ?_
  refine fmS (snd_iconst hF (n := 2) rfl (by decide +kernel)) ?_
  refine fmS (snd_idiv hF (by decide +kernel)) ?_
  refine fmS (snd_istore hF (by decide) (by decide +kernel)) ?_
  refine fmS (snd_goto hF (off := (-17)) (by decide) (by decide +kernel)) ?_
  refine fmS (snd_iload hF (by decide +kernel)) ?_
  refine fmS (snd_iload hF (by decide +kernel)) ?_
  refine fmS (snd_iload hF (by decide +kernel)) ?_
  refine fmS (snd_iconst hF (n := 1) rfl (by decide +kernel)) ?_
  refine fmS (snd_iadd hF (by decide +kernel)) ?_
  refine fmS (snd_imul hF (by decide +kernel)) ?_
  refine fmS (snd_iadd hF (by decide +kernel)) ?_
  refine fmS (snd_retI hM (by decide +kernel)) ?_
  exact fmE
theorem iX10_costs {d mc ms n : Nat} {av : List Value} {M : PM} {P : PO} (hw : wid av ≤ 8) (hb : ∀ J : KT, (∀ (k : Nat) (stops : Nat → Bool) (pc : Nat) (lv : LV) (st : List Value) (nn : NN) (M : PM), lk (tX10_costs d mc ms P) pc (wpN (tX10_costs d mc ms P) stops k J) lv st nn M → J pc lv st nn M) → J 0 (entA 0 av) [] (n, 0, 0) M) : CallOK (d + 1) mc ms yX10_costs (Cond.code yX10_costs cX10_costs 8 (some .int)) av n M P := call_intro (own := RX10) (by decide) rfl hw (fun _ _ _ _ _ _ _ _ _ _ _ _ _ hM => sX10_costs hM) hb
def tX10_cost (d mc ms : Nat) (P : PO) : List (Nat × OP) := [(0, oAld 0 1), (1, oPush (.int 0) 2), (2, oPi 10 0 5), (5, oIld 1 6), (6, oIld 2 7), (7, oCallS d mc ms P 0 0 yX10_isOrder (Cond.code yX10_isOrder cX10_isOrder 2 (some .boolean)) 2 10), (10, oIf (fun x => x = 0) 13 19), (13, oAld 0 14), (14, oPush (.int 1) 15), (15, oCallV d mc ms P 0 0 yX10_raises (Cond.code yX10_raises cX10_raises 2 (some .int)) 1 10 18), (18, oRetI mc ms P), (19, oIld 1 20), (20, oIf (fun x => x ≤ 0) 38 23), (23, oAld 0 24), (24, oCallV d mc ms P 0 0 yX10_parallel (Cond.code yX10_parallel cX10_parallel 2 (some .boolean)) 0 10 27), (27, oIf (fun x => x = 0) 30 38), (30, oAld 0 31), (31, oPush (.int 2) 32), (32, oCallV d mc ms P 0 0 yX10_raises (Cond.code yX10_raises cX10_raises 2 (some .int)) 1 10 35), (35, oGoto 44), (38, oAld 0 39), (39, oIld 1 40), (40, oIld 2 41), (41, oCallV d mc ms P 0 0 yX10_costs (Cond.code yX10_costs cX10_costs 8 (some .int)) 2 10 44), (44, oRetI mc ms P)]
set_option maxRecDepth 20000 in
theorem sX10_cost {p : Program} {l : Launch} {e : Env} {s : State} {m : MethodId} {args : Array Value} {below : List Frame} {meth : Method} {c : Code} {D : va_G} {cA : Nat → ClassId} {ad0 : Nat → Nat} {n0 sz d mc ms : Nat} {P : PO} (hM : FM p l s m args meth c D cA 3 ad0 n0 sz cX10_cost RX10 (some .int) [] yX10_cost.name) : ∀ q ∈ tX10_cost d mc ms P, Snd (jM p l e s m args below meth c D cA 3 ad0 n0 sz (d + 1) mc ms P) q.1 q.2 := by
  have hF := hM.1
  have hts := hF.2.2.2.2.1
  unfold tX10_cost
  refine fmS (snd_aloadn hF (k := 0) rfl (by decide +kernel)) ?_
  refine fmS (snd_iconst hF (n := 0) rfl (by decide +kernel)) ?_
  refine fmS (snd_puti hF okX10 (k := 0) (by decide) qw1104 rfl rfl rfl rfl (by decide +kernel)) ?_
  refine fmS (snd_iloadn hF (k := 1) rfl (by decide +kernel)) ?_
  refine fmS (snd_iloadn hF (k := 2) rfl (by decide +kernel)) ?_
  refine fmS (snd_callS hM k_X10_isOrder qw1429 qw1430 (by decide +kernel)) ?_
  refine fmS (snd_if_ne hF (off := 9) (by decide) (by decide +kernel)) ?_
  refine fmS (snd_aloadn hF (k := 0) rfl (by decide +kernel)) ?_
  refine fmS (snd_iconst hF (n := 1) rfl (by decide +kernel)) ?_
  refine fmS (snd_callV hM k_X10_raises okX10 qw1221 qw1223 (hts _ qw35) (by decide +kernel)) ?_
  refine fmS (snd_retI hM (by decide +kernel)) ?_
  refine fmS (snd_iloadn hF (k := 1) rfl (by decide +kernel)) ?_
  refine fmS (snd_if_le hF (off := 18) (by decide) (by decide +kernel)) ?_
  refine fmS (snd_aloadn hF (k := 0) rfl (by decide +kernel)) ?_
  refine fmS (snd_callV hM k_X10_parallel okX10 qw1417 qw1419 (hts _ qw62) (by decide +kernel)) ?_
  refine fmS (snd_if_ne hF (off := 11) (by decide) (by decide +kernel)) ?_
  refine fmS (snd_aloadn hF (k := 0) rfl (by decide +kernel)) ?_
  refine fmS (snd_iconst hF (n := 2) rfl (by decide +kernel)) ?_
  refine fmS (snd_callV hM k_X10_raises okX10 qw1221 qw1223 (hts _ qw35) (by decide +kernel)) ?_
  refine fmS (snd_goto hF (off := 9) (by decide) (by decide +kernel)) ?_
  refine fmS (snd_aloadn hF (k := 0) rfl (by decide +kernel)) ?_
  refine fmS (snd_iloadn hF (k := 1) rfl (by decide +kernel)) ?_
  refine fmS (snd_iloadn hF (k := 2) rfl (by decide +kernel)) ?_
  refine fmS (snd_callV hM k_X10_costs okX10 qw1529 qw1531 (hts _ qw74) (by decide +kernel)) ?_
  refine fmS (snd_retI hM (by decide +kernel)) ?_
  exact fmE
theorem iX10_cost {d mc ms n : Nat} {av : List Value} {M : PM} {P : PO} (hw : wid av ≤ 3) (hb : ∀ J : KT, (∀ (k : Nat) (stops : Nat → Bool) (pc : Nat) (lv : LV) (st : List Value) (nn : NN) (M : PM), lk (tX10_cost d mc ms P) pc (wpN (tX10_cost d mc ms P) stops k J) lv st nn M → J pc lv st nn M) → J 0 (entA 0 av) [] (n, 0, 0) M) : CallOK (d + 1) mc ms yX10_cost (Cond.code yX10_cost cX10_cost 3 (some .int)) av n M P := call_intro (own := RX10) (by decide) rfl hw (fun _ _ _ _ _ _ _ _ _ _ _ _ _ hM => sX10_cost hM) hb
def tX10_cheapest (d mc ms : Nat) (P : PO) : List (Nat × OP) := [(0, oAld 0 1), (1, oPush (.int 0) 2), (2, oPi 10 0 5), (5, oPush (.int 0) 6), (6, oIst 1 7), (7, oAld 0 8), (8, oPush (.int 0) 9), (9, oPush (.int 0) 10), (10, oCallV d mc ms P 0 0 yX10_costs (Cond.code yX10_costs cX10_costs 8 (some .int)) 2 10 13), (13, oIst 2 14), (14, oAld 0 15), (15, oCallV d mc ms P 0 0 yX10_parallel (Cond.code yX10_parallel cX10_parallel 2 (some .boolean)) 0 10 18), (18, oIf (fun x => x = 0) 21 23), (21, oPush (.int 0) 22), (22, oRetI mc ms P), (23, oPush (.int 0) 24), (24, oIst 3 25), (25, oIld 3 26), (26, oPush (.int 7) 28), (28, oIc (fun x y => y ≤ x) 107 31), (31, oIld 3 32), (32, oPush (.int 3) 33), (33, oIc (fun x y => y ≤ x) 40 36), (36, oPush (.int 1) 37), (37, oGoto 51), (40, oIld 3 41), (41, oPush (.int 6) 43), (43, oIc (fun x y => y ≤ x) 50 46), (46, oPush (.int 2) 47), (47, oGoto 51), (50, oPush (.int 3) 51), (51, oIst 4 53), (53, oIld 4 55), (55, oPush (.int 3) 56), (56, oIc (fun x y => x = y) 59 63), (59, oPush (.int 0) 60), (60, oGoto 68), (63, oPush (.int 2) 64), (64, oIld 3 65), (65, oPush (.int 3) 66), (66, oI2n (fun x y => x - x / y * y) 67), (67, oI2 (fun x y => x <<< (y &&& 31)) 68), (68, oIst 5 70), (70, oAld 0 71), (71, oIld 4 73), (73, oIld 5 75), (75, oCallV d mc ms P 0 0 yX10_costs (Cond.code yX10_costs cX10_costs 8 (some .int)) 2 10 78), (78, oIst 6 80), (80, oIld 6 82), (82, oIld 2 83), (83, oIc (fun x y => x < y) 89 86), (86, oGoto 101), (89, oIld 6 91), (91, oIst 2 92), (92, oPush (.int 10) 94), (94, oIld 4 96), (96, oI2 (fun x y => x * y) 97), (97, oIld 5 99), (99, oI2 (fun x y => x + y) 100), (100, oIst 1 101), (101, oInc 3 1 104), (104, oGoto 25), (107, oIld 1 108), (108, oRetI mc ms P)]
set_option maxRecDepth 20000 in
theorem sX10_cheapest {p : Program} {l : Launch} {e : Env} {s : State} {m : MethodId} {args : Array Value} {below : List Frame} {meth : Method} {c : Code} {D : va_G} {cA : Nat → ClassId} {ad0 : Nat → Nat} {n0 sz d mc ms : Nat} {P : PO} (hM : FM p l s m args meth c D cA 7 ad0 n0 sz cX10_cheapest RX10 (some .int) [] yX10_cheapest.name) : ∀ q ∈ tX10_cheapest d mc ms P, Snd (jM p l e s m args below meth c D cA 7 ad0 n0 sz (d + 1) mc ms P) q.1 q.2 := by
  have hF := hM.1
  have hts := hF.2.2.2.2.1
  unfold tX10_cheapest
  refine fmS (snd_aloadn hF (k := 0) rfl (by decide +kernel)) ?_
  refine fmS (snd_iconst hF (n := 0) rfl (by decide +kernel)) ?_
  refine fmS (snd_puti hF okX10 (k := 0) (by decide) qw1104 rfl rfl rfl rfl (by decide +kernel)) ?_
  refine fmS (snd_iconst hF (n := 0) rfl (by decide +kernel)) ?_
  refine fmS (snd_istoren hF (k := 1) rfl (by decide) (by decide +kernel)) ?_
  refine fmS (snd_aloadn hF (k := 0) rfl (by decide +kernel)) ?_
  refine fmS (snd_iconst hF (n := 0) rfl (by decide +kernel)) ?_
  refine fmS (snd_iconst hF (n := 0) rfl (by decide +kernel)) ?_
  refine fmS (snd_callV hM k_X10_costs okX10 qw1529 qw1531 (hts _ qw74) (by decide +kernel)) ?_
  refine fmS (snd_istoren hF (k := 2) rfl (by decide) (by decide +kernel)) ?_
  refine fmS (snd_aloadn hF (k := 0) rfl (by decide +kernel)) ?_
  refine fmS (snd_callV hM k_X10_parallel okX10 qw1417 qw1419 (hts _ qw62) (by decide +kernel)) ?_
  refine fmS (snd_if_ne hF (off := 5) (by decide) (by decide +kernel)) ?_
  refine fmS (snd_iconst hF (n := 0) rfl (by decide +kernel)) ?_
  refine fmS (snd_retI hM (by decide +kernel)) ?_
  refine fmS (snd_iconst hF (n := 0) rfl (by decide +kernel)) ?_
  refine fmS (snd_istoren hF (k := 3) rfl (by decide) (by decide +kernel)) ?_
  refine fmS (snd_iloadn hF (k := 3) rfl (by decide +kernel)) ?_
  refine fmS (snd_bipush hF (n := 7) (by decide +kernel) (by decide +kernel)) ?_
  refine fmS (snd_icmp_ge hF (off := 79) (by decide) (by decide +kernel)) ?_
  refine fmS (snd_iloadn hF (k := 3) rfl (by decide +kernel)) ?_
  refine fmS (snd_iconst hF (n := 3) rfl (by decide +kernel)) ?_
  refine fmS (snd_icmp_ge hF (off := 7) (by decide) (by decide +kernel)) ?_
  refine fmS (snd_iconst hF (n := 1) rfl (by decide +kernel)) ?_
  refine fmS (snd_goto hF (off := 14) (by decide) (by decide +kernel)) ?_
  refine fmS (snd_iloadn hF (k := 3) rfl (by decide +kernel)) ?_
  refine fmS (snd_bipush hF (n := 6) (by decide +kernel) (by decide +kernel)) ?_
  refine fmS (snd_icmp_ge hF (off := 7) (by decide) (by decide +kernel)) ?_
  refine fmS (snd_iconst hF (n := 2) rfl (by decide +kernel)) ?_
  refine fmS (snd_goto hF (off := 4) (by decide) (by decide +kernel)) ?_
  refine fmS (snd_iconst hF (n := 3) rfl (by decide +kernel)) ?_
  refine fmS (snd_istore hF (by decide) (by decide +kernel)) ?_
  refine fmS (snd_iload hF (by decide +kernel)) ?_
  refine fmS (snd_iconst hF (n := 3) rfl (by decide +kernel)) ?_
  refine fmS (snd_icmp_ne hF (off := 7) (by decide) (by decide +kernel)) ?_
  refine fmS (snd_iconst hF (n := 0) rfl (by decide +kernel)) ?_
  refine fmS (snd_goto hF (off := 8) (by decide) (by decide +kernel)) ?_
  refine fmS (snd_iconst hF (n := 2) rfl (by decide +kernel)) ?_
  refine fmS (snd_iloadn hF (k := 3) rfl (by decide +kernel)) ?_
  refine fmS (snd_iconst hF (n := 3) rfl (by decide +kernel)) ?_
  refine fmS (snd_irem hF (by decide +kernel)) ?_
  refine fmS (snd_ishl hF (by decide +kernel)) ?_
  refine fmS (snd_istore hF (by decide) (by decide +kernel)) ?_
  refine fmS (snd_aloadn hF (k := 0) rfl (by decide +kernel)) ?_
  refine fmS (snd_iload hF (by decide +kernel)) ?_
  refine fmS (snd_iload hF (by decide +kernel)) ?_
  refine fmS (snd_callV hM k_X10_costs okX10 qw1529 qw1531 (hts _ qw74) (by decide +kernel)) ?_
  refine fmS (snd_istore hF (by decide) (by decide +kernel)) ?_
  refine fmS (snd_iload hF (by decide +kernel)) ?_
  refine fmS (snd_iloadn hF (k := 2) rfl (by decide +kernel)) ?_
  refine fmS (snd_icmp_lt hF (off := 6) (by decide) (by decide +kernel)) ?_
  refine fmS (snd_goto hF (off := 15) (by decide) (by decide +kernel)) ?_
  refine fmS (snd_iload hF (by decide +kernel)) ?_
  refine fmS (snd_istoren hF (k := 2) rfl (by decide) (by decide +kernel)) ?_
  refine fmS (snd_bipush hF (n := 10) (by decide +kernel) (by decide +kernel)) ?_
  refine fmS (snd_iload hF (by decide +kernel)) ?_
  refine fmS (snd_imul hF (by decide +kernel)) ?_
  refine fmS (snd_iload hF (by decide +kernel)) ?_
  refine fmS (snd_iadd hF (by decide +kernel)) ?_
  refine fmS (snd_istoren hF (k := 1) rfl (by decide) (by decide +kernel)) ?_
  refine fmS (snd_iinc hF (n := 1) (by decide +kernel) (by decide) (by decide +kernel)) ?_
  refine fmS (snd_goto hF (off := (-79)) (by decide) (by decide +kernel)) ?_
  refine fmS (snd_iloadn hF (k := 1) rfl (by decide +kernel)) ?_
  refine fmS (snd_retI hM (by decide +kernel)) ?_
  exact fmE
theorem iX10_cheapest {d mc ms n : Nat} {av : List Value} {M : PM} {P : PO} (hw : wid av ≤ 7) (hb : ∀ J : KT, (∀ (k : Nat) (stops : Nat → Bool) (pc : Nat) (lv : LV) (st : List Value) (nn : NN) (M : PM), lk (tX10_cheapest d mc ms P) pc (wpN (tX10_cheapest d mc ms P) stops k J) lv st nn M → J pc lv st nn M) → J 0 (entA 0 av) [] (n, 0, 0) M) : CallOK (d + 1) mc ms yX10_cheapest (Cond.code yX10_cheapest cX10_cheapest 7 (some .int)) av n M P := call_intro (own := RX10) (by decide) rfl hw (fun _ _ _ _ _ _ _ _ _ _ _ _ _ hM => sX10_cheapest hM) hb
def tX10_save (d mc ms : Nat) (P : PO) : List (Nat × OP) := [(0, oAld 0 1), (1, oPush (.int 0) 2), (2, oPi 10 0 5), (5, oAld 0 6), (6, oPush (.int 1) 7), (7, oPz 10 3 10), (10, oAld 0 11), (11, oAld 0 12), (12, oGr 10 1 15), (15, oAld 0 16), (16, oGr 10 2 19), (19, oCallV d mc ms P 0 0 yX10_keeps (Cond.code yX10_keeps cX10_keeps 4 none) 2 10 22), (22, oRetV mc ms P)]
set_option maxRecDepth 20000 in
theorem sX10_save {p : Program} {l : Launch} {e : Env} {s : State} {m : MethodId} {args : Array Value} {below : List Frame} {meth : Method} {c : Code} {D : va_G} {cA : Nat → ClassId} {ad0 : Nat → Nat} {n0 sz d mc ms : Nat} {P : PO} (hM : FM p l s m args meth c D cA 1 ad0 n0 sz cX10_save RX10 none [] yX10_save.name) : ∀ q ∈ tX10_save d mc ms P, Snd (jM p l e s m args below meth c D cA 1 ad0 n0 sz (d + 1) mc ms P) q.1 q.2 := by
  have hF := hM.1
  have hts := hF.2.2.2.2.1
  unfold tX10_save
  refine fmS (snd_aloadn hF (k := 0) rfl (by decide +kernel)) ?_
  refine fmS (snd_iconst hF (n := 0) rfl (by decide +kernel)) ?_
  refine fmS (snd_puti hF okX10 (k := 0) (by decide) qw1104 rfl rfl rfl rfl (by decide +kernel)) ?_
  refine fmS (snd_aloadn hF (k := 0) rfl (by decide +kernel)) ?_
  refine fmS (snd_iconst hF (n := 1) rfl (by decide +kernel)) ?_
  refine fmS (snd_putz hF okX10 (k := 3) (by decide) qw1107 rfl rfl rfl rfl (by decide +kernel)) ?_
  refine fmS (snd_aloadn hF (k := 0) rfl (by decide +kernel)) ?_
  refine fmS (snd_aloadn hF (k := 0) rfl (by decide +kernel)) ?_
  refine fmS (snd_getr hF okX10 (k := 1) (by decide) qw1105 rfl rfl (by decide +kernel)) ?_
  refine fmS (snd_aloadn hF (k := 0) rfl (by decide +kernel)) ?_
  refine fmS (snd_getr hF okX10 (k := 2) (by decide) qw1106 rfl rfl (by decide +kernel)) ?_
  refine fmS (snd_callV hM k_X10_keeps okX10 qw1284 qw1286 (hts _ qw49) (by decide +kernel)) ?_
  refine fmS (snd_retV hM (by decide +kernel)) ?_
  exact fmE
theorem iX10_save {d mc ms n : Nat} {av : List Value} {M : PM} {P : PO} (hw : wid av ≤ 1) (hb : ∀ J : KT, (∀ (k : Nat) (stops : Nat → Bool) (pc : Nat) (lv : LV) (st : List Value) (nn : NN) (M : PM), lk (tX10_save d mc ms P) pc (wpN (tX10_save d mc ms P) stops k J) lv st nn M → J pc lv st nn M) → J 0 (entA 0 av) [] (n, 0, 0) M) : CallOK (d + 1) mc ms yX10_save (Cond.code yX10_save cX10_save 1 none) av n M P := call_intro (own := RX10) (by decide) rfl hw (fun _ _ _ _ _ _ _ _ _ _ _ _ _ hM => sX10_save hM) hb
def tX10_restore (d mc ms : Nat) (P : PO) : List (Nat × OP) := [(0, oAld 0 1), (1, oAld 0 2), (2, oGi 10 3 5), (5, oIf (fun x => x = 0) 12 8), (8, oPush (.int 0) 9), (9, oGoto 13), (12, oPush (.int 1) 13), (13, oPi 10 0 16), (16, oAld 0 17), (17, oGi 10 3 20), (20, oIf (fun x => x = 0) 23 24), (23, oRetV mc ms P), (24, oAld 0 25), (25, oAld 0 26), (26, oGr 10 2 29), (29, oAld 0 30), (30, oGr 10 1 33), (33, oCallV d mc ms P 0 0 yX10_keeps (Cond.code yX10_keeps cX10_keeps 4 none) 2 10 36), (36, oAld 0 37), (37, oCallV d mc ms P 0 0 yX10_ends (Cond.code yX10_ends cX10_ends 7 (some .boolean)) 0 10 40), (40, oPop 41), (41, oAld 0 42), (42, oCallV d mc ms P 0 0 yX10_drops (Cond.code yX10_drops cX10_drops 1 none) 0 10 45), (45, oRetV mc ms P)]
set_option maxRecDepth 20000 in
theorem sX10_restore {p : Program} {l : Launch} {e : Env} {s : State} {m : MethodId} {args : Array Value} {below : List Frame} {meth : Method} {c : Code} {D : va_G} {cA : Nat → ClassId} {ad0 : Nat → Nat} {n0 sz d mc ms : Nat} {P : PO} (hM : FM p l s m args meth c D cA 1 ad0 n0 sz cX10_restore RX10 none [] yX10_restore.name) : ∀ q ∈ tX10_restore d mc ms P, Snd (jM p l e s m args below meth c D cA 1 ad0 n0 sz (d + 1) mc ms P) q.1 q.2 := by
  have hF := hM.1
  have hts := hF.2.2.2.2.1
  unfold tX10_restore
  refine fmS (snd_aloadn hF (k := 0) rfl (by decide +kernel)) ?_
  refine fmS (snd_aloadn hF (k := 0) rfl (by decide +kernel)) ?_
  refine fmS (snd_geti hF okX10 (k := 3) (by decide) qw1107 rfl rfl (by decide +kernel)) ?_
  refine fmS (snd_if_eq hF (off := 7) (by decide) (by decide +kernel)) ?_
  refine fmS (snd_iconst hF (n := 0) rfl (by decide +kernel)) ?_
  refine fmS (snd_goto hF (off := 4) (by decide) (by decide +kernel)) ?_
  refine fmS (snd_iconst hF (n := 1) rfl (by decide +kernel)) ?_
  refine fmS (snd_puti hF okX10 (k := 0) (by decide) qw1104 rfl rfl rfl rfl (by decide +kernel)) ?_
  refine fmS (snd_aloadn hF (k := 0) rfl (by decide +kernel)) ?_
  refine fmS (snd_geti hF okX10 (k := 3) (by decide) qw1107 rfl rfl (by decide +kernel)) ?_
  refine fmS (snd_if_ne hF (off := 4) (by decide) (by decide +kernel)) ?_
  refine fmS (snd_retV hM (by decide +kernel)) ?_
  refine fmS (snd_aloadn hF (k := 0) rfl (by decide +kernel)) ?_
  refine fmS (snd_aloadn hF (k := 0) rfl (by decide +kernel)) ?_
  refine fmS (snd_getr hF okX10 (k := 2) (by decide) qw1106 rfl rfl (by decide +kernel)) ?_
  refine fmS (snd_aloadn hF (k := 0) rfl (by decide +kernel)) ?_
  refine fmS (snd_getr hF okX10 (k := 1) (by decide) qw1105 rfl rfl (by decide +kernel)) ?_
  refine fmS (snd_callV hM k_X10_keeps okX10 qw1284 qw1286 (hts _ qw49) (by decide +kernel)) ?_
  refine fmS (snd_aloadn hF (k := 0) rfl (by decide +kernel)) ?_
  refine fmS (snd_callV hM k_X10_ends okX10 qw1094 qw1096 (hts _ qw34) (by decide +kernel)) ?_
  refine fmS (snd_pop hF (by decide +kernel)) ?_
  refine fmS (snd_aloadn hF (k := 0) rfl (by decide +kernel)) ?_
  refine fmS (snd_callV hM k_X10_drops okX10 qw1288 qw1290 (hts _ qw50) (by decide +kernel)) ?_
  refine fmS (snd_retV hM (by decide +kernel)) ?_
  exact fmE
theorem iX10_restore {d mc ms n : Nat} {av : List Value} {M : PM} {P : PO} (hw : wid av ≤ 1) (hb : ∀ J : KT, (∀ (k : Nat) (stops : Nat → Bool) (pc : Nat) (lv : LV) (st : List Value) (nn : NN) (M : PM), lk (tX10_restore d mc ms P) pc (wpN (tX10_restore d mc ms P) stops k J) lv st nn M → J pc lv st nn M) → J 0 (entA 0 av) [] (n, 0, 0) M) : CallOK (d + 1) mc ms yX10_restore (Cond.code yX10_restore cX10_restore 1 none) av n M P := call_intro (own := RX10) (by decide) rfl hw (fun _ _ _ _ _ _ _ _ _ _ _ _ _ hM => sX10_restore hM) hb
