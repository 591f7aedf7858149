def tX9_append (d mc ms : Nat) (P : PO) : List (Nat × OP) := [(0, oPush (.int 0) 1), (1, oIst 2 2), (2, oPush (.int 24) 4), (4, oIst 3 5), (5, oIld 3 6), (6, oIf (fun x => x < 0) 61 9), (9, oIld 1 10), (10, oIld 3 11), (11, oI2 (fun x y => (x.toUInt32 >>> (y.toUInt32 &&& Int32.toUInt32 31)).toInt32) 12), (12, oPush (.int 255) 15), (15, oI2 (fun x y => x &&& y) 16), (16, oIst 4 18), (18, oIld 4 20), (20, oIf (fun x => x = 0) 47 23), (23, oIld 4 25), (25, oPush (.int 33) 27), (27, oIc (fun x y => x < y) 37 30), (30, oIld 4 32), (32, oPush (.int 126) 34), (34, oIc (fun x y => x ≤ y) 47 37), (37, oThrow mc ms P 0), (47, oIld 4 49), (49, oIf (fun x => x = 0) 55 52), (52, oInc 2 1 55), (55, oInc 3 (-8) 58), (58, oGoto 5), (61, oAld 0 62), (62, oGr 9 0 65), (65, oGi 7 1 68), (68, oIld 2 69), (69, oI2 (fun x y => x + y) 70), (70, oPush (.int 100) 72), (72, oIc (fun x y => x ≤ y) 85 75), (75, oThrow mc ms P 1), (85, oPush (.int 24) 87), (87, oIst 3 88), (88, oIld 3 89), (89, oIf (fun x => x < 0) 122 92), (92, oIld 1 93), (93, oIld 3 94), (94, oI2 (fun x y => (x.toUInt32 >>> (y.toUInt32 &&& Int32.toUInt32 31)).toInt32) 95), (95, oPush (.int 255) 98), (98, oI2 (fun x y => x &&& y) 99), (99, oIst 4 101), (101, oIld 4 103), (103, oIf (fun x => x = 0) 116 106), (106, oAld 0 107), (107, oGr 9 0 110), (110, oIld 4 112), (112, oIcv (fun x => .int (x.toUInt32 % 65536).toInt32) 113), (113, oCallV d mc ms P 0 0 yX7_addSign (Cond.code yX7_addSign cX7_addSign 2 none) 1 7 116), (116, oInc 3 (-8) 119), (119, oGoto 88), (122, oAld 0 123), (123, oGr 9 0 126), (126, oGi 7 1 129), (129, oRetI mc ms P)]
set_option maxRecDepth 20000 in
theorem sX9_append {p : Program} {l : Launch} {e : Env} {s : State} {m : MethodId} {args : Array Value} {below : List Frame} {meth : Method} {c : Code} {D : va_G} {cA : Nat → ClassId} {ad0 : Nat → Nat} {n0 sz d mc ms : Nat} {P : PO} (hd : 5 ≤ d) (hM : FM p l s m args meth c D cA 5 ad0 n0 sz cX9_append RX9 (some .int) [] yX9_append.name) : ∀ q ∈ tX9_append d mc ms P, Snd (jM p l e s m args below meth c D cA 5 ad0 n0 sz (d + 1) mc ms P) q.1 q.2 := by
  have hF := hM.1
  have hts := hF.2.2.2.2.1
  unfold tX9_append
  refine fmS (snd_iconst hF (n := 0) rfl (by decide +kernel)) ?_
  refine fmS (snd_istoren hF (k := 2) rfl (by decide) (by decide +kernel)) ?_
  refine fmS (snd_bipush hF (n := 24) (by decide +kernel) (by decide +kernel)) ?_
  refine fmS (snd_istoren hF (k := 3) rfl (by decide) (by decide +kernel)) ?_
  refine fmS (snd_iloadn hF (k := 3) rfl (by decide +kernel)) ?_
  refine fmS (snd_if_lt hF (off := 55) (by decide) (by decide +kernel)) ?_
  refine fmS (snd_iloadn hF (k := 1) rfl (by decide +kernel)) ?_
  refine fmS (snd_iloadn hF (k := 3) rfl (by decide +kernel)) ?_
  refine fmS (snd_iushr hF (by decide +kernel)) ?_
  refine fmS (snd_sipush hF (n := 255) (by decide +kernel) (by decide +kernel)) ?_
  refine fmS (snd_iand hF (by decide +kernel)) ?_
  refine fmS (snd_istore hF (by decide) (by decide +kernel)) ?_
  refine fmS (snd_iload hF (by decide +kernel)) ?_
  refine fmS (snd_if_eq hF (off := 27) (by decide) (by decide +kernel)) ?_
  refine fmS (snd_iload hF (by decide +kernel)) ?_
  refine fmS (snd_bipush hF (n := 33) (by decide +kernel) (by decide +kernel)) ?_
  refine fmS (snd_icmp_lt hF (off := 10) (by decide) (by decide +kernel)) ?_
  refine fmS (snd_iload hF (by decide +kernel)) ?_
  refine fmS (snd_bipush hF (n := 126) (by decide +kernel) (by decide +kernel)) ?_
  refine fmS (snd_icmp_le hF (off := 13) (by decide) (by decide +kernel)) ?_
  refine fmS (snd_throw hM (is := 85) (text := "a byte is not a character of a text") (by omega) thr0 (by decide +kernel) (by decide +kernel) (by decide +kernel) (by decide +kernel) (by decide +kernel) (by decide +kernel)) ?_
  refine fmS (snd_iload hF (by decide +kernel)) ?_
  refine fmS (snd_if_eq hF (off := 6) (by decide) (by decide +kernel)) ?_
  refine fmS (snd_iinc hF (n := 1) (by decide +kernel) (by decide) (by decide +kernel)) ?_
  refine fmS (snd_iinc hF (n := (-8)) (by decide +kernel) (by decide) (by decide +kernel)) ?_
  refine fmS (snd_goto hF (off := (-53)) (by decide) (by decide +kernel)) ?_
  refine fmS (snd_aloadn hF (k := 0) rfl (by decide +kernel)) ?_
  refine fmS (snd_getr hF okX9 (k := 0) (by decide) qw327 rfl rfl (by decide +kernel)) ?_
  refine fmS (snd_getiN hF okX7 (k := 1) (by decide) qw116 rfl rfl (by decide +kernel)) ?_
  refine fmS (snd_iloadn hF (k := 2) rfl (by decide +kernel)) ?_
  refine fmS (snd_iadd hF (by decide +kernel)) ?_
  refine fmS (snd_bipush hF (n := 100) (by decide +kernel) (by decide +kernel)) ?_
  refine fmS (snd_icmp_le hF (off := 13) (by decide) (by decide +kernel)) ?_
  refine fmS (snd_throw hM (is := 95) (text := "the buffer would have too many characters") (by omega) thr1 (by decide +kernel) (by decide +kernel) (by decide +kernel) (by decide +kernel) (by decide +kernel) (by decide +kernel)) ?_
  refine fmS (snd_bipush hF (n := 24) (by decide +kernel) (by decide +kernel)) ?_
  refine fmS (snd_istoren hF (k := 3) rfl (by decide) (by decide +kernel)) ?_
  refine fmS (snd_iloadn hF (k := 3) rfl (by decide +kernel)) ?_
  refine fmS (snd_if_lt hF (off := 33) (by decide) (by decide +kernel)) ?_
  refine fmS (snd_iloadn hF (k := 1) rfl (by decide +kernel)) ?_
  refine fmS (snd_iloadn hF (k := 3) rfl (by decide +kernel)) ?_
  refine fmS (snd_iushr hF (by decide +kernel)) ?_
  refine fmS (snd_sipush hF (n := 255) (by decide +kernel) (by decide +kernel)) ?_
  refine fmS (snd_iand hF (by decide +kernel)) ?_
  refine fmS (snd_istore hF (by decide) (by decide +kernel)) ?_
  refine fmS (snd_iload hF (by decide +kernel)) ?_
  refine fmS (snd_if_eq hF (off := 13) (by decide) (by decide +kernel)) ?_
  refine fmS (snd_aloadn hF (k := 0) rfl (by decide +kernel)) ?_
  refine fmS (snd_getr hF okX9 (k := 0) (by decide) qw327 rfl rfl (by decide +kernel)) ?_
  refine fmS (snd_iload hF (by decide +kernel)) ?_
  refine fmS (snd_i2c hF (by decide +kernel)) ?_
  refine fmS (snd_callVN hM k_X7_addSign okX7 qw502 qw504 (hts _ qw3) (by decide +kernel)) ?_
  refine fmS (snd_iinc hF (n := (-8)) (by decide +kernel) (by decide) (by decide +kernel)) ?_
  refine fmS (snd_goto hF (off := (-31)) (by decide) (by decide +kernel)) ?_
  refine fmS (snd_aloadn hF (k := 0) rfl (by decide +kernel)) ?_
  refine fmS (snd_getr hF okX9 (k := 0) (by decide) qw327 rfl rfl (by decide +kernel)) ?_
  refine fmS (snd_getiN hF okX7 (k := 1) (by decide) qw116 rfl rfl (by decide +kernel)) ?_
  refine fmS (snd_retI hM (by decide +kernel)) ?_
  exact fmE
theorem iX9_append {d mc ms n : Nat} {av : List Value} {M : PM} {P : PO} (hd : 5 ≤ d) (hw : wid av ≤ 5) (hb : ∀ J : KT, (∀ (k : Nat) (stops : Nat → Bool) (pc : Nat) (lv : LV) (st : List Value) (nn : NN) (M : PM), lk (tX9_append d mc ms P) pc (wpN (tX9_append d mc ms P) stops k J) lv st nn M → J pc lv st nn M) → J 0 (entA 0 av) [] (n, 0, 0) M) : CallOK (d + 1) mc ms yX9_append (Cond.code yX9_append cX9_append 5 (some .int)) av n M P := call_intro (own := RX9) (by decide) rfl hw (fun _ _ _ _ _ _ _ _ _ _ _ _ _ hM => sX9_append hd hM) hb
def tX9_load (d mc ms : Nat) (P : PO) : List (Nat × OP) := [(0, oAld 0 1), (1, oGr 9 0 4), (4, oCallV d mc ms P 0 0 yX7_readText (Cond.code yX7_readText cX7_readText 2 (some .boolean)) 0 7 7), (7, oIst 1 8), (8, oAld 0 9), (9, oIld 1 10), (10, oIf (fun x => x = 0) 17 13), (13, oPush (.int (-1)) 14), (14, oGoto 24), (17, oAld 0 18), (18, oGr 9 0 21), (21, oGi 7 2 24), (24, oPi 9 10 27), (27, oAld 0 28), (28, oGr 9 0 31), (31, oPush (.int 0) 32), (32, oPi 7 1 35), (35, oIld 1 36), (36, oIf (fun x => x = 0) 39 49), (39, oThrow mc ms P 0), (49, oAld 0 50), (50, oCallV d mc ms P 0 0 yX9_spareProgram (Cond.code yX9_spareProgram cX9_spareProgram 2 (some (.object "ReductionFinder$Program"))) 0 9 53), (53, oAst 2 54), (54, oAld 2 55), (55, oAld 0 56), (56, oGr 9 0 59), (59, oCallV d mc ms P 0 0 yX6_build (Cond.code yX6_build cX6_build 3 (some .boolean)) 1 6 62), (62, oIf (fun x => x = 0) 65 75), (65, oThrow mc ms P 1), (75, oAld 2 76), (76, oAld 0 77), (77, oGr 9 2 80), (80, oCallV d mc ms P 0 0 yX6_classify (Cond.code yX6_classify cX6_classify 4 none) 1 6 83), (83, oAld 0 84), (84, oAld 2 85), (85, oCallV d mc ms P 0 0 yX9_switchTo (Cond.code yX9_switchTo cX9_switchTo 2 none) 1 9 88), (88, oAld 0 89), (89, oGr 9 8 92), (92, oGi 6 3 95), (95, oRetI mc ms P)]
set_option maxRecDepth 20000 in
theorem sX9_load {p : Program} {l : Launch} {e : Env} {s : State} {m : MethodId} {args : Array Value} {below : List Frame} {meth : Method} {c : Code} {D : va_G} {cA : Nat → ClassId} {ad0 : Nat → Nat} {n0 sz d mc ms : Nat} {P : PO} (hd : 5 ≤ d) (hM : FM p l s m args meth c D cA 3 ad0 n0 sz cX9_load RX9 (some .int) [] yX9_load.name) : ∀ q ∈ tX9_load d mc ms P, Snd (jM p l e s m args below meth c D cA 3 ad0 n0 sz (d + 1) mc ms P) q.1 q.2 := by
  have hF := hM.1
  have hts := hF.2.2.2.2.1
  unfold tX9_load
  refine fmS (snd_aloadn hF (k := 0) rfl (by decide +kernel)) ?_
  refine fmS (snd_getr hF okX9 (k := 0) (by decide) qw327 rfl rfl (by decide +kernel)) ?_
  refine fmS (snd_callVN hM k_X7_readText okX7 qw513 qw515 (hts _ qw4) (by decide +kernel)) ?_
  refine fmS (snd_istoren hF (k := 1) rfl (by decide) (by decide +kernel)) ?_
  refine fmS (snd_aloadn hF (k := 0) rfl (by decide +kernel)) ?_
  refine fmS (snd_iloadn hF (k := 1) rfl (by decide +kernel)) ?_
  refine fmS (snd_if_eq hF (off := 7) (by decide) (by decide +kernel)) ?_
  refine fmS (snd_iconst hF (n := (-1)) rfl (by decide +kernel)) ?_
  refine fmS (snd_goto hF (off := 10) (by decide) (by decide +kernel)) ?_
  refine fmS (snd_aloadn hF (k := 0) rfl (by decide +kernel)) ?_
  refine fmS (snd_getr hF okX9 (k := 0) (by decide) qw327 rfl rfl (by decide +kernel)) ?_
  refine fmS (snd_getiN hF okX7 (k := 2) (by decide) qw118 rfl rfl (by decide +kernel)) ?_
  refine fmS (snd_puti hF okX9 (k := 10) (by decide) qw337 rfl rfl rfl rfl (by decide +kernel)) ?_
  refine fmS (snd_aloadn hF (k := 0) rfl (by decide +kernel)) ?_
  refine fmS (snd_getr hF okX9 (k := 0) (by decide) qw327 rfl rfl (by decide +kernel)) ?_
  refine fmS (snd_iconst hF (n := 0) rfl (by decide +kernel)) ?_
  refine fmS (snd_putiN hF okX7 (k := 1) (by decide) qw116 rfl rfl rfl rfl (by decide +kernel)) ?_
  refine fmS (snd_iloadn hF (k := 1) rfl (by decide +kernel)) ?_
  refine fmS (snd_if_ne hF (off := 13) (by decide) (by decide +kernel)) ?_
  refine fmS (snd_throw hM (is := 109) (text := "the text has a fault") (by omega) thr0 (by decide +kernel) (by decide +kernel) (by decide +kernel) (by decide +kernel) (by decide +kernel) (by decide +kernel)) ?_
  refine fmS (snd_aloadn hF (k := 0) rfl (by decide +kernel)) ?_
  refine fmS (snd_callV hM k_X9_spareProgram okX9 qw574 qw576 (hts _ qw15) (by decide +kernel)) ?_
  refine fmS (snd_astoren hF (k := 2) rfl (by decide) (by decide +kernel)) ?_
  refine fmS (snd_aloadn hF (k := 2) rfl (by decide +kernel)) ?_
  refine fmS (snd_aloadn hF (k := 0) rfl (by decide +kernel)) ?_
  refine fmS (snd_getr hF okX9 (k := 0) (by decide) qw327 rfl rfl (by decide +kernel)) ?_
  refine fmS (snd_callVN hM k_X6_build okX6 qw578 qw580 (hts _ qw16) (by decide +kernel)) ?_
  refine fmS (snd_if_ne hF (off := 13) (by decide) (by decide +kernel)) ?_
  refine fmS (snd_throw hM (is := 119) (text := "there are too many statements or nodes") (by omega) thr1 (by decide +kernel) (by decide +kernel) (by decide +kernel) (by decide +kernel) (by decide +kernel) (by decide +kernel)) ?_
  refine fmS (snd_aloadn hF (k := 2) rfl (by decide +kernel)) ?_
  refine fmS (snd_aloadn hF (k := 0) rfl (by decide +kernel)) ?_
  refine fmS (snd_getr hF okX9 (k := 2) (by decide) qw329 rfl rfl (by decide +kernel)) ?_
  refine fmS (snd_callVN hM k_X6_classify okX6 qw604 qw606 (hts _ qw21) (by decide +kernel)) ?_
  refine fmS (snd_aloadn hF (k := 0) rfl (by decide +kernel)) ?_
  refine fmS (snd_aloadn hF (k := 2) rfl (by decide +kernel)) ?_
  refine fmS (snd_callV hM k_X9_switchTo okX9 qw716 qw718 (hts _ qw27) (by decide +kernel)) ?_
  refine fmS (snd_aloadn hF (k := 0) rfl (by decide +kernel)) ?_
  refine fmS (snd_getr hF okX9 (k := 8) (by decide) qw335 rfl rfl (by decide +kernel)) ?_
  refine fmS (snd_getiN hF okX6 (k := 3) (by decide) qw267 rfl rfl (by decide +kernel)) ?_
  refine fmS (snd_retI hM (by decide +kernel)) ?_
  exact fmE
theorem iX9_load {d mc ms n : Nat} {av : List Value} {M : PM} {P : PO} (hd : 5 ≤ d) (hw : wid av ≤ 3) (hb : ∀ J : KT, (∀ (k : Nat) (stops : Nat → Bool) (pc : Nat) (lv : LV) (st : List Value) (nn : NN) (M : PM), lk (tX9_load d mc ms P) pc (wpN (tX9_load d mc ms P) stops k J) lv st nn M → J pc lv st nn M) → J 0 (entA 0 av) [] (n, 0, 0) M) : CallOK (d + 1) mc ms yX9_load (Cond.code yX9_load cX9_load 3 (some .int)) av n M P := call_intro (own := RX9) (by decide) rfl hw (fun _ _ _ _ _ _ _ _ _ _ _ _ _ hM => sX9_load hd hM) hb
def tX9_faultPosition (d mc ms : Nat) (P : PO) : List (Nat × OP) := [(0, oAld 0 1), (1, oGi 9 10 4), (4, oRetI mc ms P)]
set_option maxRecDepth 20000 in
theorem sX9_faultPosition {p : Program} {l : Launch} {e : Env} {s : State} {m : MethodId} {args : Array Value} {below : List Frame} {meth : Method} {c : Code} {D : va_G} {cA : Nat → ClassId} {ad0 : Nat → Nat} {n0 sz d mc ms : Nat} {P : PO} (hM : FM p l s m args meth c D cA 1 ad0 n0 sz cX9_faultPosition RX9 (some .int) [] yX9_faultPosition.name) : ∀ q ∈ tX9_faultPosition d mc ms P, Snd (jM p l e s m args below meth c D cA 1 ad0 n0 sz (d + 1) mc ms P) q.1 q.2 := by
  have hF := hM.1
  have hts := hF.2.2.2.2.1
  unfold tX9_faultPosition
  refine fmS (snd_aloadn hF (k := 0) rfl (by decide +kernel)) ?_
  refine fmS (snd_geti hF okX9 (k := 10) (by decide) qw337 rfl rfl (by decide +kernel)) ?_
  refine fmS (snd_retI hM (by decide +kernel)) ?_
  exact fmE
theorem iX9_faultPosition {d mc ms n : Nat} {av : List Value} {M : PM} {P : PO} (hw : wid av ≤ 1) (hb : ∀ J : KT, (∀ (k : Nat) (stops : Nat → Bool) (pc : Nat) (lv : LV) (st : List Value) (nn : NN) (M : PM), lk (tX9_faultPosition d mc ms P) pc (wpN (tX9_faultPosition d mc ms P) stops k J) lv st nn M → J pc lv st nn M) → J 0 (entA 0 av) [] (n, 0, 0) M) : CallOK (d + 1) mc ms yX9_faultPosition (Cond.code yX9_faultPosition cX9_faultPosition 1 (some .int)) av n M P := call_intro (own := RX9) (by decide) rfl hw (fun _ _ _ _ _ _ _ _ _ _ _ _ _ hM => sX9_faultPosition hM) hb
def tX9_statements (d mc ms : Nat) (P : PO) : List (Nat × OP) := [(0, oAld 0 1), (1, oGr 9 8 4), (4, oGi 6 3 7), (7, oRetI mc ms P)]
set_option maxRecDepth 20000 in
theorem sX9_statements {p : Program} {l : Launch} {e : Env} {s : State} {m : MethodId} {args : Array Value} {below : List Frame} {meth : Method} {c : Code} {D : va_G} {cA : Nat → ClassId} {ad0 : Nat → Nat} {n0 sz d mc ms : Nat} {P : PO} (hM : FM p l s m args meth c D cA 1 ad0 n0 sz cX9_statements RX9 (some .int) [] yX9_statements.name) : ∀ q ∈ tX9_statements d mc ms P, Snd (jM p l e s m args below meth c D cA 1 ad0 n0 sz (d + 1) mc ms P) q.1 q.2 := by
  have hF := hM.1
  have hts := hF.2.2.2.2.1
  unfold tX9_statements
  refine fmS (snd_aloadn hF (k := 0) rfl (by decide +kernel)) ?_
  refine fmS (snd_getr hF okX9 (k := 8) (by decide) qw335 rfl rfl (by decide +kernel)) ?_
  refine fmS (snd_getiN hF okX6 (k := 3) (by decide) qw267 rfl rfl (by decide +kernel)) ?_
  refine fmS (snd_retI hM (by decide +kernel)) ?_
  exact fmE
theorem iX9_statements {d mc ms n : Nat} {av : List Value} {M : PM} {P : PO} (hw : wid av ≤ 1) (hb : ∀ J : KT, (∀ (k : Nat) (stops : Nat → Bool) (pc : Nat) (lv : LV) (st : List Value) (nn : NN) (M : PM), lk (tX9_statements d mc ms P) pc (wpN (tX9_statements d mc ms P) stops k J) lv st nn M → J pc lv st nn M) → J 0 (entA 0 av) [] (n, 0, 0) M) : CallOK (d + 1) mc ms yX9_statements (Cond.code yX9_statements cX9_statements 1 (some .int)) av n M P := call_intro (own := RX9) (by decide) rfl hw (fun _ _ _ _ _ _ _ _ _ _ _ _ _ hM => sX9_statements hM) hb
def tX9_setMode (d mc ms : Nat) (P : PO) : List (Nat × OP) := [(0, oIld 1 1), (1, oIf (fun x => x = 0) 19 4), (4, oIld 1 5), (5, oPush (.int 1) 6), (6, oIc (fun x y => x = y) 19 9), (9, oThrow mc ms P 0), (19, oAld 0 20), (20, oGr 9 4 23), (23, oGi 1 0 26), (26, oIst 2 27), (27, oAld 0 28), (28, oGr 9 4 31), (31, oIld 1 32), (32, oPi 1 0 35), (35, oIld 2 36), (36, oRetI mc ms P)]
set_option maxRecDepth 20000 in
theorem sX9_setMode {p : Program} {l : Launch} {e : Env} {s : State} {m : MethodId} {args : Array Value} {below : List Frame} {meth : Method} {c : Code} {D : va_G} {cA : Nat → ClassId} {ad0 : Nat → Nat} {n0 sz d mc ms : Nat} {P : PO} (hd : 5 ≤ d) (hM : FM p l s m args meth c D cA 3 ad0 n0 sz cX9_setMode RX9 (some .int) [] yX9_setMode.name) : ∀ q ∈ tX9_setMode d mc ms P, Snd (jM p l e s m args below meth c D cA 3 ad0 n0 sz (d + 1) mc ms P) q.1 q.2 := by
  have hF := hM.1
  have hts := hF.2.2.2.2.1
  unfold tX9_setMode
  refine fmS (snd_iloadn hF (k := 1) rfl (by decide +kernel)) ?_
  refine fmS (snd_if_eq hF (off := 18) (by decide) (by decide +kernel)) ?_
  refine fmS (snd_iloadn hF (k := 1) rfl (by decide +kernel)) ?_
  refine fmS (snd_iconst hF (n := 1) rfl (by decide +kernel)) ?_
  refine fmS (snd_icmp_eq hF (off := 13) (by decide) (by decide +kernel)) ?_
  refine fmS (snd_throw hM (is := 132) (text := "there is no such mode") (by omega) thr0 (by decide +kernel) (by decide +kernel) (by decide +kernel) (by decide +kernel) (by decide +kernel) (by decide +kernel)) ?_
  refine fmS (snd_aloadn hF (k := 0) rfl (by decide +kernel)) ?_
  refine fmS (snd_getr hF okX9 (k := 4) (by decide) qw331 rfl rfl (by decide +kernel)) ?_
  refine fmS (snd_getiN hF okX1 (k := 0) (by decide) qw188 rfl rfl (by decide +kernel)) ?_
  refine fmS (snd_istoren hF (k := 2) rfl (by decide) (by decide +kernel)) ?_
  refine fmS (snd_aloadn hF (k := 0) rfl (by decide +kernel)) ?_
  refine fmS (snd_getr hF okX9 (k := 4) (by decide) qw331 rfl rfl (by decide +kernel)) ?_
  refine fmS (snd_iloadn hF (k := 1) rfl (by decide +kernel)) ?_
  refine fmS (snd_putiN hF okX1 (k := 0) (by decide) qw188 rfl rfl rfl rfl (by decide +kernel)) ?_
  refine fmS (snd_iloadn hF (k := 2) rfl (by decide +kernel)) ?_
  refine fmS (snd_retI hM (by decide +kernel)) ?_
  exact fmE
theorem iX9_setMode {d mc ms n : Nat} {av : List Value} {M : PM} {P : PO} (hd : 5 ≤ d) (hw : wid av ≤ 3) (hb : ∀ J : KT, (∀ (k : Nat) (stops : Nat → Bool) (pc : Nat) (lv : LV) (st : List Value) (nn : NN) (M : PM), lk (tX9_setMode d mc ms P) pc (wpN (tX9_setMode d mc ms P) stops k J) lv st nn M → J pc lv st nn M) → J 0 (entA 0 av) [] (n, 0, 0) M) : CallOK (d + 1) mc ms yX9_setMode (Cond.code yX9_setMode cX9_setMode 3 (some .int)) av n M P := call_intro (own := RX9) (by decide) rfl hw (fun _ _ _ _ _ _ _ _ _ _ _ _ _ hM => sX9_setMode hd hM) hb
def tX9_setCount (d mc ms : Nat) (P : PO) : List (Nat × OP) := [(0, oIld 1 1), (1, oIf (fun x => x < 0) 10 4), (4, oIld 1 5), (5, oPush (.int 16) 7), (7, oIc (fun x y => x ≤ y) 20 10), (10, oThrow mc ms P 0), (20, oAld 0 21), (21, oGr 9 4 24), (24, oGi 1 1 27), (27, oIst 2 28), (28, oAld 0 29), (29, oGr 9 4 32), (32, oIld 1 33), (33, oPi 1 1 36), (36, oIld 2 37), (37, oRetI mc ms P)]
set_option maxRecDepth 20000 in
theorem sX9_setCount {p : Program} {l : Launch} {e : Env} {s : State} {m : MethodId} {args : Array Value} {below : List Frame} {meth : Method} {c : Code} {D : va_G} {cA : Nat → ClassId} {ad0 : Nat → Nat} {n0 sz d mc ms : Nat} {P : PO} (hd : 5 ≤ d) (hM : FM p l s m args meth c D cA 3 ad0 n0 sz cX9_setCount RX9 (some .int) [] yX9_setCount.name) : ∀ q ∈ tX9_setCount d mc ms P, Snd (jM p l e s m args below meth c D cA 3 ad0 n0 sz (d + 1) mc ms P) q.1 q.2 := by
  have hF := hM.1
  have hts := hF.2.2.2.2.1
  unfold tX9_setCount
  refine fmS (snd_iloadn hF (k := 1) rfl (by decide +kernel)) ?_
  refine fmS (snd_if_lt hF (off := 9) (by decide) (by decide +kernel)) ?_
  refine fmS (snd_iloadn hF (k := 1) rfl (by decide +kernel)) ?_
  refine fmS (snd_bipush hF (n := 16) (by decide +kernel) (by decide +kernel)) ?_
  refine fmS (snd_icmp_le hF (off := 13) (by decide) (by decide +kernel)) ?_
  refine fmS (snd_throw hM (is := 137) (text := "the number of iterations is out of range") (by omega) thr0 (by decide +kernel) (by decide +kernel) (by decide +kernel) (by decide +kernel) (by decide +kernel) (by decide +kernel)) ?_
  refine fmS (snd_aloadn hF (k := 0) rfl (by decide +kernel)) ?_
  refine fmS (snd_getr hF okX9 (k := 4) (by decide) qw331 rfl rfl (by decide +kernel)) ?_
  refine fmS (snd_getiN hF okX1 (k := 1) (by decide) qw190 rfl rfl (by decide +kernel)) ?_
  refine fmS (snd_istoren hF (k := 2) rfl (by decide) (by decide +kernel)) ?_
  refine fmS (snd_aloadn hF (k := 0) rfl (by decide +kernel)) ?_
  refine fmS (snd_getr hF okX9 (k := 4) (by decide) qw331 rfl rfl (by decide +kernel)) ?_
  refine fmS (snd_iloadn hF (k := 1) rfl (by decide +kernel)) ?_
  refine fmS (snd_putiN hF okX1 (k := 1) (by decide) qw190 rfl rfl rfl rfl (by decide +kernel)) ?_
  refine fmS (snd_iloadn hF (k := 2) rfl (by decide +kernel)) ?_
  refine fmS (snd_retI hM (by decide +kernel)) ?_
  exact fmE
theorem iX9_setCount {d mc ms n : Nat} {av : List Value} {M : PM} {P : PO} (hd : 5 ≤ d) (hw : wid av ≤ 3) (hb : ∀ J : KT, (∀ (k : Nat) (stops : Nat → Bool) (pc : Nat) (lv : LV) (st : List Value) (nn : NN) (M : PM), lk (tX9_setCount d mc ms P) pc (wpN (tX9_setCount d mc ms P) stops k J) lv st nn M → J pc lv st nn M) → J 0 (entA 0 av) [] (n, 0, 0) M) : CallOK (d + 1) mc ms yX9_setCount (Cond.code yX9_setCount cX9_setCount 3 (some .int)) av n M P := call_intro (own := RX9) (by decide) rfl hw (fun _ _ _ _ _ _ _ _ _ _ _ _ _ hM => sX9_setCount hd hM) hb
def tX9_setElement (d mc ms : Nat) (P : PO) : List (Nat × OP) := [(0, oIld 1 1), (1, oIld 2 2), (2, oCallS d mc ms P 1 6 yX9_checkElement (Cond.code yX9_checkElement cX9_checkElement 2 none) 2 5), (5, oIld 3 6), (6, oPush (.int (-99)) 8), (8, oIc (fun x y => x < y) 17 11), (11, oIld 3 12), (12, oPush (.int 99) 14), (14, oIc (fun x y => x ≤ y) 27 17), (17, oThrow mc ms P 0), (27, oAld 0 28), (28, oGr 9 4 31), (31, oGr 1 2 34), (34, oIld 1 35), (35, oAr 106 36), (36, oIld 2 37), (37, oAi 100 38), (38, oIst 4 40), (40, oAld 0 41), (41, oGr 9 4 44), (44, oGr 1 2 47), (47, oIld 1 48), (48, oAr 106 49), (49, oIld 2 50), (50, oIld 3 51), (51, oSi 100 (fun x => x) 52), (52, oIld 4 54), (54, oRetI mc ms P)]
set_option maxRecDepth 20000 in
theorem sX9_setElement {p : Program} {l : Launch} {e : Env} {s : State} {m : MethodId} {args : Array Value} {below : List Frame} {meth : Method} {c : Code} {D : va_G} {cA : Nat → ClassId} {ad0 : Nat → Nat} {n0 sz d mc ms : Nat} {P : PO} (hd : 5 ≤ d) (hM : FM p l s m args meth c D cA 5 ad0 n0 sz cX9_setElement RX9 (some .int) [] yX9_setElement.name) : ∀ q ∈ tX9_setElement d mc ms P, Snd (jM p l e s m args below meth c D cA 5 ad0 n0 sz (d + 1) mc ms P) q.1 q.2 := by
  have hF := hM.1
  have hts := hF.2.2.2.2.1
  unfold tX9_setElement
  refine fmS (snd_iloadn hF (k := 1) rfl (by decide +kernel)) ?_
  refine fmS (snd_iloadn hF (k := 2) rfl (by decide +kernel)) ?_
  refine fmS (snd_callS hM k_X9_checkElement qw744 qw745 (by decide +kernel)) ?_
  refine fmS (snd_iloadn hF (k := 3) rfl (by decide +kernel)) ?_
  refine fmS (snd_bipush hF (n := (-99)) (by decide +kernel) (by decide +kernel)) ?_
  refine fmS (snd_icmp_lt hF (off := 9) (by decide) (by decide +kernel)) ?_
  refine fmS (snd_iloadn hF (k := 3) rfl (by decide +kernel)) ?_
  refine fmS (snd_bipush hF (n := 99) (by decide +kernel) (by decide +kernel)) ?_
  refine fmS (snd_icmp_le hF (off := 13) (by decide) (by decide +kernel)) ?_
  refine fmS (snd_throw hM (is := 146) (text := "the value is out of range") (by omega) thr0 (by decide +kernel) (by decide +kernel) (by decide +kernel) (by decide +kernel) (by decide +kernel) (by decide +kernel)) ?_
  refine fmS (snd_aloadn hF (k := 0) rfl (by decide +kernel)) ?_
  refine fmS (snd_getr hF okX9 (k := 4) (by decide) qw331 rfl rfl (by decide +kernel)) ?_
  refine fmS (snd_getrN hF okX1 (k := 2) (by decide) qw193 rfl rfl (by decide +kernel)) ?_
  refine fmS (snd_iloadn hF (k := 1) rfl (by decide +kernel)) ?_
  refine fmS (snd_aaload106 hF (by decide +kernel)) ?_
  refine fmS (snd_iloadn hF (k := 2) rfl (by decide +kernel)) ?_
  refine fmS (snd_iaload hF (by decide +kernel)) ?_
  refine fmS (snd_istore hF (by decide) (by decide +kernel)) ?_
  refine fmS (snd_aloadn hF (k := 0) rfl (by decide +kernel)) ?_
  refine fmS (snd_getr hF okX9 (k := 4) (by decide) qw331 rfl rfl (by decide +kernel)) ?_
  refine fmS (snd_getrN hF okX1 (k := 2) (by decide) qw193 rfl rfl (by decide +kernel)) ?_
  refine fmS (snd_iloadn hF (k := 1) rfl (by decide +kernel)) ?_
  refine fmS (snd_aaload106 hF (by decide +kernel)) ?_
  refine fmS (snd_iloadn hF (k := 2) rfl (by decide +kernel)) ?_
  refine fmS (snd_iloadn hF (k := 3) rfl (by decide +kernel)) ?_
  refine fmS (snd_iastore hF (by decide +kernel)) ?_
  refine fmS (snd_iload hF (by decide +kernel)) ?_
  refine fmS (snd_retI hM (by decide +kernel)) ?_
  exact fmE
theorem iX9_setElement {d mc ms n : Nat} {av : List Value} {M : PM} {P : PO} (hd : 5 ≤ d) (hw : wid av ≤ 5) (hb : ∀ J : KT, (∀ (k : Nat) (stops : Nat → Bool) (pc : Nat) (lv : LV) (st : List Value) (nn : NN) (M : PM), lk (tX9_setElement d mc ms P) pc (wpN (tX9_setElement d mc ms P) stops k J) lv st nn M → J pc lv st nn M) → J 0 (entA 0 av) [] (n, 0, 0) M) : CallOK (d + 1) mc ms yX9_setElement (Cond.code yX9_setElement cX9_setElement 5 (some .int)) av n M P := call_intro (own := RX9) (by decide) rfl hw (fun _ _ _ _ _ _ _ _ _ _ _ _ _ hM => sX9_setElement hd hM) hb
def tX9_fill (d mc ms : Nat) (P : PO) : List (Nat × OP) := [(0, oIld 1 1), (1, oPush (.int 0) 2), (2, oCallS d mc ms P 1 6 yX9_checkElement (Cond.code yX9_checkElement cX9_checkElement 2 none) 2 5), (5, oIld 2 6), (6, oIst 3 7), (7, oPush (.int 0) 8), (8, oIst 4 10), (10, oPush (.int 0) 11), (11, oIst 5 13), (13, oIld 5 15), (15, oPush (.int 16) 17), (17, oIc (fun x y => y ≤ x) 68 20), (20, oIld 3 21), (21, oPush (.int 1664525) 23), (23, oI2 (fun x y => x * y) 24), (24, oPush (.int 1013904223) 26), (26, oI2 (fun x y => x + y) 27), (27, oIst 3 28), (28, oIld 3 29), (29, oPush (.int 8) 31), (31, oI2 (fun x y => (x.toUInt32 >>> (y.toUInt32 &&& Int32.toUInt32 31)).toInt32) 32), (32, oPush (.int 199) 35), (35, oI2n (fun x y => x - x / y * y) 36), (36, oPush (.int 99) 38), (38, oI2 (fun x y => x - y) 39), (39, oIst 6 41), (41, oAld 0 42), (42, oGr 9 4 45), (45, oGr 1 2 48), (48, oIld 1 49), (49, oAr 106 50), (50, oIld 5 52), (52, oIld 6 54), (54, oSi 100 (fun x => x) 55), (55, oIld 4 57), (57, oIld 6 59), (59, oI2 (fun x y => x + y) 60), (60, oIst 4 62), (62, oInc 5 1 65), (65, oGoto 13), (68, oIld 4 70), (70, oRetI mc ms P)]
set_option maxRecDepth 20000 in
theorem sX9_fill {p : Program} {l : Launch} {e : Env} {s : State} {m : MethodId} {args : Array Value} {below : List Frame} {meth : Method} {c : Code} {D : va_G} {cA : Nat → ClassId} {ad0 : Nat → Nat} {n0 sz d mc ms : Nat} {P : PO} (hM : FM p l s m args meth c D cA 7 ad0 n0 sz cX9_fill RX9 (some .int) [] yX9_fill.name) : ∀ q ∈ tX9_fill d mc ms P, Snd (jM p l e s m args below meth c D cA 7 ad0 n0 sz (d + 1) mc ms P) q.1 q.2 := by
  have hF := hM.1
  have hts := hF.2.2.2.2.1
  unfold tX9_fill
  refine fmS (snd_iloadn hF (k := 1) rfl (by decide +kernel)) ?_
  refine fmS (snd_iconst hF (n := 0) rfl (by decide +kernel)) ?_
  refine fmS (snd_callS hM k_X9_checkElement qw744 qw745 (by decide +kernel)) ?_
  refine fmS (snd_iloadn hF (k := 2) rfl (by decide +kernel)) ?_
  refine fmS (snd_istoren hF (k := 3) rfl (by decide) (by decide +kernel)) ?_
  refine fmS (snd_iconst hF (n := 0) rfl (by decide +kernel)) ?_
  refine fmS (snd_istore hF (by decide) (by decide +kernel)) ?_
  refine fmS (snd_iconst hF (n := 0) rfl (by decide +kernel)) ?_
  refine fmS (snd_istore hF (by decide) (by decide +kernel)) ?_
  refine fmS (snd_iload hF (by decide +kernel)) ?_
  refine fmS (snd_bipush hF (n := 16) (by decide +kernel) (by decide +kernel)) ?_
  refine fmS (snd_icmp_ge hF (off := 51) (by decide) (by decide +kernel)) ?_
  refine fmS (snd_iloadn hF (k := 3) rfl (by decide +kernel)) ?_
  refine fmS (snd_ldc hF qw771 (by decide +kernel)) ?_
  refine fmS (snd_imul hF (by decide +kernel)) ?_
  refine fmS (snd_ldc hF qw772 (by decide +kernel)) ?_
  refine fmS (snd_iadd hF (by decide +kernel)) ?_
  refine fmS (snd_istoren hF (k := 3) rfl (by decide) (by decide +kernel)) ?_
  refine fmS (snd_iloadn hF (k := 3) rfl (by decide +kernel)) ?_
  refine fmS (snd_bipush hF (n := 8) (by decide +kernel) (by decide +kernel)) ?_
  refine fmS (snd_iushr hF (by decide +kernel)) ?_
  refine fmS (snd_sipush hF (n := 199) (by decide +kernel) (by decide +kernel)) ?_
  refine fmS (snd_irem hF (by decide +kernel)) ?_
  refine fmS (snd_bipush hF (n := 99) (by decide +kernel) (by decide +kernel)) ?_
  refine fmS (snd_isub hF (by decide +kernel)) ?_
  refine fmS (snd_istore hF (by decide) (by decide +kernel)) ?_
  refine fmS (snd_aloadn hF (k := 0) rfl (by decide +kernel)) ?_
  refine fmS (snd_getr hF okX9 (k := 4) (by decide) qw331 rfl rfl (by decide +kernel)) ?_
  refine fmS (snd_getrN hF okX1 (k := 2) (by decide) qw193 rfl rfl (by decide +kernel)) ?_
  refine fmS (snd_iloadn hF (k := 1) rfl (by decide +kernel)) ?_
  refine fmS (snd_aaload106 hF (by decide +kernel)) ?_
  refine fmS (snd_iload hF (by decide +kernel)) ?_
  refine fmS (snd_iload hF (by decide +kernel)) ?_
  refine fmS (snd_iastore hF (by decide +kernel)) ?_
  refine fmS (snd_iload hF (by decide +kernel)) ?_
  refine fmS (snd_iload hF (by decide +kernel)) ?_
  refine fmS (snd_iadd hF (by decide +kernel)) ?_
  refine fmS (snd_istore hF (by decide) (by decide +kernel)) ?_
  refine fmS (snd_iinc hF (n := 1) (by decide +kernel) (by decide) (by decide +kernel)) ?_
  refine fmS (snd_goto hF (off := (-52)) (by decide) (by decide +kernel)) ?_
  refine fmS (snd_iload hF (by decide +kernel)) ?_
  refine fmS (snd_retI hM (by decide +kernel)) ?_
  exact fmE
theorem iX9_fill {d mc ms n : Nat} {av : List Value} {M : PM} {P : PO} (hw : wid av ≤ 7) (hb : ∀ J : KT, (∀ (k : Nat) (stops : Nat → Bool) (pc : Nat) (lv : LV) (st : List Value) (nn : NN) (M : PM), lk (tX9_fill d mc ms P) pc (wpN (tX9_fill d mc ms P) stops k J) lv st nn M → J pc lv st nn M) → J 0 (entA 0 av) [] (n, 0, 0) M) : CallOK (d + 1) mc ms yX9_fill (Cond.code yX9_fill cX9_fill 7 (some .int)) av n M P := call_intro (own := RX9) (by decide) rfl hw (fun _ _ _ _ _ _ _ _ _ _ _ _ _ hM => sX9_fill hM) hb
def tX9_element (d mc ms : Nat) (P : PO) : List (Nat × OP) := [(0, oIld 1 1), (1, oIld 2 2), (2, oCallS d mc ms P 1 6 yX9_checkElement (Cond.code yX9_checkElement cX9_checkElement 2 none) 2 5), (5, oAld 0 6), (6, oGr 9 4 9), (9, oGr 1 2 12), (12, oIld 1 13), (13, oAr 106 14), (14, oIld 2 15), (15, oAi 100 16), (16, oRetI mc ms P)]
set_option maxRecDepth 20000 in
theorem sX9_element {p : Program} {l : Launch} {e : Env} {s : State} {m : MethodId} {args : Array Value} {below : List Frame} {meth : Method} {c : Code} {D : va_G} {cA : Nat → ClassId} {ad0 : Nat → Nat} {n0 sz d mc ms : Nat} {P : PO} (hM : FM p l s m args meth c D cA 3 ad0 n0 sz cX9_element RX9 (some .int) [] yX9_element.name) : ∀ q ∈ tX9_element d mc ms P, Snd (jM p l e s m args below meth c D cA 3 ad0 n0 sz (d + 1) mc ms P) q.1 q.2 := by
  have hF := hM.1
  have hts := hF.2.2.2.2.1
  unfold tX9_element
  refine fmS (snd_iloadn hF (k := 1) rfl (by decide +kernel)) ?_
  refine fmS (snd_iloadn hF (k := 2) rfl (by decide +kernel)) ?_
  refine fmS (snd_callS hM k_X9_checkElement qw744 qw745 (by decide +kernel)) ?_
  refine fmS (snd_aloadn hF (k := 0) rfl (by decide +kernel)) ?_
  refine fmS (snd_getr hF okX9 (k := 4) (by decide) qw331 rfl rfl (by decide +kernel)) ?_
  refine fmS (snd_getrN hF okX1 (k := 2) (by decide) qw193 rfl rfl (by decide +kernel)) ?_
  refine fmS (snd_iloadn hF (k := 1) rfl (by decide +kernel)) ?_
  refine fmS (snd_aaload106 hF (by decide +kernel)) ?_
  refine fmS (snd_iloadn hF (k := 2) rfl (by decide +kernel)) ?_
  refine fmS (snd_iaload hF (by decide +kernel)) ?_
  refine fmS (snd_retI hM (by decide +kernel)) ?_
  exact fmE
theorem iX9_element {d mc ms n : Nat} {av : List Value} {M : PM} {P : PO} (hw : wid av ≤ 3) (hb : ∀ J : KT, (∀ (k : Nat) (stops : Nat → Bool) (pc : Nat) (lv : LV) (st : List Value) (nn : NN) (M : PM), lk (tX9_element d mc ms P) pc (wpN (tX9_element d mc ms P) stops k J) lv st nn M → J pc lv st nn M) → J 0 (entA 0 av) [] (n, 0, 0) M) : CallOK (d + 1) mc ms yX9_element (Cond.code yX9_element cX9_element 3 (some .int)) av n M P := call_intro (own := RX9) (by decide) rfl hw (fun _ _ _ _ _ _ _ _ _ _ _ _ _ hM => sX9_element hM) hb
def tX9_setInitial (d mc ms : Nat) (P : PO) : List (Nat × OP) := [(0, oIld 1 1), (1, oCallS d mc ms P 1 6 yX9_checkVariable (Cond.code yX9_checkVariable cX9_checkVariable 1 none) 1 4), (4, oIld 2 5), (5, oPush (.int (-999)) 8), (8, oIc (fun x y => x < y) 18 11), (11, oIld 2 12), (12, oPush (.int 999) 15), (15, oIc (fun x y => x ≤ y) 28 18), (18, oThrow mc ms P 0), (28, oAld 0 29), (29, oGr 9 4 32), (32, oGr 1 3 35), (35, oIld 1 36), (36, oAi 100 37), (37, oIst 3 38), (38, oAld 0 39), (39, oGr 9 4 42), (42, oGr 1 3 45), (45, oIld 1 46), (46, oIld 2 47), (47, oSi 100 (fun x => x) 48), (48, oIld 3 49), (49, oRetI mc ms P)]
set_option maxRecDepth 20000 in
theorem sX9_setInitial {p : Program} {l : Launch} {e : Env} {s : State} {m : MethodId} {args : Array Value} {below : List Frame} {meth : Method} {c : Code} {D : va_G} {cA : Nat → ClassId} {ad0 : Nat → Nat} {n0 sz d mc ms : Nat} {P : PO} (hd : 5 ≤ d) (hM : FM p l s m args meth c D cA 4 ad0 n0 sz cX9_setInitial RX9 (some .int) [] yX9_setInitial.name) : ∀ q ∈ tX9_setInitial d mc ms P, Snd (jM p l e s m args below meth c D cA 4 ad0 n0 sz (d + 1) mc ms P) q.1 q.2 := by
  have hF := hM.1
  have hts := hF.2.2.2.2.1
  unfold tX9_setInitial
  refine fmS (snd_iloadn hF (k := 1) rfl (by decide +kernel)) ?_
  refine fmS (snd_callS hM k_X9_checkVariable qw787 qw788 (by decide +kernel)) ?_
  refine fmS (snd_iloadn hF (k := 2) rfl (by decide +kernel)) ?_
  refine fmS (snd_sipush hF (n := (-999)) (by decide +kernel) (by decide +kernel)) ?_
  refine fmS (snd_icmp_lt hF (off := 10) (by decide) (by decide +kernel)) ?_
  refine fmS (snd_iloadn hF (k := 2) rfl (by decide +kernel)) ?_
  refine fmS (snd_sipush hF (n := 999) (by decide +kernel) (by decide +kernel)) ?_
  refine fmS (snd_icmp_le hF (off := 13) (by decide) (by decide +kernel)) ?_
  refine fmS (snd_throw hM (is := 146) (text := "the value is out of range") (by omega) thr0 (by decide +kernel) (by decide +kernel) (by decide +kernel) (by decide +kernel) (by decide +kernel) (by decide +kernel)) ?_
  refine fmS (snd_aloadn hF (k := 0) rfl (by decide +kernel)) ?_
  refine fmS (snd_getr hF okX9 (k := 4) (by decide) qw331 rfl rfl (by decide +kernel)) ?_
  refine fmS (snd_getrN hF okX1 (k := 3) (by decide) qw197 rfl rfl (by decide +kernel)) ?_
  refine fmS (snd_iloadn hF (k := 1) rfl (by decide +kernel)) ?_
  refine fmS (snd_iaload hF (by decide +kernel)) ?_
  refine fmS (snd_istoren hF (k := 3) rfl (by decide) (by decide +kernel)) ?_
  refine fmS (snd_aloadn hF (k := 0) rfl (by decide +kernel)) ?_
  refine fmS (snd_getr hF okX9 (k := 4) (by decide) qw331 rfl rfl (by decide +kernel)) ?_
  refine fmS (snd_getrN hF okX1 (k := 3) (by decide) qw197 rfl rfl (by decide +kernel)) ?_
  refine fmS (snd_iloadn hF (k := 1) rfl (by decide +kernel)) ?_
  refine fmS (snd_iloadn hF (k := 2) rfl (by decide +kernel)) ?_
  refine fmS (snd_iastore hF (by decide +kernel)) ?_
  refine fmS (snd_iloadn hF (k := 3) rfl (by decide +kernel)) ?_
  refine fmS (snd_retI hM (by decide +kernel)) ?_
  exact fmE
theorem iX9_setInitial {d mc ms n : Nat} {av : List Value} {M : PM} {P : PO} (hd : 5 ≤ d) (hw : wid av ≤ 4) (hb : ∀ J : KT, (∀ (k : Nat) (stops : Nat → Bool) (pc : Nat) (lv : LV) (st : List Value) (nn : NN) (M : PM), lk (tX9_setInitial d mc ms P) pc (wpN (tX9_setInitial d mc ms P) stops k J) lv st nn M → J pc lv st nn M) → J 0 (entA 0 av) [] (n, 0, 0) M) : CallOK (d + 1) mc ms yX9_setInitial (Cond.code yX9_setInitial cX9_setInitial 4 (some .int)) av n M P := call_intro (own := RX9) (by decide) rfl hw (fun _ _ _ _ _ _ _ _ _ _ _ _ _ hM => sX9_setInitial hd hM) hb
def tX9_kind (d mc ms : Nat) (P : PO) : List (Nat × OP) := [(0, oIld 1 1), (1, oCallS d mc ms P 1 6 yX9_checkVariable (Cond.code yX9_checkVariable cX9_checkVariable 1 none) 1 4), (4, oAld 0 5), (5, oGr 9 8 8), (8, oGr 6 11 11), (11, oIld 1 12), (12, oAi 100 13), (13, oRetI mc ms P)]
set_option maxRecDepth 20000 in
theorem sX9_kind {p : Program} {l : Launch} {e : Env} {s : State} {m : MethodId} {args : Array Value} {below : List Frame} {meth : Method} {c : Code} {D : va_G} {cA : Nat → ClassId} {ad0 : Nat → Nat} {n0 sz d mc ms : Nat} {P : PO} (hM : FM p l s m args meth c D cA 2 ad0 n0 sz cX9_kind RX9 (some .int) [] yX9_kind.name) : ∀ q ∈ tX9_kind d mc ms P, Snd (jM p l e s m args below meth c D cA 2 ad0 n0 sz (d + 1) mc ms P) q.1 q.2 := by
  have hF := hM.1
  have hts := hF.2.2.2.2.1
  unfold tX9_kind
  refine fmS (snd_iloadn hF (k := 1) rfl (by decide +kernel)) ?_
  refine fmS (snd_callS hM k_X9_checkVariable qw787 qw788 (by decide +kernel)) ?_
  refine fmS (snd_aloadn hF (k := 0) rfl (by decide +kernel)) ?_
  refine fmS (snd_getr hF okX9 (k := 8) (by decide) qw335 rfl rfl (by decide +kernel)) ?_
  refine fmS (snd_getrN hF okX6 (k := 11) (by decide) qw282 rfl rfl (by decide +kernel)) ?_
  refine fmS (snd_iloadn hF (k := 1) rfl (by decide +kernel)) ?_
  refine fmS (snd_iaload hF (by decide +kernel)) ?_
  refine fmS (snd_retI hM (by decide +kernel)) ?_
  exact fmE
theorem iX9_kind {d mc ms n : Nat} {av : List Value} {M : PM} {P : PO} (hw : wid av ≤ 2) (hb : ∀ J : KT, (∀ (k : Nat) (stops : Nat → Bool) (pc : Nat) (lv : LV) (st : List Value) (nn : NN) (M : PM), lk (tX9_kind d mc ms P) pc (wpN (tX9_kind d mc ms P) stops k J) lv st nn M → J pc lv st nn M) → J 0 (entA 0 av) [] (n, 0, 0) M) : CallOK (d + 1) mc ms yX9_kind (Cond.code yX9_kind cX9_kind 2 (some .int)) av n M P := call_intro (own := RX9) (by decide) rfl hw (fun _ _ _ _ _ _ _ _ _ _ _ _ _ hM => sX9_kind hM) hb
def tX9_operator (d mc ms : Nat) (P : PO) : List (Nat × OP) := [(0, oIld 1 1), (1, oCallS d mc ms P 1 6 yX9_checkVariable (Cond.code yX9_checkVariable cX9_checkVariable 1 none) 1 4), (4, oAld 0 5), (5, oIld 1 6), (6, oCallV d mc ms P 1 6 yX9_checkChain (Cond.code yX9_checkChain cX9_checkChain 3 none) 1 9 9), (9, oAld 0 10), (10, oGr 9 8 13), (13, oGr 6 12 16), (16, oIld 1 17), (17, oAi 100 18), (18, oRetI mc ms P)]
set_option maxRecDepth 20000 in
theorem sX9_operator {p : Program} {l : Launch} {e : Env} {s : State} {m : MethodId} {args : Array Value} {below : List Frame} {meth : Method} {c : Code} {D : va_G} {cA : Nat → ClassId} {ad0 : Nat → Nat} {n0 sz d mc ms : Nat} {P : PO} (hM : FM p l s m args meth c D cA 2 ad0 n0 sz cX9_operator RX9 (some .int) [] yX9_operator.name) : ∀ q ∈ tX9_operator d mc ms P, Snd (jM p l e s m args below meth c D cA 2 ad0 n0 sz (d + 1) mc ms P) q.1 q.2 := by
  have hF := hM.1
  have hts := hF.2.2.2.2.1
  unfold tX9_operator
  refine fmS (snd_iloadn hF (k := 1) rfl (by decide +kernel)) ?_
  refine fmS (snd_callS hM k_X9_checkVariable qw787 qw788 (by decide +kernel)) ?_
  refine fmS (snd_aloadn hF (k := 0) rfl (by decide +kernel)) ?_
  refine fmS (snd_iloadn hF (k := 1) rfl (by decide +kernel)) ?_
  refine fmS (snd_callV hM k_X9_checkChain okX9 qw806 qw808 (hts _ qw28) (by decide +kernel)) ?_
  refine fmS (snd_aloadn hF (k := 0) rfl (by decide +kernel)) ?_
  refine fmS (snd_getr hF okX9 (k := 8) (by decide) qw335 rfl rfl (by decide +kernel)) ?_
  refine fmS (snd_getrN hF okX6 (k := 12) (by decide) qw285 rfl rfl (by decide +kernel)) ?_
  refine fmS (snd_iloadn hF (k := 1) rfl (by decide +kernel)) ?_
  refine fmS (snd_iaload hF (by decide +kernel)) ?_
  refine fmS (snd_retI hM (by decide +kernel)) ?_
  exact fmE
theorem iX9_operator {d mc ms n : Nat} {av : List Value} {M : PM} {P : PO} (hw : wid av ≤ 2) (hb : ∀ J : KT, (∀ (k : Nat) (stops : Nat → Bool) (pc : Nat) (lv : LV) (st : List Value) (nn : NN) (M : PM), lk (tX9_operator d mc ms P) pc (wpN (tX9_operator d mc ms P) stops k J) lv st nn M → J pc lv st nn M) → J 0 (entA 0 av) [] (n, 0, 0) M) : CallOK (d + 1) mc ms yX9_operator (Cond.code yX9_operator cX9_operator 2 (some .int)) av n M P := call_intro (own := RX9) (by decide) rfl hw (fun _ _ _ _ _ _ _ _ _ _ _ _ _ hM => sX9_operator hM) hb
def tX9_terms (d mc ms : Nat) (P : PO) : List (Nat × OP) := [(0, oIld 1 1), (1, oCallS d mc ms P 1 6 yX9_checkVariable (Cond.code yX9_checkVariable cX9_checkVariable 1 none) 1 4), (4, oAld 0 5), (5, oIld 1 6), (6, oCallV d mc ms P 1 6 yX9_checkChain (Cond.code yX9_checkChain cX9_checkChain 3 none) 1 9 9), (9, oAld 0 10), (10, oGr 9 8 13), (13, oGr 6 13 16), (16, oIld 1 17), (17, oAi 100 18), (18, oRetI mc ms P)]
set_option maxRecDepth 20000 in
theorem sX9_terms {p : Program} {l : Launch} {e : Env} {s : State} {m : MethodId} {args : Array Value} {below : List Frame} {meth : Method} {c : Code} {D : va_G} {cA : Nat → ClassId} {ad0 : Nat → Nat} {n0 sz d mc ms : Nat} {P : PO} (hM : FM p l s m args meth c D cA 2 ad0 n0 sz cX9_terms RX9 (some .int) [] yX9_terms.name) : ∀ q ∈ tX9_terms d mc ms P, Snd (jM p l e s m args below meth c D cA 2 ad0 n0 sz (d + 1) mc ms P) q.1 q.2 := by
  have hF := hM.1
  have hts := hF.2.2.2.2.1
  unfold tX9_terms
  refine fmS (snd_iloadn hF (k := 1) rfl (by decide +kernel)) ?_
  refine fmS (snd_callS hM k_X9_checkVariable qw787 qw788 (by decide +kernel)) ?_
  refine fmS (snd_aloadn hF (k := 0) rfl (by decide +kernel)) ?_
  refine fmS (snd_iloadn hF (k := 1) rfl (by decide +kernel)) ?_
  refine fmS (snd_callV hM k_X9_checkChain okX9 qw806 qw808 (hts _ qw28) (by decide +kernel)) ?_
  refine fmS (snd_aloadn hF (k := 0) rfl (by decide +kernel)) ?_
  refine fmS (snd_getr hF okX9 (k := 8) (by decide) qw335 rfl rfl (by decide +kernel)) ?_
  refine fmS (snd_getrN hF okX6 (k := 13) (by decide) qw288 rfl rfl (by decide +kernel)) ?_
  refine fmS (snd_iloadn hF (k := 1) rfl (by decide +kernel)) ?_
  refine fmS (snd_iaload hF (by decide +kernel)) ?_
  refine fmS (snd_retI hM (by decide +kernel)) ?_
  exact fmE
theorem iX9_terms {d mc ms n : Nat} {av : List Value} {M : PM} {P : PO} (hw : wid av ≤ 2) (hb : ∀ J : KT, (∀ (k : Nat) (stops : Nat → Bool) (pc : Nat) (lv : LV) (st : List Value) (nn : NN) (M : PM), lk (tX9_terms d mc ms P) pc (wpN (tX9_terms d mc ms P) stops k J) lv st nn M → J pc lv st nn M) → J 0 (entA 0 av) [] (n, 0, 0) M) : CallOK (d + 1) mc ms yX9_terms (Cond.code yX9_terms cX9_terms 2 (some .int)) av n M P := call_intro (own := RX9) (by decide) rfl hw (fun _ _ _ _ _ _ _ _ _ _ _ _ _ hM => sX9_terms hM) hb
def tX9_depends (d mc ms : Nat) (P : PO) : List (Nat × OP) := [(0, oIld 1 1), (1, oCallS d mc ms P 1 6 yX9_checkVariable (Cond.code yX9_checkVariable cX9_checkVariable 1 none) 1 4), (4, oAld 0 5), (5, oGr 9 8 8), (8, oGr 6 10 11), (11, oIld 1 12), (12, oAi 100 13), (13, oRetI mc ms P)]
set_option maxRecDepth 20000 in
theorem sX9_depends {p : Program} {l : Launch} {e : Env} {s : State} {m : MethodId} {args : Array Value} {below : List Frame} {meth : Method} {c : Code} {D : va_G} {cA : Nat → ClassId} {ad0 : Nat → Nat} {n0 sz d mc ms : Nat} {P : PO} (hM : FM p l s m args meth c D cA 2 ad0 n0 sz cX9_depends RX9 (some .int) [] yX9_depends.name) : ∀ q ∈ tX9_depends d mc ms P, Snd (jM p l e s m args below meth c D cA 2 ad0 n0 sz (d + 1) mc ms P) q.1 q.2 := by
  have hF := hM.1
  have hts := hF.2.2.2.2.1
  unfold tX9_depends
  refine fmS (snd_iloadn hF (k := 1) rfl (by decide +kernel)) ?_
  refine fmS (snd_callS hM k_X9_checkVariable qw787 qw788 (by decide +kernel)) ?_
  refine fmS (snd_aloadn hF (k := 0) rfl (by decide +kernel)) ?_
  refine fmS (snd_getr hF okX9 (k := 8) (by decide) qw335 rfl rfl (by decide +kernel)) ?_
  refine fmS (snd_getrN hF okX6 (k := 10) (by decide) qw280 rfl rfl (by decide +kernel)) ?_
  refine fmS (snd_iloadn hF (k := 1) rfl (by decide +kernel)) ?_
  refine fmS (snd_iaload hF (by decide +kernel)) ?_
  refine fmS (snd_retI hM (by decide +kernel)) ?_
  exact fmE
theorem iX9_depends {d mc ms n : Nat} {av : List Value} {M : PM} {P : PO} (hw : wid av ≤ 2) (hb : ∀ J : KT, (∀ (k : Nat) (stops : Nat → Bool) (pc : Nat) (lv : LV) (st : List Value) (nn : NN) (M : PM), lk (tX9_depends d mc ms P) pc (wpN (tX9_depends d mc ms P) stops k J) lv st nn M → J pc lv st nn M) → J 0 (entA 0 av) [] (n, 0, 0) M) : CallOK (d + 1) mc ms yX9_depends (Cond.code yX9_depends cX9_depends 2 (some .int)) av n M P := call_intro (own := RX9) (by decide) rfl hw (fun _ _ _ _ _ _ _ _ _ _ _ _ _ hM => sX9_depends hM) hb
def tX9_nodes (d mc ms : Nat) (P : PO) : List (Nat × OP) := [(0, oIld 1 1), (1, oCallS d mc ms P 1 6 yX9_checkVariable (Cond.code yX9_checkVariable cX9_checkVariable 1 none) 1 4), (4, oAld 0 5), (5, oGr 9 8 8), (8, oGr 6 7 11), (11, oIld 1 12), (12, oAi 100 13), (13, oRetI mc ms P)]
set_option maxRecDepth 20000 in
theorem sX9_nodes {p : Program} {l : Launch} {e : Env} {s : State} {m : MethodId} {args : Array Value} {below : List Frame} {meth : Method} {c : Code} {D : va_G} {cA : Nat → ClassId} {ad0 : Nat → Nat} {n0 sz d mc ms : Nat} {P : PO} (hM : FM p l s m args meth c D cA 2 ad0 n0 sz cX9_nodes RX9 (some .int) [] yX9_nodes.name) : ∀ q ∈ tX9_nodes d mc ms P, Snd (jM p l e s m args below meth c D cA 2 ad0 n0 sz (d + 1) mc ms P) q.1 q.2 := by
  have hF := hM.1
  have hts := hF.2.2.2.2.1
  unfold tX9_nodes
  refine fmS (snd_iloadn hF (k := 1) rfl (by decide +kernel)) ?_
  refine fmS (snd_callS hM k_X9_checkVariable qw787 qw788 (by decide +kernel)) ?_
  refine fmS (snd_aloadn hF (k := 0) rfl (by decide +kernel)) ?_
  refine fmS (snd_getr hF okX9 (k := 8) (by decide) qw335 rfl rfl (by decide +kernel)) ?_
  refine fmS (snd_getrN hF okX6 (k := 7) (by decide) qw276 rfl rfl (by decide +kernel)) ?_
  refine fmS (snd_iloadn hF (k := 1) rfl (by decide +kernel)) ?_
  refine fmS (snd_iaload hF (by decide +kernel)) ?_
  refine fmS (snd_retI hM (by decide +kernel)) ?_
  exact fmE
theorem iX9_nodes {d mc ms n : Nat} {av : List Value} {M : PM} {P : PO} (hw : wid av ≤ 2) (hb : ∀ J : KT, (∀ (k : Nat) (stops : Nat → Bool) (pc : Nat) (lv : LV) (st : List Value) (nn : NN) (M : PM), lk (tX9_nodes d mc ms P) pc (wpN (tX9_nodes d mc ms P) stops k J) lv st nn M → J pc lv st nn M) → J 0 (entA 0 av) [] (n, 0, 0) M) : CallOK (d + 1) mc ms yX9_nodes (Cond.code yX9_nodes cX9_nodes 2 (some .int)) av n M P := call_intro (own := RX9) (by decide) rfl hw (fun _ _ _ _ _ _ _ _ _ _ _ _ _ hM => sX9_nodes hM) hb
def tX9_height (d mc ms : Nat) (P : PO) : List (Nat × OP) := [(0, oIld 1 1), (1, oCallS d mc ms P 1 6 yX9_checkVariable (Cond.code yX9_checkVariable cX9_checkVariable 1 none) 1 4), (4, oAld 0 5), (5, oGr 9 1 8), (8, oAld 0 9), (9, oGr 9 8 12), (12, oGr 6 6 15), (15, oIld 1 16), (16, oAr 106 17), (17, oAld 0 18), (18, oGr 9 8 21), (21, oGr 6 7 24), (24, oIld 1 25), (25, oAi 100 26), (26, oCallV d mc ms P 0 0 yX3_heightOf (Cond.code yX3_heightOf cX3_heightOf 3 (some .int)) 2 3 29), (29, oRetI mc ms P)]
set_option maxRecDepth 20000 in
theorem sX9_height {p : Program} {l : Launch} {e : Env} {s : State} {m : MethodId} {args : Array Value} {below : List Frame} {meth : Method} {c : Code} {D : va_G} {cA : Nat → ClassId} {ad0 : Nat → Nat} {n0 sz d mc ms : Nat} {P : PO} (hM : FM p l s m args meth c D cA 2 ad0 n0 sz cX9_height RX9 (some .int) [] yX9_height.name) : ∀ q ∈ tX9_height d mc ms P, Snd (jM p l e s m args below meth c D cA 2 ad0 n0 sz (d + 1) mc ms P) q.1 q.2 := by
  have hF := hM.1
  have hts := hF.2.2.2.2.1
  unfold tX9_height
  refine fmS (snd_iloadn hF (k := 1) rfl (by decide +kernel)) ?_
  refine fmS (snd_callS hM k_X9_checkVariable qw787 qw788 (by decide +kernel)) ?_
  refine fmS (snd_aloadn hF (k := 0) rfl (by decide +kernel)) ?_
  refine fmS (snd_getr hF okX9 (k := 1) (by decide) qw328 rfl rfl (by decide +kernel)) ?_
  refine fmS (snd_aloadn hF (k := 0) rfl (by decide +kernel)) ?_
  refine fmS (snd_getr hF okX9 (k := 8) (by decide) qw335 rfl rfl (by decide +kernel)) ?_
  refine fmS (snd_getrN hF okX6 (k := 6) (by decide) qw274 rfl rfl (by decide +kernel)) ?_
  refine fmS (snd_iloadn hF (k := 1) rfl (by decide +kernel)) ?_
  refine fmS (snd_aaload106 hF (by decide +kernel)) ?_
  refine fmS (snd_aloadn hF (k := 0) rfl (by decide +kernel)) ?_
  refine fmS (snd_getr hF okX9 (k := 8) (by decide) qw335 rfl rfl (by decide +kernel)) ?_
  refine fmS (snd_getrN hF okX6 (k := 7) (by decide) qw276 rfl rfl (by decide +kernel)) ?_
  refine fmS (snd_iloadn hF (k := 1) rfl (by decide +kernel)) ?_
  refine fmS (snd_iaload hF (by decide +kernel)) ?_
  refine fmS (snd_callVN hM k_X3_heightOf okX3 qw854 qw856 (hts _ qw29) (by decide +kernel)) ?_
  refine fmS (snd_retI hM (by decide +kernel)) ?_
  exact fmE
theorem iX9_height {d mc ms n : Nat} {av : List Value} {M : PM} {P : PO} (hw : wid av ≤ 2) (hb : ∀ J : KT, (∀ (k : Nat) (stops : Nat → Bool) (pc : Nat) (lv : LV) (st : List Value) (nn : NN) (M : PM), lk (tX9_height d mc ms P) pc (wpN (tX9_height d mc ms P) stops k J) lv st nn M → J pc lv st nn M) → J 0 (entA 0 av) [] (n, 0, 0) M) : CallOK (d + 1) mc ms yX9_height (Cond.code yX9_height cX9_height 2 (some .int)) av n M P := call_intro (own := RX9) (by decide) rfl hw (fun _ _ _ _ _ _ _ _ _ _ _ _ _ hM => sX9_height hM) hb
def tX9_open (d mc ms : Nat) (P : PO) : List (Nat × OP) := [(0, oIld 1 1), (1, oCallS d mc ms P 1 6 yX9_checkVariable (Cond.code yX9_checkVariable cX9_checkVariable 1 none) 1 4), (4, oAld 0 5), (5, oIld 1 6), (6, oPi 9 11 9), (9, oAld 0 10), (10, oPush (.int 0) 11), (11, oPi 9 12 14), (14, oAld 0 15), (15, oGr 9 8 18), (18, oGr 6 7 21), (21, oIld 1 22), (22, oAi 100 23), (23, oRetI mc ms P)]
set_option maxRecDepth 20000 in
theorem sX9_open {p : Program} {l : Launch} {e : Env} {s : State} {m : MethodId} {args : Array Value} {below : List Frame} {meth : Method} {c : Code} {D : va_G} {cA : Nat → ClassId} {ad0 : Nat → Nat} {n0 sz d mc ms : Nat} {P : PO} (hM : FM p l s m args meth c D cA 2 ad0 n0 sz cX9_open RX9 (some .int) [] yX9_open.name) : ∀ q ∈ tX9_open d mc ms P, Snd (jM p l e s m args below meth c D cA 2 ad0 n0 sz (d + 1) mc ms P) q.1 q.2 := by
  have hF := hM.1
  have hts := hF.2.2.2.2.1
  unfold tX9_open
  refine fmS (snd_iloadn hF (k := 1) rfl (by decide +kernel)) ?_
  refine fmS (snd_callS hM k_X9_checkVariable qw787 qw788 (by decide +kernel)) ?_
  refine fmS (snd_aloadn hF (k := 0) rfl (by decide +kernel)) ?_
  refine fmS (snd_iloadn hF (k := 1) rfl (by decide +kernel)) ?_
  refine fmS (snd_puti hF okX9 (k := 11) (by decide) qw338 rfl rfl rfl rfl (by decide +kernel)) ?_
  refine fmS (snd_aloadn hF (k := 0) rfl (by decide +kernel)) ?_
  refine fmS (snd_iconst hF (n := 0) rfl (by decide +kernel)) ?_
  refine fmS (snd_puti hF okX9 (k := 12) (by decide) qw339 rfl rfl rfl rfl (by decide +kernel)) ?_
  refine fmS (snd_aloadn hF (k := 0) rfl (by decide +kernel)) ?_
  refine fmS (snd_getr hF okX9 (k := 8) (by decide) qw335 rfl rfl (by decide +kernel)) ?_
  refine fmS (snd_getrN hF okX6 (k := 7) (by decide) qw276 rfl rfl (by decide +kernel)) ?_
  refine fmS (snd_iloadn hF (k := 1) rfl (by decide +kernel)) ?_
  refine fmS (snd_iaload hF (by decide +kernel)) ?_
  refine fmS (snd_retI hM (by decide +kernel)) ?_
  exact fmE
theorem iX9_open {d mc ms n : Nat} {av : List Value} {M : PM} {P : PO} (hw : wid av ≤ 2) (hb : ∀ J : KT, (∀ (k : Nat) (stops : Nat → Bool) (pc : Nat) (lv : LV) (st : List Value) (nn : NN) (M : PM), lk (tX9_open d mc ms P) pc (wpN (tX9_open d mc ms P) stops k J) lv st nn M → J pc lv st nn M) → J 0 (entA 0 av) [] (n, 0, 0) M) : CallOK (d + 1) mc ms yX9_open (Cond.code yX9_open cX9_open 2 (some .int)) av n M P := call_intro (own := RX9) (by decide) rfl hw (fun _ _ _ _ _ _ _ _ _ _ _ _ _ hM => sX9_open hM) hb
def tX9_hasNext (d mc ms : Nat) (P : PO) : List (Nat × OP) := [(0, oAld 0 1), (1, oCallV d mc ms P 1 6 yX9_checkCursor (Cond.code yX9_checkCursor cX9_checkCursor 1 none) 0 9 4), (4, oAld 0 5), (5, oGi 9 12 8), (8, oAld 0 9), (9, oGr 9 8 12), (12, oGr 6 7 15), (15, oAld 0 16), (16, oGi 9 11 19), (19, oAi 100 20), (20, oIc (fun x y => y ≤ x) 27 23), (23, oPush (.int 1) 24), (24, oGoto 28), (27, oPush (.int 0) 28), (28, oRetZ mc ms P)]
set_option maxRecDepth 20000 in
theorem sX9_hasNext {p : Program} {l : Launch} {e : Env} {s : State} {m : MethodId} {args : Array Value} {below : List Frame} {meth : Method} {c : Code} {D : va_G} {cA : Nat → ClassId} {ad0 : Nat → Nat} {n0 sz d mc ms : Nat} {P : PO} (hM : FM p l s m args meth c D cA 1 ad0 n0 sz cX9_hasNext RX9 (some .boolean) [] yX9_hasNext.name) : ∀ q ∈ tX9_hasNext d mc ms P, Snd (jM p l e s m args below meth c D cA 1 ad0 n0 sz (d + 1) mc ms P) q.1 q.2 := by
  have hF := hM.1
  have hts := hF.2.2.2.2.1
  unfold tX9_hasNext
  refine fmS (snd_aloadn hF (k := 0) rfl (by decide +kernel)) ?_
  refine fmS (snd_callV hM k_X9_checkCursor okX9 qw875 qw877 (hts _ qw30) (by decide +kernel)) ?_
  refine fmS (snd_aloadn hF (k := 0) rfl (by decide +kernel)) ?_
  refine fmS (snd_geti hF okX9 (k := 12) (by decide) qw339 rfl rfl (by decide +kernel)) ?_
  refine fmS (snd_aloadn hF (k := 0) rfl (by decide +kernel)) ?_
  refine fmS (snd_getr hF okX9 (k := 8) (by decide) qw335 rfl rfl (by decide +kernel)) ?_
  refine fmS (snd_getrN hF okX6 (k := 7) (by decide) qw276 rfl rfl (by decide +kernel)) ?_
  refine fmS (snd_aloadn hF (k := 0) rfl (by decide +kernel)) ?_
  refine fmS (snd_geti hF okX9 (k := 11) (by decide) qw338 rfl rfl (by decide +kernel)) ?_
  refine fmS (snd_iaload hF (by decide +kernel)) ?_
  refine fmS (snd_icmp_ge hF (off := 7) (by decide) (by decide +kernel)) ?_
  refine fmS (snd_iconst hF (n := 1) rfl (by decide +kernel)) ?_
  refine fmS (snd_goto hF (off := 4) (by decide) (by decide +kernel)) ?_
  refine fmS (snd_iconst hF (n := 0) rfl (by decide +kernel)) ?_
  refine fmS (snd_retZ hM (by decide +kernel)) ?_
  exact fmE
theorem iX9_hasNext {d mc ms n : Nat} {av : List Value} {M : PM} {P : PO} (hw : wid av ≤ 1) (hb : ∀ J : KT, (∀ (k : Nat) (stops : Nat → Bool) (pc : Nat) (lv : LV) (st : List Value) (nn : NN) (M : PM), lk (tX9_hasNext d mc ms P) pc (wpN (tX9_hasNext d mc ms P) stops k J) lv st nn M → J pc lv st nn M) → J 0 (entA 0 av) [] (n, 0, 0) M) : CallOK (d + 1) mc ms yX9_hasNext (Cond.code yX9_hasNext cX9_hasNext 1 (some .boolean)) av n M P := call_intro (own := RX9) (by decide) rfl hw (fun _ _ _ _ _ _ _ _ _ _ _ _ _ hM => sX9_hasNext hM) hb
def tX9_isParallel (d mc ms : Nat) (P : PO) : List (Nat × OP) := [(0, oAld 0 1), (1, oGr 9 8 4), (4, oGi 6 15 7), (7, oRetZ mc ms P)]
set_option maxRecDepth 20000 in
theorem sX9_isParallel {p : Program} {l : Launch} {e : Env} {s : State} {m : MethodId} {args : Array Value} {below : List Frame} {meth : Method} {c : Code} {D : va_G} {cA : Nat → ClassId} {ad0 : Nat → Nat} {n0 sz d mc ms : Nat} {P : PO} (hM : FM p l s m args meth c D cA 1 ad0 n0 sz cX9_isParallel RX9 (some .boolean) [] yX9_isParallel.name) : ∀ q ∈ tX9_isParallel d mc ms P, Snd (jM p l e s m args below meth c D cA 1 ad0 n0 sz (d + 1) mc ms P) q.1 q.2 := by
  have hF := hM.1
  have hts := hF.2.2.2.2.1
  unfold tX9_isParallel
  refine fmS (snd_aloadn hF (k := 0) rfl (by decide +kernel)) ?_
  refine fmS (snd_getr hF okX9 (k := 8) (by decide) qw335 rfl rfl (by decide +kernel)) ?_
  refine fmS (snd_getiN hF okX6 (k := 15) (by decide) qw292 rfl rfl (by decide +kernel)) ?_
  refine fmS (snd_retZ hM (by decide +kernel)) ?_
  exact fmE
theorem iX9_isParallel {d mc ms n : Nat} {av : List Value} {M : PM} {P : PO} (hw : wid av ≤ 1) (hb : ∀ J : KT, (∀ (k : Nat) (stops : Nat → Bool) (pc : Nat) (lv : LV) (st : List Value) (nn : NN) (M : PM), lk (tX9_isParallel d mc ms P) pc (wpN (tX9_isParallel d mc ms P) stops k J) lv st nn M → J pc lv st nn M) → J 0 (entA 0 av) [] (n, 0, 0) M) : CallOK (d + 1) mc ms yX9_isParallel (Cond.code yX9_isParallel cX9_isParallel 1 (some .boolean)) av n M P := call_intro (own := RX9) (by decide) rfl hw (fun _ _ _ _ _ _ _ _ _ _ _ _ _ hM => sX9_isParallel hM) hb
def tX9_isExact (d mc ms : Nat) (P : PO) : List (Nat × OP) := [(0, oIld 1 1), (1, oCallS d mc ms P 1 6 yX9_checkVariable (Cond.code yX9_checkVariable cX9_checkVariable 1 none) 1 4), (4, oAld 0 5), (5, oGr 9 8 8), (8, oGr 6 11 11), (11, oIld 1 12), (12, oAi 100 13), (13, oIst 2 14), (14, oIld 2 15), (15, oPush (.int 2) 16), (16, oIc (fun x y => x = y) 19 63), (19, oPush (.int 300) 22), (22, oAld 0 23), (23, oGr 9 8 26), (26, oGr 6 12 29), (29, oIld 1 30), (30, oAi 100 31), (31, oI2 (fun x y => x + y) 32), (32, oIst 3 33), (33, oAld 0 34), (34, oGr 9 4 37), (37, oGi 1 0 40), (40, oIf (fun x => x = 0) 57 43), (43, oIld 3 44), (44, oPush (.int 305) 47), (47, oIc (fun x y => x = y) 57 50), (50, oIld 3 51), (51, oPush (.int 306) 54), (54, oIc (fun x y => x = y) 57 61), (57, oPush (.int 1) 58), (58, oGoto 62), (61, oPush (.int 0) 62), (62, oRetZ mc ms P), (63, oIld 2 64), (64, oIf (fun x => x = 0) 72 67), (67, oIld 2 68), (68, oPush (.int 1) 69), (69, oIc (fun x y => x = y) 72 76), (72, oPush (.int 1) 73), (73, oGoto 77), (76, oPush (.int 0) 77), (77, oRetZ mc ms P)]
set_option maxRecDepth 20000 in
theorem sX9_isExact {p : Program} {l : Launch} {e : Env} {s : State} {m : MethodId} {args : Array Value} {below : List Frame} {meth : Method} {c : Code} {D : va_G} {cA : Nat → ClassId} {ad0 : Nat → Nat} {n0 sz d mc ms : Nat} {P : PO} (hM : FM p l s m args meth c D cA 4 ad0 n0 sz cX9_isExact RX9 (some .boolean) [] yX9_isExact.name) : ∀ q ∈ tX9_isExact d mc ms P, Snd (jM p l e s m args below meth c D cA 4 ad0 n0 sz (d + 1) mc ms P) q.1 q.2 := by
  have hF := hM.1
  have hts := hF.2.2.2.2.1
  unfold tX9_isExact
  refine fmS (snd_iloadn hF (k := 1) rfl (by decide +kernel)) ?_
  refine fmS (snd_callS hM k_X9_checkVariable qw787 qw788 (by decide +kernel)) ?_
  refine fmS (snd_aloadn hF (k := 0) rfl (by decide +kernel)) ?_
  refine fmS (snd_getr hF okX9 (k := 8) (by decide) qw335 rfl rfl (by decide +kernel)) ?_
  refine fmS (snd_getrN hF okX6 (k := 11) (by decide) qw282 rfl rfl (by decide +kernel)) ?_
  refine fmS (snd_iloadn hF (k := 1) rfl (by decide +kernel)) ?_
  refine fmS (snd_iaload hF (by decide +kernel)) ?_
  refine fmS (snd_istoren hF (k := 2) rfl (by decide) (by decide +kernel)) ?_
  refine fmS (snd_iloadn hF (k := 2) rfl (by decide +kernel)) ?_
  refine fmS (snd_iconst hF (n := 2) rfl (by decide +kernel)) ?_
  refine fmS (snd_icmp_ne hF (off := 47) (by decide) (by decide +kernel)) ?_
  refine fmS (snd_sipush hF (n := 300) (by decide +kernel) (by decide +kernel)) ?_
  refine fmS (snd_aloadn hF (k := 0) rfl (by decide +kernel)) ?_
  refine fmS (snd_getr hF okX9 (k := 8) (by decide) qw335 rfl rfl (by decide +kernel)) ?_
  refine fmS (snd_getrN hF okX6 (k := 12) (by decide) qw285 rfl rfl (by decide +kernel)) ?_
  refine fmS (snd_iloadn hF (k := 1) rfl (by decide +kernel)) ?_
  refine fmS (snd_iaload hF (by decide +kernel)) ?_
  refine fmS (snd_iadd hF (by decide +kernel)) ?_
  refine fmS (snd_istoren hF (k := 3) rfl (by decide) (by decide +kernel)) ?_
  refine fmS (snd_aloadn hF (k := 0) rfl (by decide +kernel)) ?_
  refine fmS (snd_getr hF okX9 (k := 4) (by decide) qw331 rfl rfl (by decide +kernel)) ?_
  refine fmS (snd_getiN hF okX1 (k := 0) (by decide) qw188 rfl rfl (by decide +kernel)) ?_
  refine fmS (snd_if_eq hF (off := 17) (by decide) (by decide +kernel)) ?_
  refine fmS (snd_iloadn hF (k := 3) rfl (by decide +kernel)) ?_
  refine fmS (snd_sipush hF (n := 305) (by decide +kernel) (by decide +kernel)) ?_
  refine fmS (snd_icmp_eq hF (off := 10) (by decide) (by decide +kernel)) ?_
  refine fmS (snd_iloadn hF (k := 3) rfl (by decide +kernel)) ?_
  refine fmS (snd_sipush hF (n := 306) (by decide +kernel) (by decide +kernel)) ?_
  refine fmS (snd_icmp_ne hF (off := 7) (by decide) (by decide +kernel)) ?_
  refine fmS (snd_iconst hF (n := 1) rfl (by decide +kernel)) ?_
  refine fmS (snd_goto hF (off := 4) (by decide) (by decide +kernel)) ?_
  refine fmS (snd_iconst hF (n := 0) rfl (by decide +kernel)) ?_
  refine fmS (snd_retZ hM (by decide +kernel)) ?_
  refine fmS (snd_iloadn hF (k := 2) rfl (by decide +kernel)) ?_
  refine fmS (snd_if_eq hF (off := 8) (by decide) (by decide +kernel)) ?_
  refine fmS (snd_iloadn hF (k := 2) rfl (by decide +kernel)) ?_
  refine fmS (snd_iconst hF (n := 1) rfl (by decide +kernel)) ?_
  refine fmS (snd_icmp_ne hF (off := 7) (by decide) (by decide +kernel)) ?_
  refine fmS (snd_iconst hF (n := 1) rfl (by decide +kernel)) ?_
  refine fmS (snd_goto hF (off := 4) (by decide) (by decide +kernel)) ?_
  refine fmS (snd_iconst hF (n := 0) rfl (by decide +kernel)) ?_
  refine fmS (snd_retZ hM (by decide +kernel)) ?_
  exact fmE
theorem iX9_isExact {d mc ms n : Nat} {av : List Value} {M : PM} {P : PO} (hw : wid av ≤ 4) (hb : ∀ J : KT, (∀ (k : Nat) (stops : Nat → Bool) (pc : Nat) (lv : LV) (st : List Value) (nn : NN) (M : PM), lk (tX9_isExact d mc ms P) pc (wpN (tX9_isExact d mc ms P) stops k J) lv st nn M → J pc lv st nn M) → J 0 (entA 0 av) [] (n, 0, 0) M) : CallOK (d + 1) mc ms yX9_isExact (Cond.code yX9_isExact cX9_isExact 4 (some .boolean)) av n M P := call_intro (own := RX9) (by decide) rfl hw (fun _ _ _ _ _ _ _ _ _ _ _ _ _ hM => sX9_isExact hM) hb
def tX9_execute (d mc ms : Nat) (P : PO) : List (Nat × OP) := [(0, oIld 1 1), (1, oIld 2 2), (2, oCallS d mc ms P 1 6 yX9_checkOrder (Cond.code yX9_checkOrder cX9_checkOrder 2 none) 2 5), (5, oAld 0 6), (6, oCallV d mc ms P 1 6 yX9_checkOperators (Cond.code yX9_checkOperators cX9_checkOperators 1 none) 0 9 9), (9, oAld 0 10), (10, oIld 1 11), (11, oCallV d mc ms P 1 6 yX9_checkParallel (Cond.code yX9_checkParallel cX9_checkParallel 2 none) 1 9 14), (14, oAld 0 15), (15, oCallV d mc ms P 0 0 yX9_machineOfMode (Cond.code yX9_machineOfMode cX9_machineOfMode 1 (some (.object "ReductionFinder$Machine"))) 0 9 18), (18, oAst 3 19), (19, oAld 3 20), (20, oAld 0 21), (21, oGr 9 8 24), (24, oIld 1 25), (25, oIld 2 26), (26, oDisp 3 [(2, oCallV d mc ms P 0 0 yX5_runOrder (Cond.code yX5_runOrder cX5_runOrder 6 none) 3 2 29), (4, oCallV d mc ms P 0 0 yX5_runOrder (Cond.code yX5_runOrder cX5_runOrder 6 none) 3 4 29)]), (29, oAld 0 30), (30, oAld 0 31), (31, oGr 9 4 34), (34, oGi 1 0 37), (37, oPi 9 13 40), (40, oAld 3 41), (41, oDisp 0 [(2, oCallV d mc ms P 0 0 yX5_countChanged (Cond.code yX5_countChanged cX5_countChanged 3 (some .int)) 0 2 44), (4, oCallV d mc ms P 0 0 yX5_countChanged (Cond.code yX5_countChanged cX5_countChanged 3 (some .int)) 0 4 44)]), (44, oRetI mc ms P)]
set_option maxRecDepth 20000 in
theorem sX9_execute {p : Program} {l : Launch} {e : Env} {s : State} {m : MethodId} {args : Array Value} {below : List Frame} {meth : Method} {c : Code} {D : va_G} {cA : Nat → ClassId} {ad0 : Nat → Nat} {n0 sz d mc ms : Nat} {P : PO} (hM : FM p l s m args meth c D cA 4 ad0 n0 sz cX9_execute RX9 (some .int) [] yX9_execute.name) : ∀ q ∈ tX9_execute d mc ms P, Snd (jM p l e s m args below meth c D cA 4 ad0 n0 sz (d + 1) mc ms P) q.1 q.2 := by
  have hF := hM.1
  have hts := hF.2.2.2.2.1
  unfold tX9_execute
  refine fmS (snd_iloadn hF (k := 1) rfl (by decide +kernel)) ?_
  refine fmS (snd_iloadn hF (k := 2) rfl (by decide +kernel)) ?_
  refine fmS (snd_callS hM k_X9_checkOrder qw918 qw919 (by decide +kernel)) ?_
  refine fmS (snd_aloadn hF (k := 0) rfl (by decide +kernel)) ?_
  refine fmS (snd_callV hM k_X9_checkOperators okX9 qw923 qw925 (hts _ qw31) (by decide +kernel)) ?_
  refine fmS (snd_aloadn hF (k := 0) rfl (by decide +kernel)) ?_
  refine fmS (snd_iloadn hF (k := 1) rfl (by decide +kernel)) ?_
  refine fmS (snd_callV hM k_X9_checkParallel okX9 qw928 qw930 (hts _ qw32) (by decide +kernel)) ?_
  refine fmS (snd_aloadn hF (k := 0) rfl (by decide +kernel)) ?_
  refine fmS (snd_callV hM k_X9_machineOfMode okX9 qw933 qw935 (hts _ qw33) (by decide +kernel)) ?_
  refine fmS (snd_astoren hF (k := 3) rfl (by decide) (by decide +kernel)) ?_
  refine fmS (snd_aloadn hF (k := 3) rfl (by decide +kernel)) ?_
  refine fmS (snd_aloadn hF (k := 0) rfl (by decide +kernel)) ?_
  refine fmS (snd_getr hF okX9 (k := 8) (by decide) qw335 rfl rfl (by decide +kernel)) ?_
  refine fmS (snd_iloadn hF (k := 1) rfl (by decide +kernel)) ?_
  refine fmS (snd_iloadn hF (k := 2) rfl (by decide +kernel)) ?_
  refine fmS (snd_disp ((fmD (snd_callVN hM k_X5_runOrder okX2 qw937 qw939 (selP (C := RX2) (y0 := yX5_rowNow) (y := yX5_runOrder) (n := 5) rfl (by decide) (hts _ qw651) (hts _ qw235) (hts _ qw938) (hts _ qw939)) (by decide +kernel)) (fmD (snd_callVN hM k_X5_runOrder okX4 qw937 qw939 (selP (C := RX4) (y0 := yX5_rowNow) (y := yX5_runOrder) (n := 5) rfl (by decide) (hts _ qw651) (hts _ qw208) (hts _ qw938) (hts _ qw939)) (by decide +kernel)) fmN)))) ?_
  refine fmS (snd_aloadn hF (k := 0) rfl (by decide +kernel)) ?_
  refine fmS (snd_aloadn hF (k := 0) rfl (by decide +kernel)) ?_
  refine fmS (snd_getr hF okX9 (k := 4) (by decide) qw331 rfl rfl (by decide +kernel)) ?_
  refine fmS (snd_getiN hF okX1 (k := 0) (by decide) qw188 rfl rfl (by decide +kernel)) ?_
  refine fmS (snd_puti hF okX9 (k := 13) (by decide) qw340 rfl rfl rfl rfl (by decide +kernel)) ?_
  refine fmS (snd_aloadn hF (k := 3) rfl (by decide +kernel)) ?_
  refine fmS (snd_disp ((fmD (snd_callVN hM k_X5_countChanged okX2 qw1034 qw1036 (selP (C := RX2) (y0 := yX5_rowNow) (y := yX5_countChanged) (n := 5) rfl (by decide) (hts _ qw651) (hts _ qw235) (hts _ qw1035) (hts _ qw1036)) (by decide +kernel)) (fmD (snd_callVN hM k_X5_countChanged okX4 qw1034 qw1036 (selP (C := RX4) (y0 := yX5_rowNow) (y := yX5_countChanged) (n := 5) rfl (by decide) (hts _ qw651) (hts _ qw208) (hts _ qw1035) (hts _ qw1036)) (by decide +kernel)) fmN)))) ?_
  refine fmS (snd_retI hM (by decide +kernel)) ?_
  exact fmE
theorem iX9_execute {d mc ms n : Nat} {av : List Value} {M : PM} {P : PO} (hw : wid av ≤ 4) (hb : ∀ J : KT, (∀ (k : Nat) (stops : Nat → Bool) (pc : Nat) (lv : LV) (st : List Value) (nn : NN) (M : PM), lk (tX9_execute d mc ms P) pc (wpN (tX9_execute d mc ms P) stops k J) lv st nn M → J pc lv st nn M) → J 0 (entA 0 av) [] (n, 0, 0) M) : CallOK (d + 1) mc ms yX9_execute (Cond.code yX9_execute cX9_execute 4 (some .int)) av n M P := call_intro (own := RX9) (by decide) rfl hw (fun _ _ _ _ _ _ _ _ _ _ _ _ _ hM => sX9_execute hM) hb
def tX9_result (d mc ms : Nat) (P : PO) : List (Nat × OP) := [(0, oIld 1 1), (1, oCallS d mc ms P 1 6 yX9_checkVariable (Cond.code yX9_checkVariable cX9_checkVariable 1 none) 1 4), (4, oAld 0 5), (5, oGi 9 13 8), (8, oIf (fun x => x = 0) 21 11), (11, oThrow mc ms P 1), (21, oAld 0 22), (22, oGr 9 6 25), (25, oGr 4 3 28), (28, oPush (.int 16) 30), (30, oAr 106 31), (31, oIld 1 32), (32, oAi 100 33), (33, oRetI mc ms P)]
set_option maxRecDepth 20000 in
theorem sX9_result {p : Program} {l : Launch} {e : Env} {s : State} {m : MethodId} {args : Array Value} {below : List Frame} {meth : Method} {c : Code} {D : va_G} {cA : Nat → ClassId} {ad0 : Nat → Nat} {n0 sz d mc ms : Nat} {P : PO} (hd : 5 ≤ d) (hM : FM p l s m args meth c D cA 2 ad0 n0 sz cX9_result RX9 (some .int) [] yX9_result.name) : ∀ q ∈ tX9_result d mc ms P, Snd (jM p l e s m args below meth c D cA 2 ad0 n0 sz (d + 1) mc ms P) q.1 q.2 := by
  have hF := hM.1
  have hts := hF.2.2.2.2.1
  unfold tX9_result
  refine fmS (snd_iloadn hF (k := 1) rfl (by decide +kernel)) ?_
  refine fmS (snd_callS hM k_X9_checkVariable qw787 qw788 (by decide +kernel)) ?_
  refine fmS (snd_aloadn hF (k := 0) rfl (by decide +kernel)) ?_
  refine fmS (snd_geti hF okX9 (k := 13) (by decide) qw340 rfl rfl (by decide +kernel)) ?_
  refine fmS (snd_if_eq hF (off := 13) (by decide) (by decide +kernel)) ?_
  refine fmS (snd_throw hM (is := 222) (text := "no ints are kept as results") (by omega) thr1 (by decide +kernel) (by decide +kernel) (by decide +kernel) (by decide +kernel) (by decide +kernel) (by decide +kernel)) ?_
  refine fmS (snd_aloadn hF (k := 0) rfl (by decide +kernel)) ?_
  refine fmS (snd_getr hF okX9 (k := 6) (by decide) qw333 rfl rfl (by decide +kernel)) ?_
  refine fmS (snd_getrN hF okX4 (k := 3) (by decide) qw218 rfl rfl (by decide +kernel)) ?_
  refine fmS (snd_bipush hF (n := 16) (by decide +kernel) (by decide +kernel)) ?_
  refine fmS (snd_aaload106 hF (by decide +kernel)) ?_
  refine fmS (snd_iloadn hF (k := 1) rfl (by decide +kernel)) ?_
  refine fmS (snd_iaload hF (by decide +kernel)) ?_
  refine fmS (snd_retI hM (by decide +kernel)) ?_
  exact fmE
theorem iX9_result {d mc ms n : Nat} {av : List Value} {M : PM} {P : PO} (hd : 5 ≤ d) (hw : wid av ≤ 2) (hb : ∀ J : KT, (∀ (k : Nat) (stops : Nat → Bool) (pc : Nat) (lv : LV) (st : List Value) (nn : NN) (M : PM), lk (tX9_result d mc ms P) pc (wpN (tX9_result d mc ms P) stops k J) lv st nn M → J pc lv st nn M) → J 0 (entA 0 av) [] (n, 0, 0) M) : CallOK (d + 1) mc ms yX9_result (Cond.code yX9_result cX9_result 2 (some .int)) av n M P := call_intro (own := RX9) (by decide) rfl hw (fun _ _ _ _ _ _ _ _ _ _ _ _ _ hM => sX9_result hd hM) hb
def tX9_resultFloat (d mc ms : Nat) (P : PO) : List (Nat × OP) := [(0, oIld 1 1), (1, oCallS d mc ms P 1 6 yX9_checkVariable (Cond.code yX9_checkVariable cX9_checkVariable 1 none) 1 4), (4, oAld 0 5), (5, oGi 9 13 8), (8, oPush (.int 1) 9), (9, oIc (fun x y => x = y) 22 12), (12, oThrow mc ms P 1), (22, oAld 0 23), (23, oGr 9 7 26), (26, oGr 2 3 29), (29, oPush (.int 16) 31), (31, oAr 107 32), (32, oIld 1 33), (33, oAf 34), (34, oRetF mc ms P)]
set_option maxRecDepth 20000 in
theorem sX9_resultFloat {p : Program} {l : Launch} {e : Env} {s : State} {m : MethodId} {args : Array Value} {below : List Frame} {meth : Method} {c : Code} {D : va_G} {cA : Nat → ClassId} {ad0 : Nat → Nat} {n0 sz d mc ms : Nat} {P : PO} (hd : 5 ≤ d) (hM : FM p l s m args meth c D cA 2 ad0 n0 sz cX9_resultFloat RX9 (some .float) [] yX9_resultFloat.name) : ∀ q ∈ tX9_resultFloat d mc ms P, Snd (jM p l e s m args below meth c D cA 2 ad0 n0 sz (d + 1) mc ms P) q.1 q.2 := by
  have hF := hM.1
  have hts := hF.2.2.2.2.1
  unfold tX9_resultFloat
  refine fmS (snd_iloadn hF (k := 1) rfl (by decide +kernel)) ?_
  refine fmS (snd_callS hM k_X9_checkVariable qw787 qw788 (by decide +kernel)) ?_
  refine fmS (snd_aloadn hF (k := 0) rfl (by decide +kernel)) ?_
  refine fmS (snd_geti hF okX9 (k := 13) (by decide) qw340 rfl rfl (by decide +kernel)) ?_
  refine fmS (snd_iconst hF (n := 1) rfl (by decide +kernel)) ?_
  refine fmS (snd_icmp_eq hF (off := 13) (by decide) (by decide +kernel)) ?_
  refine fmS (snd_throw hM (is := 227) (text := "no floats are kept as results") (by omega) thr1 (by decide +kernel) (by decide +kernel) (by decide +kernel) (by decide +kernel) (by decide +kernel) (by decide +kernel)) ?_
  refine fmS (snd_aloadn hF (k := 0) rfl (by decide +kernel)) ?_
  refine fmS (snd_getr hF okX9 (k := 7) (by decide) qw334 rfl rfl (by decide +kernel)) ?_
  refine fmS (snd_getrN hF okX2 (k := 3) (by decide) qw243 rfl rfl (by decide +kernel)) ?_
  refine fmS (snd_bipush hF (n := 16) (by decide +kernel) (by decide +kernel)) ?_
  refine fmS (snd_aaload107 hF (by decide +kernel)) ?_
  refine fmS (snd_iloadn hF (k := 1) rfl (by decide +kernel)) ?_
  refine fmS (snd_faload hF (by decide +kernel)) ?_
  refine fmS (snd_retF hM (by decide +kernel)) ?_
  exact fmE
theorem iX9_resultFloat {d mc ms n : Nat} {av : List Value} {M : PM} {P : PO} (hd : 5 ≤ d) (hw : wid av ≤ 2) (hb : ∀ J : KT, (∀ (k : Nat) (stops : Nat → Bool) (pc : Nat) (lv : LV) (st : List Value) (nn : NN) (M : PM), lk (tX9_resultFloat d mc ms P) pc (wpN (tX9_resultFloat d mc ms P) stops k J) lv st nn M → J pc lv st nn M) → J 0 (entA 0 av) [] (n, 0, 0) M) : CallOK (d + 1) mc ms yX9_resultFloat (Cond.code yX9_resultFloat cX9_resultFloat 2 (some .float)) av n M P := call_intro (own := RX9) (by decide) rfl hw (fun _ _ _ _ _ _ _ _ _ _ _ _ _ hM => sX9_resultFloat hd hM) hb
def tX9_difference (d mc ms : Nat) (P : PO) : List (Nat × OP) := [(0, oIld 1 1), (1, oCallS d mc ms P 1 6 yX9_checkVariable (Cond.code yX9_checkVariable cX9_checkVariable 1 none) 1 4), (4, oAld 0 5), (5, oGi 9 13 8), (8, oPush (.int (-1)) 9), (9, oIc (fun x y => x = y) 26 12), (12, oAld 0 13), (13, oGi 9 13 16), (16, oAld 0 17), (17, oGr 9 4 20), (20, oGi 1 0 23), (23, oIc (fun x y => x = y) 36 26), (26, oThrow mc ms P 1), (36, oAld 0 37), (37, oCallV d mc ms P 1 6 yX9_checkOperators (Cond.code yX9_checkOperators cX9_checkOperators 1 none) 0 9 40), (40, oAld 0 41), (41, oCallV d mc ms P 0 0 yX9_machineOfMode (Cond.code yX9_machineOfMode cX9_machineOfMode 1 (some (.object "ReductionFinder$Machine"))) 0 9 44), (44, oAst 2 45), (45, oAld 2 46), (46, oAld 0 47), (47, oGr 9 8 50), (50, oPush (.int 17) 52), (52, oDisp 2 [(2, oCallV d mc ms P 0 0 yX5_runSequence (Cond.code yX5_runSequence cX5_runSequence 4 none) 2 2 55), (4, oCallV d mc ms P 0 0 yX5_runSequence (Cond.code yX5_runSequence cX5_runSequence 4 none) 2 4 55)]), (55, oAld 2 56), (56, oPush (.int 16) 58), (58, oIld 1 59), (59, oDisp 2 [(2, oCallV d mc ms P 0 0 yX2_valueOf (Cond.code yX2_valueOf cX2_valueOf 3 (some .double)) 2 2 62), (4, oCallV d mc ms P 0 0 yX4_valueOf (Cond.code yX4_valueOf cX4_valueOf 3 (some .double)) 2 4 62)]), (62, oAld 2 63), (63, oPush (.int 17) 65), (65, oIld 1 66), (66, oDisp 2 [(2, oCallV d mc ms P 0 0 yX2_valueOf (Cond.code yX2_valueOf cX2_valueOf 3 (some .double)) 2 2 69), (4, oCallV d mc ms P 0 0 yX4_valueOf (Cond.code yX4_valueOf cX4_valueOf 3 (some .double)) 2 4 69)]), (69, oD2 FP.dsub 70), (70, oDst 3 71), (71, oDld 3 72), (72, oPush (.double FP.dconst0) 73), (73, oDcmp .l 74), (74, oIf (fun x => x ≤ 0) 81 77), (77, oDld 3 78), (78, oGoto 84), (81, oPush (.double FP.dconst0) 82), (82, oDld 3 83), (83, oD2 FP.dsub 84), (84, oRetD mc ms P)]
set_option maxRecDepth 20000 in
theorem sX9_difference {p : Program} {l : Launch} {e : Env} {s : State} {m : MethodId} {args : Array Value} {below : List Frame} {meth : Method} {c : Code} {D : va_G} {cA : Nat → ClassId} {ad0 : Nat → Nat} {n0 sz d mc ms : Nat} {P : PO} (hd : 5 ≤ d) (hM : FM p l s m args meth c D cA 5 ad0 n0 sz cX9_difference RX9 (some .double) [] yX9_difference.name) : ∀ q ∈ tX9_difference d mc ms P, Snd (jM p l e s m args below meth c D cA 5 ad0 n0 sz (d + 1) mc ms P) q.1 q.2 := by
  have hF := hM.1
  have hts := hF.2.2.2.2.1
  unfold tX9_difference
  refine fmS (snd_iloadn hF (k := 1) rfl (by decide +kernel)) ?_
  refine fmS (snd_callS hM k_X9_checkVariable qw787 qw788 (by decide +kernel)) ?_
  refine fmS (snd_aloadn hF (k := 0) rfl (by decide +kernel)) ?_
  refine fmS (snd_geti hF okX9 (k := 13) (by decide) qw340 rfl rfl (by decide +kernel)) ?_
  refine fmS (snd_iconst hF (n := (-1)) rfl (by decide +kernel)) ?_
  refine fmS (snd_icmp_eq hF (off := 17) (by decide) (by decide +kernel)) ?_
  refine fmS (snd_aloadn hF (k := 0) rfl (by decide +kernel)) ?_
  refine fmS (snd_geti hF okX9 (k := 13) (by decide) qw340 rfl rfl (by decide +kernel)) ?_
  refine fmS (snd_aloadn hF (k := 0) rfl (by decide +kernel)) ?_
  refine fmS (snd_getr hF okX9 (k := 4) (by decide) qw331 rfl rfl (by decide +kernel)) ?_
  refine fmS (snd_getiN hF okX1 (k := 0) (by decide) qw188 rfl rfl (by decide +kernel)) ?_
  refine fmS (snd_icmp_eq hF (off := 13) (by decide) (by decide +kernel)) ?_
  refine fmS (snd_throw hM (is := 232) (text := "no results of this mode are kept") (by omega) thr1 (by decide +kernel) (by decide +kernel) (by decide +kernel) (by decide +kernel) (by decide +kernel) (by decide +kernel)) ?_
  refine fmS (snd_aloadn hF (k := 0) rfl (by decide +kernel)) ?_
  refine fmS (snd_callV hM k_X9_checkOperators okX9 qw923 qw925 (hts _ qw31) (by decide +kernel)) ?_
  refine fmS (snd_aloadn hF (k := 0) rfl (by decide +kernel)) ?_
  refine fmS (snd_callV hM k_X9_machineOfMode okX9 qw933 qw935 (hts _ qw33) (by decide +kernel)) ?_
  refine fmS (snd_astoren hF (k := 2) rfl (by decide) (by decide +kernel)) ?_
  refine fmS (snd_aloadn hF (k := 2) rfl (by decide +kernel)) ?_
  refine fmS (snd_aloadn hF (k := 0) rfl (by decide +kernel)) ?_
  refine fmS (snd_getr hF okX9 (k := 8) (by decide) qw335 rfl rfl (by decide +kernel)) ?_
  refine fmS (snd_bipush hF (n := 17) (by decide +kernel) (by decide +kernel)) ?_
  refine fmS (snd_disp ((fmD (snd_callVN hM k_X5_runSequence okX2 qw1071 qw943 (selP (C := RX2) (y0 := yX5_rowNow) (y := yX5_runSequence) (n := 5) rfl (by decide) (hts _ qw651) (hts _ qw235) (hts _ qw942) (hts _ qw943)) (by decide +kernel)) (fmD (snd_callVN hM k_X5_runSequence okX4 qw1071 qw943 (selP (C := RX4) (y0 := yX5_rowNow) (y := yX5_runSequence) (n := 5) rfl (by decide) (hts _ qw651) (hts _ qw208) (hts _ qw942) (hts _ qw943)) (by decide +kernel)) fmN)))) ?_
  refine fmS (snd_aloadn hF (k := 2) rfl (by decide +kernel)) ?_
  refine fmS (snd_bipush hF (n := 16) (by decide +kernel) (by decide +kernel)) ?_
  refine fmS (snd_iloadn hF (k := 1) rfl (by decide +kernel)) ?_
  refine fmS (snd_disp ((fmD (snd_callU hM k_X2_valueOf okX2 (x := ⟨"ReductionFinder$Machine", "valueOf", "(II)D"⟩) (owner := "ReductionFinder$Machine") qw1072 qw1040 qw1039 qw1041 qw1042 (by decide) rfl (by decide +kernel)) (fmD (snd_callU hM k_X4_valueOf okX4 (x := ⟨"ReductionFinder$Machine", "valueOf", "(II)D"⟩) (owner := "ReductionFinder$Machine") qw1072 qw1040 qw1039 qw1044 qw1045 (by decide) rfl (by decide +kernel)) fmN)))) ?_
  refine fmS (snd_aloadn hF (k := 2) rfl (by decide +kernel)) ?_
  refine fmS (snd_bipush hF (n := 17) (by decide +kernel) (by decide +kernel)) ?_
  refine fmS (snd_iloadn hF (k := 1) rfl (by decide +kernel)) ?_
  refine fmS (snd_disp ((fmD (snd_callU hM k_X2_valueOf okX2 (x := ⟨"ReductionFinder$Machine", "valueOf", "(II)D"⟩) (owner := "ReductionFinder$Machine") qw1072 qw1040 qw1039 qw1041 qw1042 (by decide) rfl (by decide +kernel)) (fmD (snd_callU hM k_X4_valueOf okX4 (x := ⟨"ReductionFinder$Machine", "valueOf", "(II)D"⟩) (owner := "ReductionFinder$Machine") qw1072 qw1040 qw1039 qw1044 qw1045 (by decide) rfl (by decide +kernel)) fmN)))) ?_
  refine fmS (snd_dsub hF (by decide +kernel)) ?_
  refine fmS (snd_dstoren hF (k := 3) rfl (by decide) (by decide +kernel)) ?_
  refine fmS (snd_dloadn hF (k := 3) rfl (by decide +kernel)) ?_
  refine fmS (snd_dconst0 hF (by decide +kernel)) ?_
  refine fmS (snd_dcmp hF (by decide +kernel)) ?_
  refine fmS (snd_if_le hF (off := 7) (by decide) (by decide +kernel)) ?_
  refine fmS (snd_dloadn hF (k := 3) rfl (by decide +kernel)) ?_
  refine fmS (snd_goto hF (off := 6) (by decide) (by decide +kernel)) ?_
  refine fmS (snd_dconst0 hF (by decide +kernel)) ?_
  refine fmS (snd_dloadn hF (k := 3) rfl (by decide +kernel)) ?_
  refine fmS (snd_dsub hF (by decide +kernel)) ?_
  refine fmS (snd_retD hM (by decide +kernel)) ?_
  exact fmE
theorem iX9_difference {d mc ms n : Nat} {av : List Value} {M : PM} {P : PO} (hd : 5 ≤ d) (hw : wid av ≤ 5) (hb : ∀ J : KT, (∀ (k : Nat) (stops : Nat → Bool) (pc : Nat) (lv : LV) (st : List Value) (nn : NN) (M : PM), lk (tX9_difference d mc ms P) pc (wpN (tX9_difference d mc ms P) stops k J) lv st nn M → J pc lv st nn M) → J 0 (entA 0 av) [] (n, 0, 0) M) : CallOK (d + 1) mc ms yX9_difference (Cond.code yX9_difference cX9_difference 5 (some .double)) av n M P := call_intro (own := RX9) (by decide) rfl hw (fun _ _ _ _ _ _ _ _ _ _ _ _ _ hM => sX9_difference hd hM) hb
def tX9_cost (d mc ms : Nat) (P : PO) : List (Nat × OP) := [(0, oIld 1 1), (1, oIld 2 2), (2, oCallS d mc ms P 1 6 yX9_checkOrder (Cond.code yX9_checkOrder cX9_checkOrder 2 none) 2 5), (5, oAld 0 6), (6, oIld 1 7), (7, oCallV d mc ms P 1 6 yX9_checkParallel (Cond.code yX9_checkParallel cX9_checkParallel 2 none) 1 9 10), (10, oAld 0 11), (11, oIld 1 12), (12, oIld 2 13), (13, oCallV d mc ms P 0 0 yX9_unitsOf (Cond.code yX9_unitsOf cX9_unitsOf 4 (some .int)) 2 9 16), (16, oRetI mc ms P)]
set_option maxRecDepth 20000 in
theorem sX9_cost {p : Program} {l : Launch} {e : Env} {s : State} {m : MethodId} {args : Array Value} {below : List Frame} {meth : Method} {c : Code} {D : va_G} {cA : Nat → ClassId} {ad0 : Nat → Nat} {n0 sz d mc ms : Nat} {P : PO} (hM : FM p l s m args meth c D cA 3 ad0 n0 sz cX9_cost RX9 (some .int) [] yX9_cost.name) : ∀ q ∈ tX9_cost d mc ms P, Snd (jM p l e s m args below meth c D cA 3 ad0 n0 sz (d + 1) mc ms P) q.1 q.2 := by
  have hF := hM.1
  have hts := hF.2.2.2.2.1
  unfold tX9_cost
  refine fmS (snd_iloadn hF (k := 1) rfl (by decide +kernel)) ?_
  refine fmS (snd_iloadn hF (k := 2) rfl (by decide +kernel)) ?_
  refine fmS (snd_callS hM k_X9_checkOrder qw918 qw919 (by decide +kernel)) ?_
  refine fmS (snd_aloadn hF (k := 0) rfl (by decide +kernel)) ?_
  refine fmS (snd_iloadn hF (k := 1) rfl (by decide +kernel)) ?_
  refine fmS (snd_callV hM k_X9_checkParallel okX9 qw928 qw930 (hts _ qw32) (by decide +kernel)) ?_
  refine fmS (snd_aloadn hF (k := 0) rfl (by decide +kernel)) ?_
  refine fmS (snd_iloadn hF (k := 1) rfl (by decide +kernel)) ?_
  refine fmS (snd_iloadn hF (k := 2) rfl (by decide +kernel)) ?_
  refine fmS (snd_callV hM k_X9_unitsOf okX9 qw386 qw388 (hts _ qw0) (by decide +kernel)) ?_
  refine fmS (snd_retI hM (by decide +kernel)) ?_
  exact fmE
theorem iX9_cost {d mc ms n : Nat} {av : List Value} {M : PM} {P : PO} (hw : wid av ≤ 3) (hb : ∀ J : KT, (∀ (k : Nat) (stops : Nat → Bool) (pc : Nat) (lv : LV) (st : List Value) (nn : NN) (M : PM), lk (tX9_cost d mc ms P) pc (wpN (tX9_cost d mc ms P) stops k J) lv st nn M → J pc lv st nn M) → J 0 (entA 0 av) [] (n, 0, 0) M) : CallOK (d + 1) mc ms yX9_cost (Cond.code yX9_cost cX9_cost 3 (some .int)) av n M P := call_intro (own := RX9) (by decide) rfl hw (fun _ _ _ _ _ _ _ _ _ _ _ _ _ hM => sX9_cost hM) hb
def tX9_cheapest (d mc ms : Nat) (P : PO) : List (Nat × OP) := [(0, oPush (.int 0) 1), (1, oIst 1 2), (2, oAld 0 3), (3, oGr 9 8 6), (6, oGi 6 15 9), (9, oIf (fun x => x = 0) 12 14), (12, oIld 1 13), (13, oRetI mc ms P), (14, oAld 0 15), (15, oPush (.int 0) 16), (16, oPush (.int 0) 17), (17, oCallV d mc ms P 0 0 yX9_unitsOf (Cond.code yX9_unitsOf cX9_unitsOf 4 (some .int)) 2 9 20), (20, oIst 2 21), (21, oPush (.int 1) 22), (22, oIst 3 23), (23, oIld 3 24), (24, oPush (.int 3) 25), (25, oIc (fun x y => y < x) 89 28), (28, oPush (.int 2) 29), (29, oIst 4 31), (31, oIld 4 33), (33, oPush (.int 8) 35), (35, oIc (fun x y => y < x) 83 38), (38, oAld 0 39), (39, oIld 3 40), (40, oIld 4 42), (42, oCallV d mc ms P 0 0 yX9_unitsOf (Cond.code yX9_unitsOf cX9_unitsOf 4 (some .int)) 2 9 45), (45, oIst 5 47), (47, oIld 5 49), (49, oIld 2 50), (50, oIc (fun x y => y ≤ x) 74 53), (53, oIld 5 55), (55, oIst 2 56), (56, oIld 3 57), (57, oPush (.int 3) 58), (58, oIc (fun x y => x = y) 61 66), (61, oPush (.int 30) 63), (63, oGoto 73), (66, oPush (.int 10) 68), (68, oIld 3 69), (69, oI2 (fun x y => x * y) 70), (70, oIld 4 72), (72, oI2 (fun x y => x + y) 73), (73, oIst 1 74), (74, oIld 4 76), (76, oPush (.int 2) 77), (77, oI2 (fun x y => x * y) 78), (78, oIst 4 80), (80, oGoto 31), (83, oInc 3 1 86), (86, oGoto 23), (89, oIld 1 90), (90, oRetI mc ms P)]
set_option maxRecDepth 20000 in
theorem sX9_cheapest {p : Program} {l : Launch} {e : Env} {s : State} {m : MethodId} {args : Array Value} {below : List Frame} {meth : Method} {c : Code} {D : va_G} {cA : Nat → ClassId} {ad0 : Nat → Nat} {n0 sz d mc ms : Nat} {P : PO} (hM : FM p l s m args meth c D cA 6 ad0 n0 sz cX9_cheapest RX9 (some .int) [] yX9_cheapest.name) : ∀ q ∈ tX9_cheapest d mc ms P, Snd (jM p l e s m args below meth c D cA 6 ad0 n0 sz (d + 1) mc ms P) q.1 q.2 := by
  have hF := hM.1
  have hts := hF.2.2.2.2.1
  unfold tX9_cheapest
  refine fmS (snd_iconst hF (n := 0) rfl (by decide +kernel)) ?_
  refine fmS (snd_istoren hF (k := 1) rfl (by decide) (by decide +kernel)) ?_
  refine fmS (snd_aloadn hF (k := 0) rfl (by decide +kernel)) ?_
  refine fmS (snd_getr hF okX9 (k := 8) (by decide) qw335 rfl rfl (by decide +kernel)) ?_
  refine fmS (snd_getiN hF okX6 (k := 15) (by decide) qw292 rfl rfl (by decide +kernel)) ?_
  refine fmS (snd_if_ne hF (off := 5) (by decide) (by decide +kernel)) ?_
  refine fmS (snd_iloadn hF (k := 1) rfl (by decide +kernel)) ?_
  refine fmS (snd_retI hM (by decide +kernel)) ?_
  refine fmS (snd_aloadn hF (k := 0) rfl (by decide +kernel)) ?_
  refine fmS (snd_iconst hF (n := 0) rfl (by decide +kernel)) ?_
  refine fmS (snd_iconst hF (n := 0) rfl (by decide +kernel)) ?_
  refine fmS (snd_callV hM k_X9_unitsOf okX9 qw386 qw388 (hts _ qw0) (by decide +kernel)) ?_
  refine fmS (snd_istoren hF (k := 2) rfl (by decide) (by decide +kernel)) ?_
  refine fmS (snd_iconst hF (n := 1) rfl (by decide +kernel)) ?_
  refine fmS (snd_istoren hF (k := 3) rfl (by decide) (by decide +kernel)) ?_
  refine fmS (snd_iloadn hF (k := 3) rfl (by decide +kernel)) ?_
  refine fmS (snd_iconst hF (n := 3) rfl (by decide +kernel)) ?_
  refine fmS (snd_icmp_gt hF (off := 64) (by decide) (by decide +kernel)) ?_
  refine fmS (snd_iconst hF (n := 2) rfl (by decide +kernel)) ?_
  refine fmS (snd_istore hF (by decide) (by decide +kernel)) ?_
  refine fmS (snd_iload hF (by decide +kernel)) ?_
  refine fmS (snd_bipush hF (n := 8) (by decide +kernel) (by decide +kernel)) ?_
  refine fmS (snd_icmp_gt hF (off := 48) (by decide) (by decide +kernel)) ?_
  refine fmS (snd_aloadn hF (k := 0) rfl (by decide +kernel)) ?_
  refine fmS (snd_iloadn hF (k := 3) rfl (by decide +kernel)) ?_
  refine fmS (snd_iload hF (by decide +kernel)) ?_
  refine fmS (snd_callV hM k_X9_unitsOf okX9 qw386 qw388 (hts _ qw0) (by decide +kernel)) ?_
  refine fmS (snd_istore hF (by decide) (by decide +kernel)) ?_
  refine fmS (snd_iload hF (by decide +kernel)) ?_
  refine fmS (snd_iloadn hF (k := 2) rfl (by decide +kernel)) ?_
  refine fmS (snd_icmp_ge hF (off := 24) (by decide) (by decide +kernel)) ?_
  refine fmS (snd_iload hF (by decide +kernel)) ?_
  refine fmS (snd_istoren hF (k := 2) rfl (by decide) (by decide +kernel)) ?_
  refine fmS (snd_iloadn hF (k := 3) rfl (by decide +kernel)) ?_
  refine fmS (snd_iconst hF (n := 3) rfl (by decide +kernel)) ?_
  refine fmS (snd_icmp_ne hF (off := 8) (by decide) (by decide +kernel)) ?_
  refine fmS (snd_bipush hF (n := 30) (by decide +kernel) (by decide +kernel)) ?_
  refine fmS (snd_goto hF (off := 10) (by decide) (by decide +kernel)) ?_
  refine fmS (snd_bipush hF (n := 10) (by decide +kernel) (by decide +kernel)) ?_
  refine fmS (snd_iloadn hF (k := 3) rfl (by decide +kernel)) ?_
  refine fmS (snd_imul hF (by decide +kernel)) ?_
  refine fmS (snd_iload hF (by decide +kernel)) ?_
  refine fmS (snd_iadd hF (by decide +kernel)) ?_
  refine fmS (snd_istoren hF (k := 1) rfl (by decide) (by decide +kernel)) ?_
  refine fmS (snd_iload hF (by decide +kernel)) ?_
  refine fmS (snd_iconst hF (n := 2) rfl (by decide +kernel)) ?_
  refine fmS (snd_imul hF (by decide +kernel)) ?_
  refine fmS (snd_istore hF (by decide) (by decide +kernel)) ?_
  refine fmS (snd_goto hF (off := (-49)) (by decide) (by decide +kernel)) ?_
  refine fmS (snd_iinc hF (n := 1) (by decide +kernel) (by decide) (by decide +kernel)) ?_
  refine fmS (snd_goto hF (off := (-63)) (by decide) (by decide +kernel)) ?_
  refine fmS (snd_iloadn hF (k := 1) rfl (by decide +kernel)) ?_
  refine fmS (snd_retI hM (by decide +kernel)) ?_
  exact fmE
theorem iX9_cheapest {d mc ms n : Nat} {av : List Value} {M : PM} {P : PO} (hw : wid av ≤ 6) (hb : ∀ J : KT, (∀ (k : Nat) (stops : Nat → Bool) (pc : Nat) (lv : LV) (st : List Value) (nn : NN) (M : PM), lk (tX9_cheapest d mc ms P) pc (wpN (tX9_cheapest d mc ms P) stops k J) lv st nn M → J pc lv st nn M) → J 0 (entA 0 av) [] (n, 0, 0) M) : CallOK (d + 1) mc ms yX9_cheapest (Cond.code yX9_cheapest cX9_cheapest 6 (some .int)) av n M P := call_intro (own := RX9) (by decide) rfl hw (fun _ _ _ _ _ _ _ _ _ _ _ _ _ hM => sX9_cheapest hM) hb
def tX9_save (d mc ms : Nat) (P : PO) : List (Nat × OP) := [(0, oAld 0 1), (1, oAld 0 2), (2, oGr 9 8 5), (5, oPr 9 9 8), (8, oAld 0 9), (9, oGr 9 5 12), (12, oAld 0 13), (13, oGr 9 4 16), (16, oCallV d mc ms P 0 0 yX1_copyFrom (Cond.code yX1_copyFrom cX1_copyFrom 3 none) 1 1 19), (19, oRetV mc ms P)]
set_option maxRecDepth 20000 in
theorem sX9_save {p : Program} {l : Launch} {e : Env} {s : State} {m : MethodId} {args : Array Value} {below : List Frame} {meth : Method} {c : Code} {D : va_G} {cA : Nat → ClassId} {ad0 : Nat → Nat} {n0 sz d mc ms : Nat} {P : PO} (hM : FM p l s m args meth c D cA 1 ad0 n0 sz cX9_save RX9 none [] yX9_save.name) : ∀ q ∈ tX9_save d mc ms P, Snd (jM p l e s m args below meth c D cA 1 ad0 n0 sz (d + 1) mc ms P) q.1 q.2 := by
  have hF := hM.1
  have hts := hF.2.2.2.2.1
  unfold tX9_save
  refine fmS (snd_aloadn hF (k := 0) rfl (by decide +kernel)) ?_
  refine fmS (snd_aloadn hF (k := 0) rfl (by decide +kernel)) ?_
  refine fmS (snd_getr hF okX9 (k := 8) (by decide) qw335 rfl rfl (by decide +kernel)) ?_
  refine fmS (snd_putr hF okX9 (k := 9) (by decide) qw336 rfl rfl rfl (ref_ok rfl) (by decide +kernel)) ?_
  refine fmS (snd_aloadn hF (k := 0) rfl (by decide +kernel)) ?_
  refine fmS (snd_getr hF okX9 (k := 5) (by decide) qw332 rfl rfl (by decide +kernel)) ?_
  refine fmS (snd_aloadn hF (k := 0) rfl (by decide +kernel)) ?_
  refine fmS (snd_getr hF okX9 (k := 4) (by decide) qw331 rfl rfl (by decide +kernel)) ?_
  refine fmS (snd_callVN hM k_X1_copyFrom okX1 qw400 qw402 (hts _ qw1) (by decide +kernel)) ?_
  refine fmS (snd_retV hM (by decide +kernel)) ?_
  exact fmE
theorem iX9_save {d mc ms n : Nat} {av : List Value} {M : PM} {P : PO} (hw : wid av ≤ 1) (hb : ∀ J : KT, (∀ (k : Nat) (stops : Nat → Bool) (pc : Nat) (lv : LV) (st : List Value) (nn : NN) (M : PM), lk (tX9_save d mc ms P) pc (wpN (tX9_save d mc ms P) stops k J) lv st nn M → J pc lv st nn M) → J 0 (entA 0 av) [] (n, 0, 0) M) : CallOK (d + 1) mc ms yX9_save (Cond.code yX9_save cX9_save 1 none) av n M P := call_intro (own := RX9) (by decide) rfl hw (fun _ _ _ _ _ _ _ _ _ _ _ _ _ hM => sX9_save hM) hb
def tX9_restore (d mc ms : Nat) (P : PO) : List (Nat × OP) := [(0, oAld 0 1), (1, oGr 9 9 4), (4, oNonnull 17 7), (7, oThrow mc ms P 1), (17, oAld 0 18), (18, oGr 9 4 21), (21, oAld 0 22), (22, oGr 9 5 25), (25, oCallV d mc ms P 0 0 yX1_copyFrom (Cond.code yX1_copyFrom cX1_copyFrom 3 none) 1 1 28), (28, oAld 0 29), (29, oAld 0 30), (30, oGr 9 9 33), (33, oCallV d mc ms P 0 0 yX9_switchTo (Cond.code yX9_switchTo cX9_switchTo 2 none) 1 9 36), (36, oRetV mc ms P)]
set_option maxRecDepth 20000 in
theorem sX9_restore {p : Program} {l : Launch} {e : Env} {s : State} {m : MethodId} {args : Array Value} {below : List Frame} {meth : Method} {c : Code} {D : va_G} {cA : Nat → ClassId} {ad0 : Nat → Nat} {n0 sz d mc ms : Nat} {P : PO} (hd : 5 ≤ d) (hM : FM p l s m args meth c D cA 1 ad0 n0 sz cX9_restore RX9 none [] yX9_restore.name) : ∀ q ∈ tX9_restore d mc ms P, Snd (jM p l e s m args below meth c D cA 1 ad0 n0 sz (d + 1) mc ms P) q.1 q.2 := by
  have hF := hM.1
  have hts := hF.2.2.2.2.1
  unfold tX9_restore
  refine fmS (snd_aloadn hF (k := 0) rfl (by decide +kernel)) ?_
  refine fmS (snd_getr hF okX9 (k := 9) (by decide) qw336 rfl rfl (by decide +kernel)) ?_
  refine fmS (snd_nonnull hF (off := 13) (by decide) (by decide +kernel)) ?_
  refine fmS (snd_throw hM (is := 249) (text := "there is no snapshot") (by omega) thr1 (by decide +kernel) (by decide +kernel) (by decide +kernel) (by decide +kernel) (by decide +kernel) (by decide +kernel)) ?_
  refine fmS (snd_aloadn hF (k := 0) rfl (by decide +kernel)) ?_
  refine fmS (snd_getr hF okX9 (k := 4) (by decide) qw331 rfl rfl (by decide +kernel)) ?_
  refine fmS (snd_aloadn hF (k := 0) rfl (by decide +kernel)) ?_
  refine fmS (snd_getr hF okX9 (k := 5) (by decide) qw332 rfl rfl (by decide +kernel)) ?_
  refine fmS (snd_callVN hM k_X1_copyFrom okX1 qw400 qw402 (hts _ qw1) (by decide +kernel)) ?_
  refine fmS (snd_aloadn hF (k := 0) rfl (by decide +kernel)) ?_
  refine fmS (snd_aloadn hF (k := 0) rfl (by decide +kernel)) ?_
  refine fmS (snd_getr hF okX9 (k := 9) (by decide) qw336 rfl rfl (by decide +kernel)) ?_
  refine fmS (snd_callV hM k_X9_switchTo okX9 qw716 qw718 (hts _ qw27) (by decide +kernel)) ?_
  refine fmS (snd_retV hM (by decide +kernel)) ?_
  exact fmE
theorem iX9_restore {d mc ms n : Nat} {av : List Value} {M : PM} {P : PO} (hd : 5 ≤ d) (hw : wid av ≤ 1) (hb : ∀ J : KT, (∀ (k : Nat) (stops : Nat → Bool) (pc : Nat) (lv : LV) (st : List Value) (nn : NN) (M : PM), lk (tX9_restore d mc ms P) pc (wpN (tX9_restore d mc ms P) stops k J) lv st nn M → J pc lv st nn M) → J 0 (entA 0 av) [] (n, 0, 0) M) : CallOK (d + 1) mc ms yX9_restore (Cond.code yX9_restore cX9_restore 1 none) av n M P := call_intro (own := RX9) (by decide) rfl hw (fun _ _ _ _ _ _ _ _ _ _ _ _ _ hM => sX9_restore hd hM) hb
def tX9_checkVariable (d mc ms : Nat) (P : PO) : List (Nat × OP) := [(0, oIld 0 1), (1, oIf (fun x => x < 0) 10 4), (4, oIld 0 5), (5, oPush (.int 8) 7), (7, oIc (fun x y => x < y) 20 10), (10, oThrow mc ms P 2), (20, oRetV mc ms P)]
set_option maxRecDepth 20000 in
theorem sX9_checkVariable {p : Program} {l : Launch} {e : Env} {s : State} {m : MethodId} {args : Array Value} {below : List Frame} {meth : Method} {c : Code} {D : va_G} {cA : Nat → ClassId} {ad0 : Nat → Nat} {n0 sz d mc ms : Nat} {P : PO} (hd : 5 ≤ d) (hM : FM p l s m args meth c D cA 1 ad0 n0 sz cX9_checkVariable RX9 none [] yX9_checkVariable.name) : ∀ q ∈ tX9_checkVariable d mc ms P, Snd (jM p l e s m args below meth c D cA 1 ad0 n0 sz (d + 1) mc ms P) q.1 q.2 := by
  have hF := hM.1
  have hts := hF.2.2.2.2.1
  unfold tX9_checkVariable
  refine fmS (snd_iloadn hF (k := 0) rfl (by decide +kernel)) ?_
  refine fmS (snd_if_lt hF (off := 9) (by decide) (by decide +kernel)) ?_
  refine fmS (snd_iloadn hF (k := 0) rfl (by decide +kernel)) ?_
  refine fmS (snd_bipush hF (n := 8) (by decide +kernel) (by decide +kernel)) ?_
  refine fmS (snd_icmp_lt hF (off := 13) (by decide) (by decide +kernel)) ?_
  refine fmS (snd_throw hM (is := 253) (text := "there is no such variable") (by omega) thr2 (by decide +kernel) (by decide +kernel) (by decide +kernel) (by decide +kernel) (by decide +kernel) (by decide +kernel)) ?_
  refine fmS (snd_retV hM (by decide +kernel)) ?_
  exact fmE
theorem iX9_checkVariable {d mc ms n : Nat} {av : List Value} {M : PM} {P : PO} (hd : 5 ≤ d) (hw : wid av ≤ 1) (hb : ∀ J : KT, (∀ (k : Nat) (stops : Nat → Bool) (pc : Nat) (lv : LV) (st : List Value) (nn : NN) (M : PM), lk (tX9_checkVariable d mc ms P) pc (wpN (tX9_checkVariable d mc ms P) stops k J) lv st nn M → J pc lv st nn M) → J 0 (entA 0 av) [] (n, 0, 0) M) : CallOK (d + 1) mc ms yX9_checkVariable (Cond.code yX9_checkVariable cX9_checkVariable 1 none) av n M P := call_intro (own := RX9) (by decide) rfl hw (fun _ _ _ _ _ _ _ _ _ _ _ _ _ hM => sX9_checkVariable hd hM) hb
def tX9_checkElement (d mc ms : Nat) (P : PO) : List (Nat × OP) := [(0, oIld 0 1), (1, oIf (fun x => x < 0) 19 4), (4, oIld 0 5), (5, oPush (.int 3) 6), (6, oIc (fun x y => y ≤ x) 19 9), (9, oIld 1 10), (10, oIf (fun x => x < 0) 19 13), (13, oIld 1 14), (14, oPush (.int 16) 16), (16, oIc (fun x y => x < y) 30 19), (19, oThrow mc ms P 2), (30, oRetV mc ms P)]
set_option maxRecDepth 20000 in
theorem sX9_checkElement {p : Program} {l : Launch} {e : Env} {s : State} {m : MethodId} {args : Array Value} {below : List Frame} {meth : Method} {c : Code} {D : va_G} {cA : Nat → ClassId} {ad0 : Nat → Nat} {n0 sz d mc ms : Nat} {P : PO} (hd : 5 ≤ d) (hM : FM p l s m args meth c D cA 2 ad0 n0 sz cX9_checkElement RX9 none [] yX9_checkElement.name) : ∀ q ∈ tX9_checkElement d mc ms P, Snd (jM p l e s m args below meth c D cA 2 ad0 n0 sz (d + 1) mc ms P) q.1 q.2 := by
  have hF := hM.1
  have hts := hF.2.2.2.2.1
  unfold tX9_checkElement
  refine fmS (snd_iloadn hF (k := 0) rfl (by decide +kernel)) ?_
  refine fmS (snd_if_lt hF (off := 18) (by decide) (by decide +kernel)) ?_
  refine fmS (snd_iloadn hF (k := 0) rfl (by decide +kernel)) ?_
  refine fmS (snd_iconst hF (n := 3) rfl (by decide +kernel)) ?_
  refine fmS (snd_icmp_ge hF (off := 13) (by decide) (by decide +kernel)) ?_
  refine fmS (snd_iloadn hF (k := 1) rfl (by decide +kernel)) ?_
  refine fmS (snd_if_lt hF (off := 9) (by decide) (by decide +kernel)) ?_
  refine fmS (snd_iloadn hF (k := 1) rfl (by decide +kernel)) ?_
  refine fmS (snd_bipush hF (n := 16) (by decide +kernel) (by decide +kernel)) ?_
  refine fmS (snd_icmp_lt hF (off := 14) (by decide) (by decide +kernel)) ?_
  refine fmS (snd_throwW hM (is := 256) (text := "there is no such array or index") (by omega) thr2 (by decide +kernel) (by decide +kernel) (by decide +kernel) (by decide +kernel) (by decide +kernel) (by decide +kernel)) ?_
  refine fmS (snd_retV hM (by decide +kernel)) ?_
  exact fmE
theorem iX9_checkElement {d mc ms n : Nat} {av : List Value} {M : PM} {P : PO} (hd : 5 ≤ d) (hw : wid av ≤ 2) (hb : ∀ J : KT, (∀ (k : Nat) (stops : Nat → Bool) (pc : Nat) (lv : LV) (st : List Value) (nn : NN) (M : PM), lk (tX9_checkElement d mc ms P) pc (wpN (tX9_checkElement d mc ms P) stops k J) lv st nn M → J pc lv st nn M) → J 0 (entA 0 av) [] (n, 0, 0) M) : CallOK (d + 1) mc ms yX9_checkElement (Cond.code yX9_checkElement cX9_checkElement 2 none) av n M P := call_intro (own := RX9) (by decide) rfl hw (fun _ _ _ _ _ _ _ _ _ _ _ _ _ hM => sX9_checkElement hd hM) hb
def tX9_checkChain (d mc ms : Nat) (P : PO) : List (Nat × OP) := [(0, oAld 0 1), (1, oGr 9 8 4), (4, oGr 6 11 7), (7, oIld 1 8), (8, oAi 100 9), (9, oIst 2 10), (10, oIld 2 11), (11, oPush (.int 2) 12), (12, oIc (fun x y => x = y) 31 15), (15, oIld 2 16), (16, oPush (.int 3) 17), (17, oIc (fun x y => x = y) 31 20), (20, oThrow mc ms P 3), (31, oRetV mc ms P)]
set_option maxRecDepth 20000 in
theorem sX9_checkChain {p : Program} {l : Launch} {e : Env} {s : State} {m : MethodId} {args : Array Value} {below : List Frame} {meth : Method} {c : Code} {D : va_G} {cA : Nat → ClassId} {ad0 : Nat → Nat} {n0 sz d mc ms : Nat} {P : PO} (hd : 5 ≤ d) (hM : FM p l s m args meth c D cA 3 ad0 n0 sz cX9_checkChain RX9 none [] yX9_checkChain.name) : ∀ q ∈ tX9_checkChain d mc ms P, Snd (jM p l e s m args below meth c D cA 3 ad0 n0 sz (d + 1) mc ms P) q.1 q.2 := by
  have hF := hM.1
  have hts := hF.2.2.2.2.1
  unfold tX9_checkChain
  refine fmS (snd_aloadn hF (k := 0) rfl (by decide +kernel)) ?_
  refine fmS (snd_getr hF okX9 (k := 8) (by decide) qw335 rfl rfl (by decide +kernel)) ?_
  refine fmS (snd_getrN hF okX6 (k := 11) (by decide) qw282 rfl rfl (by decide +kernel)) ?_
  refine fmS (snd_iloadn hF (k := 1) rfl (by decide +kernel)) ?_
  refine fmS (snd_iaload hF (by decide +kernel)) ?_
  refine fmS (snd_istoren hF (k := 2) rfl (by decide) (by decide +kernel)) ?_
  refine fmS (snd_iloadn hF (k := 2) rfl (by decide +kernel)) ?_
  refine fmS (snd_iconst hF (n := 2) rfl (by decide +kernel)) ?_
  refine fmS (snd_icmp_eq hF (off := 19) (by decide) (by decide +kernel)) ?_
  refine fmS (snd_iloadn hF (k := 2) rfl (by decide +kernel)) ?_
  refine fmS (snd_iconst hF (n := 3) rfl (by decide +kernel)) ?_
  refine fmS (snd_icmp_eq hF (off := 14) (by decide) (by decide +kernel)) ?_
  refine fmS (snd_throwW hM (is := 260) (text := "the variable has no chain") (by omega) thr3 (by decide +kernel) (by decide +kernel) (by decide +kernel) (by decide +kernel) (by decide +kernel) (by decide +kernel)) ?_
  refine fmS (snd_retV hM (by decide +kernel)) ?_
  exact fmE
theorem iX9_checkChain {d mc ms n : Nat} {av : List Value} {M : PM} {P : PO} (hd : 5 ≤ d) (hw : wid av ≤ 3) (hb : ∀ J : KT, (∀ (k : Nat) (stops : Nat → Bool) (pc : Nat) (lv : LV) (st : List Value) (nn : NN) (M : PM), lk (tX9_checkChain d mc ms P) pc (wpN (tX9_checkChain d mc ms P) stops k J) lv st nn M → J pc lv st nn M) → J 0 (entA 0 av) [] (n, 0, 0) M) : CallOK (d + 1) mc ms yX9_checkChain (Cond.code yX9_checkChain cX9_checkChain 3 none) av n M P := call_intro (own := RX9) (by decide) rfl hw (fun _ _ _ _ _ _ _ _ _ _ _ _ _ hM => sX9_checkChain hd hM) hb
def tX9_checkCursor (d mc ms : Nat) (P : PO) : List (Nat × OP) := [(0, oAld 0 1), (1, oGi 9 11 4), (4, oPush (.int (-1)) 5), (5, oIc (fun x y => x = y) 8 19), (8, oThrow mc ms P 1), (19, oRetV mc ms P)]
set_option maxRecDepth 20000 in
theorem sX9_checkCursor {p : Program} {l : Launch} {e : Env} {s : State} {m : MethodId} {args : Array Value} {below : List Frame} {meth : Method} {c : Code} {D : va_G} {cA : Nat → ClassId} {ad0 : Nat → Nat} {n0 sz d mc ms : Nat} {P : PO} (hd : 5 ≤ d) (hM : FM p l s m args meth c D cA 1 ad0 n0 sz cX9_checkCursor RX9 none [] yX9_checkCursor.name) : ∀ q ∈ tX9_checkCursor d mc ms P, Snd (jM p l e s m args below meth c D cA 1 ad0 n0 sz (d + 1) mc ms P) q.1 q.2 := by
  have hF := hM.1
  have hts := hF.2.2.2.2.1
  unfold tX9_checkCursor
  refine fmS (snd_aloadn hF (k := 0) rfl (by decide +kernel)) ?_
  refine fmS (snd_geti hF okX9 (k := 11) (by decide) qw338 rfl rfl (by decide +kernel)) ?_
  refine fmS (snd_iconst hF (n := (-1)) rfl (by decide +kernel)) ?_
  refine fmS (snd_icmp_ne hF (off := 14) (by decide) (by decide +kernel)) ?_
  refine fmS (snd_throwW hM (is := 263) (text := "no cursor is open") (by omega) thr1 (by decide +kernel) (by decide +kernel) (by decide +kernel) (by decide +kernel) (by decide +kernel) (by decide +kernel)) ?_
  refine fmS (snd_retV hM (by decide +kernel)) ?_
  exact fmE
theorem iX9_checkCursor {d mc ms n : Nat} {av : List Value} {M : PM} {P : PO} (hd : 5 ≤ d) (hw : wid av ≤ 1) (hb : ∀ J : KT, (∀ (k : Nat) (stops : Nat → Bool) (pc : Nat) (lv : LV) (st : List Value) (nn : NN) (M : PM), lk (tX9_checkCursor d mc ms P) pc (wpN (tX9_checkCursor d mc ms P) stops k J) lv st nn M → J pc lv st nn M) → J 0 (entA 0 av) [] (n, 0, 0) M) : CallOK (d + 1) mc ms yX9_checkCursor (Cond.code yX9_checkCursor cX9_checkCursor 1 none) av n M P := call_intro (own := RX9) (by decide) rfl hw (fun _ _ _ _ _ _ _ _ _ _ _ _ _ hM => sX9_checkCursor hd hM) hb
def tX9_checkOrder (d mc ms : Nat) (P : PO) : List (Nat × OP) := [(0, oIld 0 1), (1, oIf (fun x => x < 0) 9 4), (4, oIld 0 5), (5, oPush (.int 3) 6), (6, oIc (fun x y => x ≤ y) 20 9), (9, oThrow mc ms P 0), (20, oIld 0 21), (21, oPush (.int 1) 22), (22, oIc (fun x y => x = y) 30 25), (25, oIld 0 26), (26, oPush (.int 2) 27), (27, oIc (fun x y => x = y) 30 52), (30, oIld 1 31), (31, oPush (.int 1) 32), (32, oIc (fun x y => x < y) 41 35), (35, oIld 1 36), (36, oPush (.int 8) 38), (38, oIc (fun x y => x ≤ y) 52 41), (41, oThrow mc ms P 0), (52, oRetV mc ms P)]
set_option maxRecDepth 20000 in
theorem sX9_checkOrder {p : Program} {l : Launch} {e : Env} {s : State} {m : MethodId} {args : Array Value} {below : List Frame} {meth : Method} {c : Code} {D : va_G} {cA : Nat → ClassId} {ad0 : Nat → Nat} {n0 sz d mc ms : Nat} {P : PO} (hd : 5 ≤ d) (hM : FM p l s m args meth c D cA 2 ad0 n0 sz cX9_checkOrder RX9 none [] yX9_checkOrder.name) : ∀ q ∈ tX9_checkOrder d mc ms P, Snd (jM p l e s m args below meth c D cA 2 ad0 n0 sz (d + 1) mc ms P) q.1 q.2 := by
  have hF := hM.1
  have hts := hF.2.2.2.2.1
  unfold tX9_checkOrder
  refine fmS (snd_iloadn hF (k := 0) rfl (by decide +kernel)) ?_
  refine fmS (snd_if_lt hF (off := 8) (by decide) (by decide +kernel)) ?_
  refine fmS (snd_iloadn hF (k := 0) rfl (by decide +kernel)) ?_
  refine fmS (snd_iconst hF (n := 3) rfl (by decide +kernel)) ?_
  refine fmS (snd_icmp_le hF (off := 14) (by decide) (by decide +kernel)) ?_
  refine fmS (snd_throwW hM (is := 265) (text := "there is no such order") (by omega) thr0 (by decide +kernel) (by decide +kernel) (by decide +kernel) (by decide +kernel) (by decide +kernel) (by decide +kernel)) ?_
  refine fmS (snd_iloadn hF (k := 0) rfl (by decide +kernel)) ?_
  refine fmS (snd_iconst hF (n := 1) rfl (by decide +kernel)) ?_
  refine fmS (snd_icmp_eq hF (off := 8) (by decide) (by decide +kernel)) ?_
  refine fmS (snd_iloadn hF (k := 0) rfl (by decide +kernel)) ?_
  refine fmS (snd_iconst hF (n := 2) rfl (by decide +kernel)) ?_
  refine fmS (snd_icmp_ne hF (off := 25) (by decide) (by decide +kernel)) ?_
  refine fmS (snd_iloadn hF (k := 1) rfl (by decide +kernel)) ?_
  refine fmS (snd_iconst hF (n := 1) rfl (by decide +kernel)) ?_
  refine fmS (snd_icmp_lt hF (off := 9) (by decide) (by decide +kernel)) ?_
  refine fmS (snd_iloadn hF (k := 1) rfl (by decide +kernel)) ?_
  refine fmS (snd_bipush hF (n := 8) (by decide +kernel) (by decide +kernel)) ?_
  refine fmS (snd_icmp_le hF (off := 14) (by decide) (by decide +kernel)) ?_
  refine fmS (snd_throwW hM (is := 267) (text := "the width is out of range") (by omega) thr0 (by decide +kernel) (by decide +kernel) (by decide +kernel) (by decide +kernel) (by decide +kernel) (by decide +kernel)) ?_
  refine fmS (snd_retV hM (by decide +kernel)) ?_
  exact fmE
theorem iX9_checkOrder {d mc ms n : Nat} {av : List Value} {M : PM} {P : PO} (hd : 5 ≤ d) (hw : wid av ≤ 2) (hb : ∀ J : KT, (∀ (k : Nat) (stops : Nat → Bool) (pc : Nat) (lv : LV) (st : List Value) (nn : NN) (M : PM), lk (tX9_checkOrder d mc ms P) pc (wpN (tX9_checkOrder d mc ms P) stops k J) lv st nn M → J pc lv st nn M) → J 0 (entA 0 av) [] (n, 0, 0) M) : CallOK (d + 1) mc ms yX9_checkOrder (Cond.code yX9_checkOrder cX9_checkOrder 2 none) av n M P := call_intro (own := RX9) (by decide) rfl hw (fun _ _ _ _ _ _ _ _ _ _ _ _ _ hM => sX9_checkOrder hd hM) hb
def tX9_checkOperators (d mc ms : Nat) (P : PO) : List (Nat × OP) := [(0, oAld 0 1), (1, oGr 9 4 4), (4, oGi 1 0 7), (7, oPush (.int 1) 8), (8, oIc (fun x y => x = y) 11 32), (11, oAld 0 12), (12, oGr 9 8 15), (15, oGi 6 5 18), (18, oIf (fun x => x = 0) 32 21), (21, oThrow mc ms P 3), (32, oRetV mc ms P)]
set_option maxRecDepth 20000 in
theorem sX9_checkOperators {p : Program} {l : Launch} {e : Env} {s : State} {m : MethodId} {args : Array Value} {below : List Frame} {meth : Method} {c : Code} {D : va_G} {cA : Nat → ClassId} {ad0 : Nat → Nat} {n0 sz d mc ms : Nat} {P : PO} (hd : 5 ≤ d) (hM : FM p l s m args meth c D cA 1 ad0 n0 sz cX9_checkOperators RX9 none [] yX9_checkOperators.name) : ∀ q ∈ tX9_checkOperators d mc ms P, Snd (jM p l e s m args below meth c D cA 1 ad0 n0 sz (d + 1) mc ms P) q.1 q.2 := by
  have hF := hM.1
  have hts := hF.2.2.2.2.1
  unfold tX9_checkOperators
  refine fmS (snd_aloadn hF (k := 0) rfl (by decide +kernel)) ?_
  refine fmS (snd_getr hF okX9 (k := 4) (by decide) qw331 rfl rfl (by decide +kernel)) ?_
  refine fmS (snd_getiN hF okX1 (k := 0) (by decide) qw188 rfl rfl (by decide +kernel)) ?_
  refine fmS (snd_iconst hF (n := 1) rfl (by decide +kernel)) ?_
  refine fmS (snd_icmp_ne hF (off := 24) (by decide) (by decide +kernel)) ?_
  refine fmS (snd_aloadn hF (k := 0) rfl (by decide +kernel)) ?_
  refine fmS (snd_getr hF okX9 (k := 8) (by decide) qw335 rfl rfl (by decide +kernel)) ?_
  refine fmS (snd_getiN hF okX6 (k := 5) (by decide) qw272 rfl rfl (by decide +kernel)) ?_
  refine fmS (snd_if_eq hF (off := 14) (by decide) (by decide +kernel)) ?_
  refine fmS (snd_throwW hM (is := 272) (text := "a statement has an operator for ints only") (by omega) thr3 (by decide +kernel) (by decide +kernel) (by decide +kernel) (by decide +kernel) (by decide +kernel) (by decide +kernel)) ?_
  refine fmS (snd_retV hM (by decide +kernel)) ?_
  exact fmE
theorem iX9_checkOperators {d mc ms n : Nat} {av : List Value} {M : PM} {P : PO} (hd : 5 ≤ d) (hw : wid av ≤ 1) (hb : ∀ J : KT, (∀ (k : Nat) (stops : Nat → Bool) (pc : Nat) (lv : LV) (st : List Value) (nn : NN) (M : PM), lk (tX9_checkOperators d mc ms P) pc (wpN (tX9_checkOperators d mc ms P) stops k J) lv st nn M → J pc lv st nn M) → J 0 (entA 0 av) [] (n, 0, 0) M) : CallOK (d + 1) mc ms yX9_checkOperators (Cond.code yX9_checkOperators cX9_checkOperators 1 none) av n M P := call_intro (own := RX9) (by decide) rfl hw (fun _ _ _ _ _ _ _ _ _ _ _ _ _ hM => sX9_checkOperators hd hM) hb
def tX9_checkParallel (d mc ms : Nat) (P : PO) : List (Nat × OP) := [(0, oIld 1 1), (1, oIf (fun x => x = 0) 25 4), (4, oAld 0 5), (5, oGr 9 8 8), (8, oGi 6 15 11), (11, oIf (fun x => x = 0) 14 25), (14, oThrow mc ms P 1), (25, oRetV mc ms P)]
set_option maxRecDepth 20000 in
theorem sX9_checkParallel {p : Program} {l : Launch} {e : Env} {s : State} {m : MethodId} {args : Array Value} {below : List Frame} {meth : Method} {c : Code} {D : va_G} {cA : Nat → ClassId} {ad0 : Nat → Nat} {n0 sz d mc ms : Nat} {P : PO} (hd : 5 ≤ d) (hM : FM p l s m args meth c D cA 2 ad0 n0 sz cX9_checkParallel RX9 none [] yX9_checkParallel.name) : ∀ q ∈ tX9_checkParallel d mc ms P, Snd (jM p l e s m args below meth c D cA 2 ad0 n0 sz (d + 1) mc ms P) q.1 q.2 := by
  have hF := hM.1
  have hts := hF.2.2.2.2.1
  unfold tX9_checkParallel
  refine fmS (snd_iloadn hF (k := 1) rfl (by decide +kernel)) ?_
  refine fmS (snd_if_eq hF (off := 24) (by decide) (by decide +kernel)) ?_
  refine fmS (snd_aloadn hF (k := 0) rfl (by decide +kernel)) ?_
  refine fmS (snd_getr hF okX9 (k := 8) (by decide) qw335 rfl rfl (by decide +kernel)) ?_
  refine fmS (snd_getiN hF okX6 (k := 15) (by decide) qw292 rfl rfl (by decide +kernel)) ?_
  refine fmS (snd_if_ne hF (off := 14) (by decide) (by decide +kernel)) ?_
  refine fmS (snd_throwW hM (is := 274) (text := "the loop is not parallel") (by omega) thr1 (by decide +kernel) (by decide +kernel) (by decide +kernel) (by decide +kernel) (by decide +kernel) (by decide +kernel)) ?_
  refine fmS (snd_retV hM (by decide +kernel)) ?_
  exact fmE
theorem iX9_checkParallel {d mc ms n : Nat} {av : List Value} {M : PM} {P : PO} (hd : 5 ≤ d) (hw : wid av ≤ 2) (hb : ∀ J : KT, (∀ (k : Nat) (stops : Nat → Bool) (pc : Nat) (lv : LV) (st : List Value) (nn : NN) (M : PM), lk (tX9_checkParallel d mc ms P) pc (wpN (tX9_checkParallel d mc ms P) stops k J) lv st nn M → J pc lv st nn M) → J 0 (entA 0 av) [] (n, 0, 0) M) : CallOK (d + 1) mc ms yX9_checkParallel (Cond.code yX9_checkParallel cX9_checkParallel 2 none) av n M P := call_intro (own := RX9) (by decide) rfl hw (fun _ _ _ _ _ _ _ _ _ _ _ _ _ hM => sX9_checkParallel hd hM) hb
def tX9_spareProgram (d mc ms : Nat) (P : PO) : List (Nat × OP) := [(0, oPush (.int 0) 1), (1, oIst 1 2), (2, oIld 1 3), (3, oPush (.int 2) 4), (4, oIc (fun x y => y ≤ x) 46 7), (7, oAld 0 8), (8, oGr 9 3 11), (11, oIld 1 12), (12, oAr 108 13), (13, oAld 0 14), (14, oGr 9 8 17), (17, oAcmp 40 20), (20, oAld 0 21), (21, oGr 9 3 24), (24, oIld 1 25), (25, oAr 108 26), (26, oAld 0 27), (27, oGr 9 9 30), (30, oAcmp 40 33), (33, oAld 0 34), (34, oGr 9 3 37), (37, oIld 1 38), (38, oAr 108 39), (39, oRetA mc ms P), (40, oInc 1 1 43), (43, oGoto 2), (46, oAld 0 47), (47, oGr 9 3 50), (50, oPush (.int 2) 51), (51, oAr 108 52), (52, oRetA mc ms P)]
set_option maxRecDepth 20000 in
theorem sX9_spareProgram {p : Program} {l : Launch} {e : Env} {s : State} {m : MethodId} {args : Array Value} {below : List Frame} {meth : Method} {c : Code} {D : va_G} {cA : Nat → ClassId} {ad0 : Nat → Nat} {n0 sz d mc ms : Nat} {P : PO} (hM : FM p l s m args meth c D cA 2 ad0 n0 sz cX9_spareProgram RX9 (some (.object "ReductionFinder$Program")) [] yX9_spareProgram.name) : ∀ q ∈ tX9_spareProgram d mc ms P, Snd (jM p l e s m args below meth c D cA 2 ad0 n0 sz (d + 1) mc ms P) q.1 q.2 := by
  have hF := hM.1
  have hts := hF.2.2.2.2.1
  unfold tX9_spareProgram
  refine fmS (snd_iconst hF (n := 0) rfl (by decide +kernel)) ?_
  refine fmS (snd_istoren hF (k := 1) rfl (by decide) (by decide +kernel)) ?_
  refine fmS (snd_iloadn hF (k := 1) rfl (by decide +kernel)) ?_
  refine fmS (snd_iconst hF (n := 2) rfl (by decide +kernel)) ?_
  refine fmS (snd_icmp_ge hF (off := 42) (by decide) (by decide +kernel)) ?_
  refine fmS (snd_aloadn hF (k := 0) rfl (by decide +kernel)) ?_
  refine fmS (snd_getr hF okX9 (k := 3) (by decide) qw330 rfl rfl (by decide +kernel)) ?_
  refine fmS (snd_iloadn hF (k := 1) rfl (by decide +kernel)) ?_
  refine fmS (snd_aaload108 hF (by decide +kernel)) ?_
  refine fmS (snd_aloadn hF (k := 0) rfl (by decide +kernel)) ?_
  refine fmS (snd_getr hF okX9 (k := 8) (by decide) qw335 rfl rfl (by decide +kernel)) ?_
  refine fmS (snd_acmp hF (off := 23) (by decide) (by decide +kernel)) ?_
  refine fmS (snd_aloadn hF (k := 0) rfl (by decide +kernel)) ?_
  refine fmS (snd_getr hF okX9 (k := 3) (by decide) qw330 rfl rfl (by decide +kernel)) ?_
  refine fmS (snd_iloadn hF (k := 1) rfl (by decide +kernel)) ?_
  refine fmS (snd_aaload108 hF (by decide +kernel)) ?_
  refine fmS (snd_aloadn hF (k := 0) rfl (by decide +kernel)) ?_
  refine fmS (snd_getr hF okX9 (k := 9) (by decide) qw336 rfl rfl (by decide +kernel)) ?_
  refine fmS (snd_acmp hF (off := 10) (by decide) (by decide +kernel)) ?_
  refine fmS (snd_aloadn hF (k := 0) rfl (by decide +kernel)) ?_
  refine fmS (snd_getr hF okX9 (k := 3) (by decide) qw330 rfl rfl (by decide +kernel)) ?_
  refine fmS (snd_iloadn hF (k := 1) rfl (by decide +kernel)) ?_
  refine fmS (snd_aaload108 hF (by decide +kernel)) ?_
  refine fmS (snd_retA hM ⟨_, rfl⟩ (by decide +kernel)) ?_
  refine fmS (snd_iinc hF (n := 1) (by decide +kernel) (by decide) (by decide +kernel)) ?_
  refine fmS (snd_goto hF (off := (-41)) (by decide) (by decide +kernel)) ?_
  refine fmS (snd_aloadn hF (k := 0) rfl (by decide +kernel)) ?_
  refine fmS (snd_getr hF okX9 (k := 3) (by decide) qw330 rfl rfl (by decide +kernel)) ?_
  refine fmS (snd_iconst hF (n := 2) rfl (by decide +kernel)) ?_
  refine fmS (snd_aaload108 hF (by decide +kernel)) ?_
  refine fmS (snd_retA hM ⟨_, rfl⟩ (by decide +kernel)) ?_
  exact fmE
theorem iX9_spareProgram {d mc ms n : Nat} {av : List Value} {M : PM} {P : PO} (hw : wid av ≤ 2) (hb : ∀ J : KT, (∀ (k : Nat) (stops : Nat → Bool) (pc : Nat) (lv : LV) (st : List Value) (nn : NN) (M : PM), lk (tX9_spareProgram d mc ms P) pc (wpN (tX9_spareProgram d mc ms P) stops k J) lv st nn M → J pc lv st nn M) → J 0 (entA 0 av) [] (n, 0, 0) M) : CallOK (d + 1) mc ms yX9_spareProgram (Cond.code yX9_spareProgram cX9_spareProgram 2 (some (.object "ReductionFinder$Program"))) av n M P := call_intro (own := RX9) (by decide) rfl hw (fun _ _ _ _ _ _ _ _ _ _ _ _ _ hM => sX9_spareProgram hM) hb
def tX9_switchTo (d mc ms : Nat) (P : PO) : List (Nat × OP) := [(0, oAld 0 1), (1, oAld 1 2), (2, oPr 9 8 5), (5, oAld 0 6), (6, oPush (.int (-1)) 7), (7, oPi 9 11 10), (10, oAld 0 11), (11, oPush (.int (-1)) 12), (12, oPi 9 13 15), (15, oRetV mc ms P)]
set_option maxRecDepth 20000 in
theorem sX9_switchTo {p : Program} {l : Launch} {e : Env} {s : State} {m : MethodId} {args : Array Value} {below : List Frame} {meth : Method} {c : Code} {D : va_G} {cA : Nat → ClassId} {ad0 : Nat → Nat} {n0 sz d mc ms : Nat} {P : PO} (hM : FM p l s m args meth c D cA 2 ad0 n0 sz cX9_switchTo RX9 none [] yX9_switchTo.name) : ∀ q ∈ tX9_switchTo d mc ms P, Snd (jM p l e s m args below meth c D cA 2 ad0 n0 sz (d + 1) mc ms P) q.1 q.2 := by
  have hF := hM.1
  have hts := hF.2.2.2.2.1
  unfold tX9_switchTo
  refine fmS (snd_aloadn hF (k := 0) rfl (by decide +kernel)) ?_
  refine fmS (snd_aloadn hF (k := 1) rfl (by decide +kernel)) ?_
  refine fmS (snd_putr hF okX9 (k := 8) (by decide) qw335 rfl rfl rfl (ref_ok rfl) (by decide +kernel)) ?_
  refine fmS (snd_aloadn hF (k := 0) rfl (by decide +kernel)) ?_
  refine fmS (snd_iconst hF (n := (-1)) rfl (by decide +kernel)) ?_
  refine fmS (snd_puti hF okX9 (k := 11) (by decide) qw338 rfl rfl rfl rfl (by decide +kernel)) ?_
  refine fmS (snd_aloadn hF (k := 0) rfl (by decide +kernel)) ?_
  refine fmS (snd_iconst hF (n := (-1)) rfl (by decide +kernel)) ?_
  refine fmS (snd_puti hF okX9 (k := 13) (by decide) qw340 rfl rfl rfl rfl (by decide +kernel)) ?_
  refine fmS (snd_retV hM (by decide +kernel)) ?_
  exact fmE
theorem iX9_switchTo {d mc ms n : Nat} {av : List Value} {M : PM} {P : PO} (hw : wid av ≤ 2) (hb : ∀ J : KT, (∀ (k : Nat) (stops : Nat → Bool) (pc : Nat) (lv : LV) (st : List Value) (nn : NN) (M : PM), lk (tX9_switchTo d mc ms P) pc (wpN (tX9_switchTo d mc ms P) stops k J) lv st nn M → J pc lv st nn M) → J 0 (entA 0 av) [] (n, 0, 0) M) : CallOK (d + 1) mc ms yX9_switchTo (Cond.code yX9_switchTo cX9_switchTo 2 none) av n M P := call_intro (own := RX9) (by decide) rfl hw (fun _ _ _ _ _ _ _ _ _ _ _ _ _ hM => sX9_switchTo hM) hb
def tX9_machineOfMode (d mc ms : Nat) (P : PO) : List (Nat × OP) := [(0, oAld 0 1), (1, oGr 9 4 4), (4, oGi 1 0 7), (7, oIf (fun x => x = 0) 10 15), (10, oAld 0 11), (11, oGr 9 6 14), (14, oRetA mc ms P), (15, oAld 0 16), (16, oGr 9 7 19), (19, oRetA mc ms P)]
set_option maxRecDepth 20000 in
theorem sX9_machineOfMode {p : Program} {l : Launch} {e : Env} {s : State} {m : MethodId} {args : Array Value} {below : List Frame} {meth : Method} {c : Code} {D : va_G} {cA : Nat → ClassId} {ad0 : Nat → Nat} {n0 sz d mc ms : Nat} {P : PO} (hM : FM p l s m args meth c D cA 1 ad0 n0 sz cX9_machineOfMode RX9 (some (.object "ReductionFinder$Machine")) [] yX9_machineOfMode.name) : ∀ q ∈ tX9_machineOfMode d mc ms P, Snd (jM p l e s m args below meth c D cA 1 ad0 n0 sz (d + 1) mc ms P) q.1 q.2 := by
  have hF := hM.1
  have hts := hF.2.2.2.2.1
  unfold tX9_machineOfMode
  refine fmS (snd_aloadn hF (k := 0) rfl (by decide +kernel)) ?_
  refine fmS (snd_getr hF okX9 (k := 4) (by decide) qw331 rfl rfl (by decide +kernel)) ?_
  refine fmS (snd_getiN hF okX1 (k := 0) (by decide) qw188 rfl rfl (by decide +kernel)) ?_
  refine fmS (snd_if_ne hF (off := 8) (by decide) (by decide +kernel)) ?_
  refine fmS (snd_aloadn hF (k := 0) rfl (by decide +kernel)) ?_
  refine fmS (snd_getr hF okX9 (k := 6) (by decide) qw333 rfl rfl (by decide +kernel)) ?_
  refine fmS (snd_retA hM ⟨_, rfl⟩ (by decide +kernel)) ?_
  refine fmS (snd_aloadn hF (k := 0) rfl (by decide +kernel)) ?_
  refine fmS (snd_getr hF okX9 (k := 7) (by decide) qw334 rfl rfl (by decide +kernel)) ?_
  refine fmS (snd_retA hM ⟨_, rfl⟩ (by decide +kernel)) ?_
  exact fmE
theorem iX9_machineOfMode {d mc ms n : Nat} {av : List Value} {M : PM} {P : PO} (hw : wid av ≤ 1) (hb : ∀ J : KT, (∀ (k : Nat) (stops : Nat → Bool) (pc : Nat) (lv : LV) (st : List Value) (nn : NN) (M : PM), lk (tX9_machineOfMode d mc ms P) pc (wpN (tX9_machineOfMode d mc ms P) stops k J) lv st nn M → J pc lv st nn M) → J 0 (entA 0 av) [] (n, 0, 0) M) : CallOK (d + 1) mc ms yX9_machineOfMode (Cond.code yX9_machineOfMode cX9_machineOfMode 1 (some (.object "ReductionFinder$Machine"))) av n M P := call_intro (own := RX9) (by decide) rfl hw (fun _ _ _ _ _ _ _ _ _ _ _ _ _ hM => sX9_machineOfMode hM) hb
def tX9_unitsOf (d mc ms : Nat) (P : PO) : List (Nat × OP) := [(0, oAld 0 1), (1, oGr 9 8 4), (4, oGi 6 4 7), (7, oIst 3 8), (8, oAld 0 9), (9, oGr 9 4 12), (12, oGi 1 1 15), (15, oIf (fun x => x = 0) 18 20), (18, oPush (.int 0) 19), (19, oRetI mc ms P), (20, oIld 1 21), (21, oIf (fun x => x = 0) 24 34), (24, oAld 0 25), (25, oGr 9 4 28), (28, oGi 1 1 31), (31, oIld 3 32), (32, oI2 (fun x y => x * y) 33), (33, oRetI mc ms P), (34, oIld 1 35), (35, oPush (.int 3) 36), (36, oIc (fun x y => x = y) 39 62), (39, oIld 3 40), (40, oAld 0 41), (41, oGr 9 8 44), (44, oGi 6 14 47), (47, oAld 0 48), (48, oGr 9 4 51), (51, oGi 1 1 54), (54, oCallS d mc ms P 0 0 yX9_treeRows (Cond.code yX9_treeRows cX9_treeRows 3 (some .int)) 1 57), (57, oPush (.int 1) 58), (58, oI2 (fun x y => x + y) 59), (59, oI2 (fun x y => x * y) 60), (60, oI2 (fun x y => x + y) 61), (61, oRetI mc ms P), (62, oAld 0 63), (63, oGr 9 4 66), (66, oGi 1 1 69), (69, oIld 2 70), (70, oCallS d mc ms P 0 0 yX9_quotientUp (Cond.code yX9_quotientUp cX9_quotientUp 2 (some .int)) 2 73), (73, oIld 3 74), (74, oI2 (fun x y => x * y) 75), (75, oAld 0 76), (76, oGr 9 8 79), (79, oGi 6 14 82), (82, oIld 2 83), (83, oI2 (fun x y => x * y) 84), (84, oI2 (fun x y => x + y) 85), (85, oRetI mc ms P)]
set_option maxRecDepth 20000 in
theorem sX9_unitsOf {p : Program} {l : Launch} {e : Env} {s : State} {m : MethodId} {args : Array Value} {below : List Frame} {meth : Method} {c : Code} {D : va_G} {cA : Nat → ClassId} {ad0 : Nat → Nat} {n0 sz d mc ms : Nat} {P : PO} (hM : FM p l s m args meth c D cA 4 ad0 n0 sz cX9_unitsOf RX9 (some .int) [] yX9_unitsOf.name) : ∀ q ∈ tX9_unitsOf d mc ms P, Snd (jM p l e s m args below meth c D cA 4 ad0 n0 sz (d + 1) mc ms P) q.1 q.2 := by
  have hF := hM.1
  have hts := hF.2.2.2.2.1
  unfold tX9_unitsOf
  refine fmS (snd_aloadn hF (k := 0) rfl (by decide +kernel)) ?_
  refine fmS (snd_getr hF okX9 (k := 8) (by decide) qw335 rfl rfl (by decide +kernel)) ?_
  refine fmS (snd_getiN hF okX6 (k := 4) (by decide) qw270 rfl rfl (by decide +kernel)) ?_
  refine fmS (snd_istoren hF (k := 3) rfl (by decide) (by decide +kernel)) ?_
  refine fmS (snd_aloadn hF (k := 0) rfl (by decide +kernel)) ?_
  refine fmS (snd_getr hF okX9 (k := 4) (by decide) qw331 rfl rfl (by decide +kernel)) ?_
  refine fmS (snd_getiN hF okX1 (k := 1) (by decide) qw190 rfl rfl (by decide +kernel)) ?_
  refine fmS (snd_if_ne hF (off := 5) (by decide) (by decide +kernel)) ?_
  refine fmS (snd_iconst hF (n := 0) rfl (by decide +kernel)) ?_
  refine fmS (snd_retI hM (by decide +kernel)) ?_
  refine fmS (snd_iloadn hF (k := 1) rfl (by decide +kernel)) ?_
  refine fmS (snd_if_ne hF (off := 13) (by decide) (by decide +kernel)) ?_
  refine fmS (snd_aloadn hF (k := 0) rfl (by decide +kernel)) ?_
  refine fmS (snd_getr hF okX9 (k := 4) (by decide) qw331 rfl rfl (by decide +kernel)) ?_
  refine fmS (snd_getiN hF okX1 (k := 1) (by decide) qw190 rfl rfl (by decide +kernel)) ?_
  refine fmS (snd_iloadn hF (k := 3) rfl (by decide +kernel)) ?_
  refine fmS (snd_imul hF (by decide +kernel)) ?_
  refine fmS (snd_retI hM (by decide +kernel)) ?_
  refine fmS (snd_iloadn hF (k := 1) rfl (by decide +kernel)) ?_
  refine fmS (snd_iconst hF (n := 3) rfl (by decide +kernel)) ?_
  refine fmS (snd_icmp_ne hF (off := 26) (by decide) (by decide +kernel)) ?_
  refine fmS (snd_iloadn hF (k := 3) rfl (by decide +kernel)) ?_
  refine fmS (snd_aloadn hF (k := 0) rfl (by decide +kernel)) ?_
  refine fmS (snd_getr hF okX9 (k := 8) (by decide) qw335 rfl rfl (by decide +kernel)) ?_
  refine fmS (snd_getiN hF okX6 (k := 14) (by decide) qw290 rfl rfl (by decide +kernel)) ?_
  refine fmS (snd_aloadn hF (k := 0) rfl (by decide +kernel)) ?_
  refine fmS (snd_getr hF okX9 (k := 4) (by decide) qw331 rfl rfl (by decide +kernel)) ?_
  refine fmS (snd_getiN hF okX1 (k := 1) (by decide) qw190 rfl rfl (by decide +kernel)) ?_
  refine fmS (snd_callS hM k_X9_treeRows qw390 qw391 (by decide +kernel)) ?_
  refine fmS (snd_iconst hF (n := 1) rfl (by decide +kernel)) ?_
  refine fmS (snd_iadd hF (by decide +kernel)) ?_
  refine fmS (snd_imul hF (by decide +kernel)) ?_
  refine fmS (snd_iadd hF (by decide +kernel)) ?_
  refine fmS (snd_retI hM (by decide +kernel)) ?_
  refine fmS (snd_aloadn hF (k := 0) rfl (by decide +kernel)) ?_
  refine fmS (snd_getr hF okX9 (k := 4) (by decide) qw331 rfl rfl (by decide +kernel)) ?_
  refine fmS (snd_getiN hF okX1 (k := 1) (by decide) qw190 rfl rfl (by decide +kernel)) ?_
  refine fmS (snd_iloadn hF (k := 2) rfl (by decide +kernel)) ?_
  refine fmS (snd_callS hM k_X9_quotientUp qw393 qw394 (by decide +kernel)) ?_
  refine fmS (snd_iloadn hF (k := 3) rfl (by decide +kernel)) ?_
  refine fmS (snd_imul hF (by decide +kernel)) ?_
  refine fmS (snd_aloadn hF (k := 0) rfl (by decide +kernel)) ?_
  refine fmS (snd_getr hF okX9 (k := 8) (by decide) qw335 rfl rfl (by decide +kernel)) ?_
  refine fmS (snd_getiN hF okX6 (k := 14) (by decide) qw290 rfl rfl (by decide +kernel)) ?_
  refine fmS (snd_iloadn hF (k := 2) rfl (by decide +kernel)) ?_
  refine fmS (snd_imul hF (by decide +kernel)) ?_
  refine fmS (snd_iadd hF (by decide +kernel)) ?_
  refine fmS (snd_retI hM (by decide +kernel)) ?_
  exact fmE
theorem iX9_unitsOf {d mc ms n : Nat} {av : List Value} {M : PM} {P : PO} (hw : wid av ≤ 4) (hb : ∀ J : KT, (∀ (k : Nat) (stops : Nat → Bool) (pc : Nat) (lv : LV) (st : List Value) (nn : NN) (M : PM), lk (tX9_unitsOf d mc ms P) pc (wpN (tX9_unitsOf d mc ms P) stops k J) lv st nn M → J pc lv st nn M) → J 0 (entA 0 av) [] (n, 0, 0) M) : CallOK (d + 1) mc ms yX9_unitsOf (Cond.code yX9_unitsOf cX9_unitsOf 4 (some .int)) av n M P := call_intro (own := RX9) (by decide) rfl hw (fun _ _ _ _ _ _ _ _ _ _ _ _ _ hM => sX9_unitsOf hM) hb
def tX9_treeRows (d mc ms : Nat) (P : PO) : List (Nat × OP) := [(0, oPush (.int 0) 1), (1, oIst 1 2), (2, oIld 0 3), (3, oIst 2 4), (4, oIld 2 5), (5, oPush (.int 1) 6), (6, oIc (fun x y => x ≤ y) 21 9), (9, oInc 1 1 12), (12, oIld 2 13), (13, oPush (.int 1) 14), (14, oI2 (fun x y => x + y) 15), (15, oPush (.int 2) 16), (16, oI2n (fun x y => x / y) 17), (17, oIst 2 18), (18, oGoto 4), (21, oIld 1 22), (22, oRetI mc ms P)]
set_option maxRecDepth 20000 in
theorem sX9_treeRows {p : Program} {l : Launch} {e : Env} {s : State} {m : MethodId} {args : Array Value} {below : List Frame} {meth : Method} {c : Code} {D : va_G} {cA : Nat → ClassId} {ad0 : Nat → Nat} {n0 sz d mc ms : Nat} {P : PO} (hM : FM p l s m args meth c D cA 3 ad0 n0 sz cX9_treeRows RX9 (some .int) [] yX9_treeRows.name) : ∀ q ∈ tX9_treeRows d mc ms P, Snd (jM p l e s m args below meth c D cA 3 ad0 n0 sz (d + 1) mc ms P) q.1 q.2 := by
  have hF := hM.1
  have hts := hF.2.2.2.2.1
  unfold tX9_treeRows
  refine fmS (snd_iconst hF (n := 0) rfl (by decide +kernel)) ?_
  refine fmS (snd_istoren hF (k := 1) rfl (by decide) (by decide +kernel)) ?_
  refine fmS (snd_iloadn hF (k := 0) rfl (by decide +kernel)) ?_
  refine fmS (snd_istoren hF (k := 2) rfl (by decide) (by decide +kernel)) ?_
  refine fmS (snd_iloadn hF (k := 2) rfl (by decide +kernel)) ?_
  refine fmS (snd_iconst hF (n := 1) rfl (by decide +kernel)) ?_
  refine fmS (snd_icmp_le hF (off := 15) (by decide) (by decide +kernel)) ?_
  refine fmS (snd_iinc hF (n := 1) (by decide +kernel) (by decide) (by decide +kernel)) ?_
  refine fmS (snd_iloadn hF (k := 2) rfl (by decide +kernel)) ?_
  refine fmS (snd_iconst hF (n := 1) rfl (by decide +kernel)) ?_
  refine fmS (snd_iadd hF (by decide +kernel)) ?_
  refine fmS (snd_iconst hF (n := 2) rfl (by decide +kernel)) ?_
  refine fmS (snd_idiv hF (by decide +kernel)) ?_
  refine fmS (snd_istoren hF (k := 2) rfl (by decide) (by decide +kernel)) ?_
  refine fmS (snd_goto hF (off := (-14)) (by decide) (by decide +kernel)) ?_
  refine fmS (snd_iloadn hF (k := 1) rfl (by decide +kernel)) ?_
  refine fmS (snd_retI hM (by decide +kernel)) ?_
  exact fmE
theorem iX9_treeRows {d mc ms n : Nat} {av : List Value} {M : PM} {P : PO} (hw : wid av ≤ 3) (hb : ∀ J : KT, (∀ (k : Nat) (stops : Nat → Bool) (pc : Nat) (lv : LV) (st : List Value) (nn : NN) (M : PM), lk (tX9_treeRows d mc ms P) pc (wpN (tX9_treeRows d mc ms P) stops k J) lv st nn M → J pc lv st nn M) → J 0 (entA 0 av) [] (n, 0, 0) M) : CallOK (d + 1) mc ms yX9_treeRows (Cond.code yX9_treeRows cX9_treeRows 3 (some .int)) av n M P := call_intro (own := RX9) (by decide) rfl hw (fun _ _ _ _ _ _ _ _ _ _ _ _ _ hM => sX9_treeRows hM) hb
def tX9_quotientUp (d mc ms : Nat) (P : PO) : List (Nat × OP) := [(0, oIld 1 1), (1, oPush (.int 1) 2), (2, oIc (fun x y => y ≤ x) 9 5), (5, oPush (.int 0) 6), (6, oGoto 16), (9, oIld 0 10), (10, oIld 1 11), (11, oI2 (fun x y => x + y) 12), (12, oPush (.int 1) 13), (13, oI2 (fun x y => x - y) 14), (14, oIld 1 15), (15, oI2n (fun x y => x / y) 16), (16, oRetI mc ms P)]
set_option maxRecDepth 20000 in
theorem sX9_quotientUp {p : Program} {l : Launch} {e : Env} {s : State} {m : MethodId} {args : Array Value} {below : List Frame} {meth : Method} {c : Code} {D : va_G} {cA : Nat → ClassId} {ad0 : Nat → Nat} {n0 sz d mc ms : Nat} {P : PO} (hM : FM p l s m args meth c D cA 2 ad0 n0 sz cX9_quotientUp RX9 (some .int) [] yX9_quotientUp.name) : ∀ q ∈ tX9_quotientUp d mc ms P, Snd (jM p l e s m args below meth c D cA 2 ad0 n0 sz (d + 1) mc ms P) q.1 q.2 := by
  have hF := hM.1
  have hts := hF.2.2.2.2.1
  unfold tX9_quotientUp
  refine fmS (snd_iloadn hF (k := 1) rfl (by decide +kernel)) ?_
  refine fmS (snd_iconst hF (n := 1) rfl (by decide +kernel)) ?_
  refine fmS (snd_icmp_ge hF (off := 7) (by decide) (by decide +kernel)) ?_
  refine fmS (snd_iconst hF (n := 0) rfl (by decide +kernel)) ?_
  refine fmS (snd_goto hF (off := 10) (by decide) (by decide +kernel)) ?_
  refine fmS (snd_iloadn hF (k := 0) rfl (by decide +kernel)) ?_
  refine fmS (snd_iloadn hF (k := 1) rfl (by decide +kernel)) ?_
  refine fmS (snd_iadd hF (by decide +kernel)) ?_
  refine fmS (snd_iconst hF (n := 1) rfl (by decide +kernel)) ?_
  refine fmS (snd_isub hF (by decide +kernel)) ?_
  refine fmS (snd_iloadn hF (k := 1) rfl (by decide +kernel)) ?_
  refine fmS (snd_idiv hF (by decide +kernel)) ?_
  refine fmS (snd_retI hM (by decide +kernel)) ?_
  exact fmE
theorem iX9_quotientUp {d mc ms n : Nat} {av : List Value} {M : PM} {P : PO} (hw : wid av ≤ 2) (hb : ∀ J : KT, (∀ (k : Nat) (stops : Nat → Bool) (pc : Nat) (lv : LV) (st : List Value) (nn : NN) (M : PM), lk (tX9_quotientUp d mc ms P) pc (wpN (tX9_quotientUp d mc ms P) stops k J) lv st nn M → J pc lv st nn M) → J 0 (entA 0 av) [] (n, 0, 0) M) : CallOK (d + 1) mc ms yX9_quotientUp (Cond.code yX9_quotientUp cX9_quotientUp 2 (some .int)) av n M P := call_intro (own := RX9) (by decide) rfl hw (fun _ _ _ _ _ _ _ _ _ _ _ _ _ hM => sX9_quotientUp hM) hb
def tX9_isStart (d mc ms : Nat) (P : PO) : List (Nat × OP) := [(0, oIld 0 1), (1, oPush (.int 100) 3), (3, oIc (fun x y => x < y) 16 6), (6, oIld 0 7), (7, oPush (.int 108) 9), (9, oIc (fun x y => y ≤ x) 16 12), (12, oPush (.int 1) 13), (13, oGoto 17), (16, oPush (.int 0) 17), (17, oRetZ mc ms P)]
set_option maxRecDepth 20000 in
theorem sX9_isStart {p : Program} {l : Launch} {e : Env} {s : State} {m : MethodId} {args : Array Value} {below : List Frame} {meth : Method} {c : Code} {D : va_G} {cA : Nat → ClassId} {ad0 : Nat → Nat} {n0 sz d mc ms : Nat} {P : PO} (hM : FM p l s m args meth c D cA 1 ad0 n0 sz cX9_isStart RX9 (some .boolean) [] yX9_isStart.name) : ∀ q ∈ tX9_isStart d mc ms P, Snd (jM p l e s m args below meth c D cA 1 ad0 n0 sz (d + 1) mc ms P) q.1 q.2 := by
  have hF := hM.1
  have hts := hF.2.2.2.2.1
  unfold tX9_isStart
  refine fmS (snd_iloadn hF (k := 0) rfl (by decide +kernel)) ?_
  refine fmS (snd_bipush hF (n := 100) (by decide +kernel) (by decide +kernel)) ?_
  refine fmS (snd_icmp_lt hF (off := 13) (by decide) (by decide +kernel)) ?_
  refine fmS (snd_iloadn hF (k := 0) rfl (by decide +kernel)) ?_
  refine fmS (snd_bipush hF (n := 108) (by decide +kernel) (by decide +kernel)) ?_
  refine fmS (snd_icmp_ge hF (off := 7) (by decide) (by decide +kernel)) ?_
  refine fmS (snd_iconst hF (n := 1) rfl (by decide +kernel)) ?_
  refine fmS (snd_goto hF (off := 4) (by decide) (by decide +kernel)) ?_
  refine fmS (snd_iconst hF (n := 0) rfl (by decide +kernel)) ?_
  refine fmS (snd_retZ hM (by decide +kernel)) ?_
  exact fmE
theorem iX9_isStart {d mc ms n : Nat} {av : List Value} {M : PM} {P : PO} (hw : wid av ≤ 1) (hb : ∀ J : KT, (∀ (k : Nat) (stops : Nat → Bool) (pc : Nat) (lv : LV) (st : List Value) (nn : NN) (M : PM), lk (tX9_isStart d mc ms P) pc (wpN (tX9_isStart d mc ms P) stops k J) lv st nn M → J pc lv st nn M) → J 0 (entA 0 av) [] (n, 0, 0) M) : CallOK (d + 1) mc ms yX9_isStart (Cond.code yX9_isStart cX9_isStart 1 (some .boolean)) av n M P := call_intro (own := RX9) (by decide) rfl hw (fun _ _ _ _ _ _ _ _ _ _ _ _ _ hM => sX9_isStart hM) hb
def tX9_operandsOf (d mc ms : Nat) (P : PO) : List (Nat × OP) := [(0, oIld 0 1), (1, oPush (.int 300) 4), (4, oIc (fun x y => y ≤ x) 9 7), (7, oPush (.int 0) 8), (8, oRetI mc ms P), (9, oIld 0 10), (10, oPush (.int 308) 13), (13, oIc (fun x y => x = y) 16 20), (16, oPush (.int 3) 17), (17, oGoto 21), (20, oPush (.int 2) 21), (21, oRetI mc ms P)]
set_option maxRecDepth 20000 in
theorem sX9_operandsOf {p : Program} {l : Launch} {e : Env} {s : State} {m : MethodId} {args : Array Value} {below : List Frame} {meth : Method} {c : Code} {D : va_G} {cA : Nat → ClassId} {ad0 : Nat → Nat} {n0 sz d mc ms : Nat} {P : PO} (hM : FM p l s m args meth c D cA 1 ad0 n0 sz cX9_operandsOf RX9 (some .int) [] yX9_operandsOf.name) : ∀ q ∈ tX9_operandsOf d mc ms P, Snd (jM p l e s m args below meth c D cA 1 ad0 n0 sz (d + 1) mc ms P) q.1 q.2 := by
  have hF := hM.1
  have hts := hF.2.2.2.2.1
  unfold tX9_operandsOf
  refine fmS (snd_iloadn hF (k := 0) rfl (by decide +kernel)) ?_
  refine fmS (snd_sipush hF (n := 300) (by decide +kernel) (by decide +kernel)) ?_
  refine fmS (snd_icmp_ge hF (off := 5) (by decide) (by decide +kernel)) ?_
  refine fmS (snd_iconst hF (n := 0) rfl (by decide +kernel)) ?_
  refine fmS (snd_retI hM (by decide +kernel)) ?_
  refine fmS (snd_iloadn hF (k := 0) rfl (by decide +kernel)) ?_
  refine fmS (snd_sipush hF (n := 308) (by decide +kernel) (by decide +kernel)) ?_
  refine fmS (snd_icmp_ne hF (off := 7) (by decide) (by decide +kernel)) ?_
  refine fmS (snd_iconst hF (n := 3) rfl (by decide +kernel)) ?_
  refine fmS (snd_goto hF (off := 4) (by decide) (by decide +kernel)) ?_
  refine fmS (snd_iconst hF (n := 2) rfl (by decide +kernel)) ?_
  refine fmS (snd_retI hM (by decide +kernel)) ?_
  exact fmE
theorem iX9_operandsOf {d mc ms n : Nat} {av : List Value} {M : PM} {P : PO} (hw : wid av ≤ 1) (hb : ∀ J : KT, (∀ (k : Nat) (stops : Nat → Bool) (pc : Nat) (lv : LV) (st : List Value) (nn : NN) (M : PM), lk (tX9_operandsOf d mc ms P) pc (wpN (tX9_operandsOf d mc ms P) stops k J) lv st nn M → J pc lv st nn M) → J 0 (entA 0 av) [] (n, 0, 0) M) : CallOK (d + 1) mc ms yX9_operandsOf (Cond.code yX9_operandsOf cX9_operandsOf 1 (some .int)) av n M P := call_intro (own := RX9) (by decide) rfl hw (fun _ _ _ _ _ _ _ _ _ _ _ _ _ hM => sX9_operandsOf hM) hb
