def tX7_addSign (d mc ms : Nat) (P : PO) : List (Nat × OP) := [(0, oAld 0 1), (1, oGi 7 1 4), (4, oPush (.int 100) 6), (6, oIc (fun x y => y ≤ x) 29 9), (9, oAld 0 10), (10, oGr 7 0 13), (13, oAld 0 14), (14, oGi 7 1 17), (17, oIld 1 18), (18, oSi 102 (fun x => vp_nar .char x) 19), (19, oAld 0 20), (20, oDup 21), (21, oGi 7 1 24), (24, oPush (.int 1) 25), (25, oI2 (fun x y => x + y) 26), (26, oPi 7 1 29), (29, oRetV mc ms P)]
set_option maxRecDepth 20000 in
theorem sX7_addSign {p : Program} {l : Launch} {e : Env} {s : State} {m : MethodId} {args : Array Value} {below : List Frame} {meth : Method} {c : Code} {D : va_G} {cA : Nat → ClassId} {ad0 : Nat → Nat} {n0 sz d mc ms : Nat} {P : PO} (hM : FM p l s m args meth c D cA 2 ad0 n0 sz cX7_addSign RX7 none [] yX7_addSign.name) : ∀ q ∈ tX7_addSign d mc ms P, Snd (jM p l e s m args below meth c D cA 2 ad0 n0 sz (d + 1) mc ms P) q.1 q.2 := by
  have hF := hM.1
  have hts := hF.2.2.2.2.1
  unfold tX7_addSign
  refine fmS (snd_aloadn hF (k := 0) rfl (by decide +kernel)) ?_
  refine fmS (snd_geti hF okX7 (k := 1) (by decide) qw115 rfl rfl (by decide +kernel)) ?_
  refine fmS (snd_bipush hF (n := 100) (by decide +kernel) (by decide +kernel)) ?_
  refine fmS (snd_icmp_ge hF (off := 23) (by decide) (by decide +kernel)) ?_
  refine fmS (snd_aloadn hF (k := 0) rfl (by decide +kernel)) ?_
  refine fmS (snd_getr hF okX7 (k := 0) (by decide) qw114 rfl rfl (by decide +kernel)) ?_
  refine fmS (snd_aloadn hF (k := 0) rfl (by decide +kernel)) ?_
  refine fmS (snd_geti hF okX7 (k := 1) (by decide) qw115 rfl rfl (by decide +kernel)) ?_
  refine fmS (snd_iloadn hF (k := 1) rfl (by decide +kernel)) ?_
  refine fmS (snd_castore hF (by decide +kernel)) ?_
  refine fmS (snd_aloadn hF (k := 0) rfl (by decide +kernel)) ?_
  refine fmS (snd_dup hF (by decide +kernel)) ?_
  refine fmS (snd_geti hF okX7 (k := 1) (by decide) qw115 rfl rfl (by decide +kernel)) ?_
  refine fmS (snd_iconst hF (n := 1) rfl (by decide +kernel)) ?_
  refine fmS (snd_iadd hF (by decide +kernel)) ?_
  refine fmS (snd_puti hF okX7 (k := 1) (by decide) qw115 rfl rfl rfl rfl (by decide +kernel)) ?_
  refine fmS (snd_retV hM (by decide +kernel)) ?_
  exact fmE
theorem iX7_addSign {d mc ms n : Nat} {av : List Value} {M : PM} {P : PO} (hw : wid av ≤ 2) (hb : ∀ J : KT, (∀ (k : Nat) (stops : Nat → Bool) (pc : Nat) (lv : LV) (st : List Value) (nn : NN) (M : PM), lk (tX7_addSign d mc ms P) pc (wpN (tX7_addSign d mc ms P) stops k J) lv st nn M → J pc lv st nn M) → J 0 (entA 0 av) [] (n, 0, 0) M) : CallOK (d + 1) mc ms yX7_addSign (Cond.code yX7_addSign cX7_addSign 2 none) av n M P := call_intro (own := RX7) (by decide) rfl hw (fun _ _ _ _ _ _ _ _ _ _ _ _ _ hM => sX7_addSign hM) hb
def tX7_readText (d mc ms : Nat) (P : PO) : List (Nat × OP) := [(0, oAld 0 1), (1, oPush (.int 0) 2), (2, oPi 7 2 5), (5, oAld 0 6), (6, oPush (.int 0) 7), (7, oPi 7 4 10), (10, oAld 0 11), (11, oPush (.int 0) 12), (12, oPi 7 7 15), (15, oPush (.int 0) 16), (16, oIst 1 17), (17, oIld 1 18), (18, oPush (.int 100) 20), (20, oIc (fun x y => y ≤ x) 51 23), (23, oAld 0 24), (24, oCallV d mc ms P 0 0 yX7_readStatement (Cond.code yX7_readStatement cX7_readStatement 2 (some .boolean)) 0 7 27), (27, oIf (fun x => x = 0) 30 32), (30, oPush (.int 0) 31), (31, oRetZ mc ms P), (32, oAld 0 33), (33, oGi 7 2 36), (36, oAld 0 37), (37, oGi 7 1 40), (40, oIc (fun x y => x < y) 45 43), (43, oPush (.int 1) 44), (44, oRetZ mc ms P), (45, oInc 1 1 48), (48, oGoto 17), (51, oPush (.int 0) 52), (52, oRetZ mc ms P)]
set_option maxRecDepth 20000 in
theorem sX7_readText {p : Program} {l : Launch} {e : Env} {s : State} {m : MethodId} {args : Array Value} {below : List Frame} {meth : Method} {c : Code} {D : va_G} {cA : Nat → ClassId} {ad0 : Nat → Nat} {n0 sz d mc ms : Nat} {P : PO} (hM : FM p l s m args meth c D cA 2 ad0 n0 sz cX7_readText RX7 (some .boolean) [] yX7_readText.name) : ∀ q ∈ tX7_readText d mc ms P, Snd (jM p l e s m args below meth c D cA 2 ad0 n0 sz (d + 1) mc ms P) q.1 q.2 := by
  have hF := hM.1
  have hts := hF.2.2.2.2.1
  unfold tX7_readText
  refine fmS (snd_aloadn hF (k := 0) rfl (by decide +kernel)) ?_
  refine fmS (snd_iconst hF (n := 0) rfl (by decide +kernel)) ?_
  refine fmS (snd_puti hF okX7 (k := 2) (by decide) qw117 rfl rfl rfl rfl (by decide +kernel)) ?_
  refine fmS (snd_aloadn hF (k := 0) rfl (by decide +kernel)) ?_
  refine fmS (snd_iconst hF (n := 0) rfl (by decide +kernel)) ?_
  refine fmS (snd_puti hF okX7 (k := 4) (by decide) qw121 rfl rfl rfl rfl (by decide +kernel)) ?_
  refine fmS (snd_aloadn hF (k := 0) rfl (by decide +kernel)) ?_
  refine fmS (snd_iconst hF (n := 0) rfl (by decide +kernel)) ?_
  refine fmS (snd_puti hF okX7 (k := 7) (by decide) qw127 rfl rfl rfl rfl (by decide +kernel)) ?_
  refine fmS (snd_iconst hF (n := 0) rfl (by decide +kernel)) ?_
  refine fmS (snd_istoren hF (k := 1) rfl (by decide) (by decide +kernel)) ?_
  refine fmS (snd_iloadn hF (k := 1) rfl (by decide +kernel)) ?_
  refine fmS (snd_bipush hF (n := 100) (by decide +kernel) (by decide +kernel)) ?_
  refine fmS (snd_icmp_ge hF (off := 31) (by decide) (by decide +kernel)) ?_
  refine fmS (snd_aloadn hF (k := 0) rfl (by decide +kernel)) ?_
  refine fmS (snd_callV hM k_X7_readStatement okX7 qw517 qw519 (hts _ qw5) (by decide +kernel)) ?_
  refine fmS (snd_if_ne hF (off := 5) (by decide) (by decide +kernel)) ?_
  refine fmS (snd_iconst hF (n := 0) rfl (by decide +kernel)) ?_
  refine fmS (snd_retZ hM (by decide +kernel)) ?_
  refine fmS (snd_aloadn hF (k := 0) rfl (by decide +kernel)) ?_
  refine fmS (snd_geti hF okX7 (k := 2) (by decide) qw117 rfl rfl (by decide +kernel)) ?_
  refine fmS (snd_aloadn hF (k := 0) rfl (by decide +kernel)) ?_
  refine fmS (snd_geti hF okX7 (k := 1) (by decide) qw115 rfl rfl (by decide +kernel)) ?_
  refine fmS (snd_icmp_lt hF (off := 5) (by decide) (by decide +kernel)) ?_
  refine fmS (snd_iconst hF (n := 1) rfl (by decide +kernel)) ?_
  refine fmS (snd_retZ hM (by decide +kernel)) ?_
  refine fmS (snd_iinc hF (n := 1) (by decide +kernel) (by decide) (by decide +kernel)) ?_
  refine fmS (snd_goto hF (off := (-31)) (by decide) (by decide +kernel)) ?_
  refine fmS (snd_iconst hF (n := 0) rfl (by decide +kernel)) ?_
  refine fmS (snd_retZ hM (by decide +kernel)) ?_
  exact fmE
theorem iX7_readText {d mc ms n : Nat} {av : List Value} {M : PM} {P : PO} (hw : wid av ≤ 2) (hb : ∀ J : KT, (∀ (k : Nat) (stops : Nat → Bool) (pc : Nat) (lv : LV) (st : List Value) (nn : NN) (M : PM), lk (tX7_readText d mc ms P) pc (wpN (tX7_readText d mc ms P) stops k J) lv st nn M → J pc lv st nn M) → J 0 (entA 0 av) [] (n, 0, 0) M) : CallOK (d + 1) mc ms yX7_readText (Cond.code yX7_readText cX7_readText 2 (some .boolean)) av n M P := call_intro (own := RX7) (by decide) rfl hw (fun _ _ _ _ _ _ _ _ _ _ _ _ _ hM => sX7_readText hM) hb
def tX7_readStatement (d mc ms : Nat) (P : PO) : List (Nat × OP) := [(0, oAld 0 1), (1, oCallV d mc ms P 0 0 yX7_peek (Cond.code yX7_peek cX7_peek 1 (some .char)) 0 7 4), (4, oIst 1 5), (5, oIld 1 6), (6, oCallS d mc ms P 0 0 yX7_isVariable (Cond.code yX7_isVariable cX7_isVariable 1 (some .boolean)) 1 9), (9, oIf (fun x => x = 0) 12 14), (12, oPush (.int 0) 13), (13, oRetZ mc ms P), (14, oAld 0 15), (15, oDup 16), (16, oGi 7 2 19), (19, oPush (.int 1) 20), (20, oI2 (fun x y => x + y) 21), (21, oPi 7 2 24), (24, oAld 0 25), (25, oPush (.int 61) 27), (27, oCallV d mc ms P 0 0 yX7_take (Cond.code yX7_take cX7_take 2 (some .boolean)) 1 7 30), (30, oIf (fun x => x = 0) 51 33), (33, oAld 0 34), (34, oPush (.int 0) 35), (35, oPush (.int 0) 36), (36, oCallV d mc ms P 0 0 yX7_readLevel (Cond.code yX7_readLevel cX7_readLevel 4 (some .boolean)) 2 7 39), (39, oIf (fun x => x = 0) 51 42), (42, oAld 0 43), (43, oPush (.int 59) 45), (45, oCallV d mc ms P 0 0 yX7_take (Cond.code yX7_take cX7_take 2 (some .boolean)) 1 7 48), (48, oIf (fun x => x = 0) 51 53), (51, oPush (.int 0) 52), (52, oRetZ mc ms P), (53, oAld 0 54), (54, oGi 7 7 57), (57, oPush (.int 100) 59), (59, oIc (fun x y => y ≤ x) 98 62), (62, oAld 0 63), (63, oGr 7 5 66), (66, oAld 0 67), (67, oGi 7 7 70), (70, oIld 1 71), (71, oPush (.int 115) 73), (73, oI2 (fun x y => x - y) 74), (74, oSi 100 (fun x => x) 75), (75, oAld 0 76), (76, oGr 7 6 79), (79, oAld 0 80), (80, oGi 7 7 83), (83, oAld 0 84), (84, oGi 7 4 87), (87, oSi 100 (fun x => x) 88), (88, oAld 0 89), (89, oDup 90), (90, oGi 7 7 93), (93, oPush (.int 1) 94), (94, oI2 (fun x y => x + y) 95), (95, oPi 7 7 98), (98, oPush (.int 1) 99), (99, oRetZ mc ms P)]
set_option maxRecDepth 20000 in
theorem sX7_readStatement {p : Program} {l : Launch} {e : Env} {s : State} {m : MethodId} {args : Array Value} {below : List Frame} {meth : Method} {c : Code} {D : va_G} {cA : Nat → ClassId} {ad0 : Nat → Nat} {n0 sz d mc ms : Nat} {P : PO} (hM : FM p l s m args meth c D cA 2 ad0 n0 sz cX7_readStatement RX7 (some .boolean) [] yX7_readStatement.name) : ∀ q ∈ tX7_readStatement d mc ms P, Snd (jM p l e s m args below meth c D cA 2 ad0 n0 sz (d + 1) mc ms P) q.1 q.2 := by
  have hF := hM.1
  have hts := hF.2.2.2.2.1
  unfold tX7_readStatement
  refine fmS (snd_aloadn hF (k := 0) rfl (by decide +kernel)) ?_
  refine fmS (snd_callV hM k_X7_peek okX7 qw521 qw523 (hts _ qw6) (by decide +kernel)) ?_
  refine fmS (snd_istoren hF (k := 1) rfl (by decide) (by decide +kernel)) ?_
  refine fmS (snd_iloadn hF (k := 1) rfl (by decide +kernel)) ?_
  refine fmS (snd_callS hM k_X7_isVariable qw525 qw526 (by decide +kernel)) ?_
  refine fmS (snd_if_ne hF (off := 5) (by decide) (by decide +kernel)) ?_
  refine fmS (snd_iconst hF (n := 0) rfl (by decide +kernel)) ?_
  refine fmS (snd_retZ hM (by decide +kernel)) ?_
  refine fmS (snd_aloadn hF (k := 0) rfl (by decide +kernel)) ?_
  refine fmS (snd_dup hF (by decide +kernel)) ?_
  refine fmS (snd_geti hF okX7 (k := 2) (by decide) qw117 rfl rfl (by decide +kernel)) ?_
  refine fmS (snd_iconst hF (n := 1) rfl (by decide +kernel)) ?_
  refine fmS (snd_iadd hF (by decide +kernel)) ?_
  refine fmS (snd_puti hF okX7 (k := 2) (by decide) qw117 rfl rfl rfl rfl (by decide +kernel)) ?_
  refine fmS (snd_aloadn hF (k := 0) rfl (by decide +kernel)) ?_
  refine fmS (snd_bipush hF (n := 61) (by decide +kernel) (by decide +kernel)) ?_
  refine fmS (snd_callV hM k_X7_take okX7 qw528 qw530 (hts _ qw7) (by decide +kernel)) ?_
  refine fmS (snd_if_eq hF (off := 21) (by decide) (by decide +kernel)) ?_
  refine fmS (snd_aloadn hF (k := 0) rfl (by decide +kernel)) ?_
  refine fmS (snd_iconst hF (n := 0) rfl (by decide +kernel)) ?_
  refine fmS (snd_iconst hF (n := 0) rfl (by decide +kernel)) ?_
  refine fmS (snd_callV hM k_X7_readLevel okX7 qw532 qw534 (hts _ qw8) (by decide +kernel)) ?_
  refine fmS (snd_if_eq hF (off := 12) (by decide) (by decide +kernel)) ?_
  refine fmS (snd_aloadn hF (k := 0) rfl (by decide +kernel)) ?_
  refine fmS (snd_bipush hF (n := 59) (by decide +kernel) (by decide +kernel)) ?_
  refine fmS (snd_callV hM k_X7_take okX7 qw528 qw530 (hts _ qw7) (by decide +kernel)) ?_
  refine fmS (snd_if_ne hF (off := 5) (by decide) (by decide +kernel)) ?_
  refine fmS (snd_iconst hF (n := 0) rfl (by decide +kernel)) ?_
  refine fmS (snd_retZ hM (by decide +kernel)) ?_
  refine fmS (snd_aloadn hF (k := 0) rfl (by decide +kernel)) ?_
  refine fmS (snd_geti hF okX7 (k := 7) (by decide) qw127 rfl rfl (by decide +kernel)) ?_
  refine fmS (snd_bipush hF (n := 100) (by decide +kernel) (by decide +kernel)) ?_
  refine fmS (snd_icmp_ge hF (off := 39) (by decide) (by decide +kernel)) ?_
  refine fmS (snd_aloadn hF (k := 0) rfl (by decide +kernel)) ?_
  refine fmS (snd_getr hF okX7 (k := 5) (by decide) qw123 rfl rfl (by decide +kernel)) ?_
  refine fmS (snd_aloadn hF (k := 0) rfl (by decide +kernel)) ?_
  refine fmS (snd_geti hF okX7 (k := 7) (by decide) qw127 rfl rfl (by decide +kernel)) ?_
  refine fmS (snd_iloadn hF (k := 1) rfl (by decide +kernel)) ?_
  refine fmS (snd_bipush hF (n := 115) (by decide +kernel) (by decide +kernel)) ?_
  refine fmS (snd_isub hF (by decide +kernel)) ?_
  refine fmS (snd_iastore hF (by decide +kernel)) ?_
  refine fmS (snd_aloadn hF (k := 0) rfl (by decide +kernel)) ?_
  refine fmS (snd_getr hF okX7 (k := 6) (by decide) qw125 rfl rfl (by decide +kernel)) ?_
  refine fmS (snd_aloadn hF (k := 0) rfl (by decide +kernel)) ?_
  refine fmS (snd_geti hF okX7 (k := 7) (by decide) qw127 rfl rfl (by decide +kernel)) ?_
  refine fmS (snd_aloadn hF (k := 0) rfl (by decide +kernel)) ?_
  refine fmS (snd_geti hF okX7 (k := 4) (by decide) qw121 rfl rfl (by decide +kernel)) ?_
  refine fmS (snd_iastore hF (by decide +kernel)) ?_
  refine fmS (snd_aloadn hF (k := 0) rfl (by decide +kernel)) ?_
  refine fmS (snd_dup hF (by decide +kernel)) ?_
  refine fmS (snd_geti hF okX7 (k := 7) (by decide) qw127 rfl rfl (by decide +kernel)) ?_
  refine fmS (snd_iconst hF (n := 1) rfl (by decide +kernel)) ?_
  refine fmS (snd_iadd hF (by decide +kernel)) ?_
  refine fmS (snd_puti hF okX7 (k := 7) (by decide) qw127 rfl rfl rfl rfl (by decide +kernel)) ?_
  refine fmS (snd_iconst hF (n := 1) rfl (by decide +kernel)) ?_
  refine fmS (snd_retZ hM (by decide +kernel)) ?_
  exact fmE
theorem iX7_readStatement {d mc ms n : Nat} {av : List Value} {M : PM} {P : PO} (hw : wid av ≤ 2) (hb : ∀ J : KT, (∀ (k : Nat) (stops : Nat → Bool) (pc : Nat) (lv : LV) (st : List Value) (nn : NN) (M : PM), lk (tX7_readStatement d mc ms P) pc (wpN (tX7_readStatement d mc ms P) stops k J) lv st nn M → J pc lv st nn M) → J 0 (entA 0 av) [] (n, 0, 0) M) : CallOK (d + 1) mc ms yX7_readStatement (Cond.code yX7_readStatement cX7_readStatement 2 (some .boolean)) av n M P := call_intro (own := RX7) (by decide) rfl hw (fun _ _ _ _ _ _ _ _ _ _ _ _ _ hM => sX7_readStatement hM) hb
def tX7_readLevel (d mc ms : Nat) (P : PO) : List (Nat × OP) := [(0, oIld 1 1), (1, oPush (.int 3) 2), (2, oIc (fun x y => x < y) 11 5), (5, oAld 0 6), (6, oIld 2 7), (7, oCallV d mc ms P 0 0 yX7_readFactor (Cond.code yX7_readFactor cX7_readFactor 4 (some .boolean)) 1 7 10), (10, oRetZ mc ms P), (11, oAld 0 12), (12, oGi 7 4 15), (15, oIst 3 16), (16, oAld 0 17), (17, oIld 1 18), (18, oPush (.int 1) 19), (19, oI2 (fun x y => x + y) 20), (20, oIld 2 21), (21, oCallV d mc ms P 0 0 yX7_readLevel (Cond.code yX7_readLevel cX7_readLevel 4 (some .boolean)) 2 7 24), (24, oIf (fun x => x = 0) 27 29), (27, oPush (.int 0) 28), (28, oRetZ mc ms P), (29, oAld 0 30), (30, oGi 7 2 33), (33, oAld 0 34), (34, oGi 7 1 37), (37, oIc (fun x y => y ≤ x) 99 40), (40, oAld 0 41), (41, oGr 7 0 44), (44, oAld 0 45), (45, oGi 7 2 48), (48, oAi 102 49), (49, oCallS d mc ms P 0 0 yX7_codeOf (Cond.code yX7_codeOf cX7_codeOf 1 (some .int)) 1 52), (52, oCallS d mc ms P 0 0 yX7_levelOf (Cond.code yX7_levelOf cX7_levelOf 1 (some .int)) 1 55), (55, oIld 1 56), (56, oIc (fun x y => x = y) 59 99), (59, oAld 0 60), (60, oIld 3 61), (61, oAld 0 62), (62, oGr 7 0 65), (65, oAld 0 66), (66, oGi 7 2 69), (69, oAi 102 70), (70, oCallS d mc ms P 0 0 yX7_codeOf (Cond.code yX7_codeOf cX7_codeOf 1 (some .int)) 1 73), (73, oCallV d mc ms P 0 0 yX7_insertCode (Cond.code yX7_insertCode cX7_insertCode 3 none) 2 7 76), (76, oAld 0 77), (77, oDup 78), (78, oGi 7 2 81), (81, oPush (.int 1) 82), (82, oI2 (fun x y => x + y) 83), (83, oPi 7 2 86), (86, oAld 0 87), (87, oIld 1 88), (88, oPush (.int 1) 89), (89, oI2 (fun x y => x + y) 90), (90, oIld 2 91), (91, oCallV d mc ms P 0 0 yX7_readLevel (Cond.code yX7_readLevel cX7_readLevel 4 (some .boolean)) 2 7 94), (94, oIf (fun x => x = 0) 97 29), (97, oPush (.int 0) 98), (98, oRetZ mc ms P), (99, oPush (.int 1) 100), (100, oRetZ mc ms P)]
set_option maxRecDepth 20000 in
theorem sX7_readLevel {p : Program} {l : Launch} {e : Env} {s : State} {m : MethodId} {args : Array Value} {below : List Frame} {meth : Method} {c : Code} {D : va_G} {cA : Nat → ClassId} {ad0 : Nat → Nat} {n0 sz d mc ms : Nat} {P : PO} (hM : FM p l s m args meth c D cA 4 ad0 n0 sz cX7_readLevel RX7 (some .boolean) [] yX7_readLevel.name) : ∀ q ∈ tX7_readLevel d mc ms P, Snd (jM p l e s m args below meth c D cA 4 ad0 n0 sz (d + 1) mc ms P) q.1 q.2 := by
  have hF := hM.1
  have hts := hF.2.2.2.2.1
  unfold tX7_readLevel
  refine fmS (snd_iloadn hF (k := 1) rfl (by decide +kernel)) ?_
  refine fmS (snd_iconst hF (n := 3) rfl (by decide +kernel)) ?_
  refine fmS (snd_icmp_lt hF (off := 9) (by decide) (by decide +kernel)) ?_
  refine fmS (snd_aloadn hF (k := 0) rfl (by decide +kernel)) ?_
  refine fmS (snd_iloadn hF (k := 2) rfl (by decide +kernel)) ?_
  refine fmS (snd_callV hM k_X7_readFactor okX7 qw536 qw538 (hts _ qw9) (by decide +kernel)) ?_
  refine fmS (snd_retZ hM (by decide +kernel)) ?_
  refine fmS (snd_aloadn hF (k := 0) rfl (by decide +kernel)) ?_
  refine fmS (snd_geti hF okX7 (k := 4) (by decide) qw121 rfl rfl (by decide +kernel)) ?_
  refine fmS (snd_istoren hF (k := 3) rfl (by decide) (by decide +kernel)) ?_
  refine fmS (snd_aloadn hF (k := 0) rfl (by decide +kernel)) ?_
  refine fmS (snd_iloadn hF (k := 1) rfl (by decide +kernel)) ?_
  refine fmS (snd_iconst hF (n := 1) rfl (by decide +kernel)) ?_
  refine fmS (snd_iadd hF (by decide +kernel)) ?_
  refine fmS (snd_iloadn hF (k := 2) rfl (by decide +kernel)) ?_
  refine fmS (snd_callV hM k_X7_readLevel okX7 qw532 qw534 (hts _ qw8) (by decide +kernel)) ?_
  refine fmS (snd_if_ne hF (off := 5) (by decide) (by decide +kernel)) ?_
  refine fmS (snd_iconst hF (n := 0) rfl (by decide +kernel)) ?_
  refine fmS (snd_retZ hM (by decide +kernel)) ?_
  refine fmS (snd_aloadn hF (k := 0) rfl (by decide +kernel)) ?_
  refine fmS (snd_geti hF okX7 (k := 2) (by decide) qw117 rfl rfl (by decide +kernel)) ?_
  refine fmS (snd_aloadn hF (k := 0) rfl (by decide +kernel)) ?_
  refine fmS (snd_geti hF okX7 (k := 1) (by decide) qw115 rfl rfl (by decide +kernel)) ?_
  refine fmS (snd_icmp_ge hF (off := 62) (by decide) (by decide +kernel)) ?_
  refine fmS (snd_aloadn hF (k := 0) rfl (by decide +kernel)) ?_
  refine fmS (snd_getr hF okX7 (k := 0) (by decide) qw114 rfl rfl (by decide +kernel)) ?_
  refine fmS (snd_aloadn hF (k := 0) rfl (by decide +kernel)) ?_
  refine fmS (snd_geti hF okX7 (k := 2) (by decide) qw117 rfl rfl (by decide +kernel)) ?_
  refine fmS (snd_caload hF (by decide +kernel)) ?_
  refine fmS (snd_callS hM k_X7_codeOf qw562 qw563 (by decide +kernel)) ?_
  refine fmS (snd_callS hM k_X7_levelOf qw565 qw566 (by decide +kernel)) ?_
  refine fmS (snd_iloadn hF (k := 1) rfl (by decide +kernel)) ?_
  refine fmS (snd_icmp_ne hF (off := 43) (by decide) (by decide +kernel)) ?_
  refine fmS (snd_aloadn hF (k := 0) rfl (by decide +kernel)) ?_
  refine fmS (snd_iloadn hF (k := 3) rfl (by decide +kernel)) ?_
  refine fmS (snd_aloadn hF (k := 0) rfl (by decide +kernel)) ?_
  refine fmS (snd_getr hF okX7 (k := 0) (by decide) qw114 rfl rfl (by decide +kernel)) ?_
  refine fmS (snd_aloadn hF (k := 0) rfl (by decide +kernel)) ?_
  refine fmS (snd_geti hF okX7 (k := 2) (by decide) qw117 rfl rfl (by decide +kernel)) ?_
  refine fmS (snd_caload hF (by decide +kernel)) ?_
  refine fmS (snd_callS hM k_X7_codeOf qw562 qw563 (by decide +kernel)) ?_
  refine fmS (snd_callV hM k_X7_insertCode okX7 qw568 qw570 (hts _ qw14) (by decide +kernel)) ?_
  refine fmS (snd_aloadn hF (k := 0) rfl (by decide +kernel)) ?_
  refine fmS (snd_dup hF (by decide +kernel)) ?_
  refine fmS (snd_geti hF okX7 (k := 2) (by decide) qw117 rfl rfl (by decide +kernel)) ?_
  refine fmS (snd_iconst hF (n := 1) rfl (by decide +kernel)) ?_
  refine fmS (snd_iadd hF (by decide +kernel)) ?_
  refine fmS (snd_puti hF okX7 (k := 2) (by decide) qw117 rfl rfl rfl rfl (by decide +kernel)) ?_
  refine fmS (snd_aloadn hF (k := 0) rfl (by decide +kernel)) ?_
  refine fmS (snd_iloadn hF (k := 1) rfl (by decide +kernel)) ?_
  refine fmS (snd_iconst hF (n := 1) rfl (by decide +kernel)) ?_
  refine fmS (snd_iadd hF (by decide +kernel)) ?_
  refine fmS (snd_iloadn hF (k := 2) rfl (by decide +kernel)) ?_
  refine fmS (snd_callV hM k_X7_readLevel okX7 qw532 qw534 (hts _ qw8) (by decide +kernel)) ?_
  refine fmS (snd_if_ne hF (off := (-65)) (by decide) (by decide +kernel)) ?_
  refine fmS (snd_iconst hF (n := 0) rfl (by decide +kernel)) ?_
  refine fmS (snd_retZ hM (by decide +kernel)) ?_
  refine fmS (snd_iconst hF (n := 1) rfl (by decide +kernel)) ?_
  refine fmS (snd_retZ hM (by decide +kernel)) ?_
  exact fmE
theorem iX7_readLevel {d mc ms n : Nat} {av : List Value} {M : PM} {P : PO} (hw : wid av ≤ 4) (hb : ∀ J : KT, (∀ (k : Nat) (stops : Nat → Bool) (pc : Nat) (lv : LV) (st : List Value) (nn : NN) (M : PM), lk (tX7_readLevel d mc ms P) pc (wpN (tX7_readLevel d mc ms P) stops k J) lv st nn M → J pc lv st nn M) → J 0 (entA 0 av) [] (n, 0, 0) M) : CallOK (d + 1) mc ms yX7_readLevel (Cond.code yX7_readLevel cX7_readLevel 4 (some .boolean)) av n M P := call_intro (own := RX7) (by decide) rfl hw (fun _ _ _ _ _ _ _ _ _ _ _ _ _ hM => sX7_readLevel hM) hb
def tX7_readFactor (d mc ms : Nat) (P : PO) : List (Nat × OP) := [(0, oAld 0 1), (1, oCallV d mc ms P 0 0 yX7_peek (Cond.code yX7_peek cX7_peek 1 (some .char)) 0 7 4), (4, oIst 2 5), (5, oIld 2 6), (6, oCallS d mc ms P 0 0 yX7_isDigit (Cond.code yX7_isDigit cX7_isDigit 1 (some .boolean)) 1 9), (9, oIf (fun x => x = 0) 17 12), (12, oAld 0 13), (13, oCallV d mc ms P 0 0 yX7_readNumber (Cond.code yX7_readNumber cX7_readNumber 3 (some .boolean)) 0 7 16), (16, oRetZ mc ms P), (17, oIld 2 18), (18, oCallS d mc ms P 0 0 yX7_isVariable (Cond.code yX7_isVariable cX7_isVariable 1 (some .boolean)) 1 21), (21, oIf (fun x => x = 0) 47 24), (24, oAld 0 25), (25, oDup 26), (26, oGi 7 2 29), (29, oPush (.int 1) 30), (30, oI2 (fun x y => x + y) 31), (31, oPi 7 2 34), (34, oAld 0 35), (35, oPush (.int 100) 37), (37, oIld 2 38), (38, oI2 (fun x y => x + y) 39), (39, oPush (.int 115) 41), (41, oI2 (fun x y => x - y) 42), (42, oCallV d mc ms P 0 0 yX7_addCode (Cond.code yX7_addCode cX7_addCode 2 none) 1 7 45), (45, oPush (.int 1) 46), (46, oRetZ mc ms P), (47, oIld 2 48), (48, oPush (.int 97) 50), (50, oIc (fun x y => x < y) 114 53), (53, oIld 2 54), (54, oPush (.int 99) 56), (56, oIc (fun x y => y < x) 114 59), (59, oAld 0 60), (60, oDup 61), (61, oGi 7 2 64), (64, oPush (.int 1) 65), (65, oI2 (fun x y => x + y) 66), (66, oPi 7 2 69), (69, oAld 0 70), (70, oPush (.int 200) 73), (73, oIld 2 74), (74, oI2 (fun x y => x + y) 75), (75, oPush (.int 97) 77), (77, oI2 (fun x y => x - y) 78), (78, oCallV d mc ms P 0 0 yX7_addCode (Cond.code yX7_addCode cX7_addCode 2 none) 1 7 81), (81, oAld 0 82), (82, oPush (.int 91) 84), (84, oCallV d mc ms P 0 0 yX7_take (Cond.code yX7_take cX7_take 2 (some .boolean)) 1 7 87), (87, oIf (fun x => x = 0) 112 90), (90, oAld 0 91), (91, oPush (.int 105) 93), (93, oCallV d mc ms P 0 0 yX7_take (Cond.code yX7_take cX7_take 2 (some .boolean)) 1 7 96), (96, oIf (fun x => x = 0) 112 99), (99, oAld 0 100), (100, oPush (.int 93) 102), (102, oCallV d mc ms P 0 0 yX7_take (Cond.code yX7_take cX7_take 2 (some .boolean)) 1 7 105), (105, oIf (fun x => x = 0) 112 108), (108, oPush (.int 1) 109), (109, oGoto 113), (112, oPush (.int 0) 113), (113, oRetZ mc ms P), (114, oIld 2 115), (115, oPush (.int 40) 117), (117, oIc (fun x y => x = y) 120 160), (120, oIld 1 121), (121, oPush (.int 4) 122), (122, oIc (fun x y => y ≤ x) 158 125), (125, oAld 0 126), (126, oPush (.int 40) 128), (128, oCallV d mc ms P 0 0 yX7_take (Cond.code yX7_take cX7_take 2 (some .boolean)) 1 7 131), (131, oIf (fun x => x = 0) 158 134), (134, oAld 0 135), (135, oPush (.int 0) 136), (136, oIld 1 137), (137, oPush (.int 1) 138), (138, oI2 (fun x y => x + y) 139), (139, oCallV d mc ms P 0 0 yX7_readLevel (Cond.code yX7_readLevel cX7_readLevel 4 (some .boolean)) 2 7 142), (142, oIf (fun x => x = 0) 158 145), (145, oAld 0 146), (146, oPush (.int 41) 148), (148, oCallV d mc ms P 0 0 yX7_take (Cond.code yX7_take cX7_take 2 (some .boolean)) 1 7 151), (151, oIf (fun x => x = 0) 158 154), (154, oPush (.int 1) 155), (155, oGoto 159), (158, oPush (.int 0) 159), (159, oRetZ mc ms P), (160, oAld 0 161), (161, oCallV d mc ms P 0 0 yX7_readName (Cond.code yX7_readName cX7_readName 1 (some .int)) 0 7 164), (164, oIst 3 165), (165, oIld 3 166), (166, oPush (.int (-1)) 167), (167, oIc (fun x y => x = y) 183 170), (170, oAld 0 171), (171, oIld 3 172), (172, oIld 1 173), (173, oCallV d mc ms P 0 0 yX7_readFunction (Cond.code yX7_readFunction cX7_readFunction 5 (some .boolean)) 2 7 176), (176, oIf (fun x => x = 0) 183 179), (179, oPush (.int 1) 180), (180, oGoto 184), (183, oPush (.int 0) 184), (184, oRetZ mc ms P)]
set_option maxRecDepth 20000 in
theorem sX7_readFactor {p : Program} {l : Launch} {e : Env} {s : State} {m : MethodId} {args : Array Value} {below : List Frame} {meth : Method} {c : Code} {D : va_G} {cA : Nat → ClassId} {ad0 : Nat → Nat} {n0 sz d mc ms : Nat} {P : PO} (hM : FM p l s m args meth c D cA 4 ad0 n0 sz cX7_readFactor RX7 (some .boolean) [] yX7_readFactor.name) : ∀ q ∈ tX7_readFactor d mc ms P, Snd (jM p l e s m args below meth c D cA 4 ad0 n0 sz (d + 1) mc ms P) q.1 q.2 := by
  have hF := hM.1
  have hts := hF.2.2.2.2.1
  unfold tX7_readFactor
  refine fmS (snd_aloadn hF (k := 0) rfl (by decide +kernel)) ?_
  refine fmS (snd_callV hM k_X7_peek okX7 qw521 qw523 (hts _ qw6) (by decide +kernel)) ?_
  refine fmS (snd_istoren hF (k := 2) rfl (by decide) (by decide +kernel)) ?_
  refine fmS (snd_iloadn hF (k := 2) rfl (by decide +kernel)) ?_
  refine fmS (snd_callS hM k_X7_isDigit qw540 qw541 (by decide +kernel)) ?_
  refine fmS (snd_if_eq hF (off := 8) (by decide) (by decide +kernel)) ?_
  refine fmS (snd_aloadn hF (k := 0) rfl (by decide +kernel)) ?_
  refine fmS (snd_callV hM k_X7_readNumber okX7 qw543 qw545 (hts _ qw10) (by decide +kernel)) ?_
  refine fmS (snd_retZ hM (by decide +kernel)) ?_
  refine fmS (snd_iloadn hF (k := 2) rfl (by decide +kernel)) ?_
  refine fmS (snd_callS hM k_X7_isVariable qw525 qw526 (by decide +kernel)) ?_
  refine fmS (snd_if_eq hF (off := 26) (by decide) (by decide +kernel)) ?_
  refine fmS (snd_aloadn hF (k := 0) rfl (by decide +kernel)) ?_
  refine fmS (snd_dup hF (by decide +kernel)) ?_
  refine fmS (snd_geti hF okX7 (k := 2) (by decide) qw117 rfl rfl (by decide +kernel)) ?_
  refine fmS (snd_iconst hF (n := 1) rfl (by decide +kernel)) ?_
  refine fmS (snd_iadd hF (by decide +kernel)) ?_
  refine fmS (snd_puti hF okX7 (k := 2) (by decide) qw117 rfl rfl rfl rfl (by decide +kernel)) ?_
  refine fmS (snd_aloadn hF (k := 0) rfl (by decide +kernel)) ?_
  refine fmS (snd_bipush hF (n := 100) (by decide +kernel) (by decide +kernel)) ?_
  refine fmS (snd_iloadn hF (k := 2) rfl (by decide +kernel)) ?_
  refine fmS (snd_iadd hF (by decide +kernel)) ?_
  refine fmS (snd_bipush hF (n := 115) (by decide +kernel) (by decide +kernel)) ?_
  refine fmS (snd_isub hF (by decide +kernel)) ?_
  refine fmS (snd_callV hM k_X7_addCode okX7 qw547 qw549 (hts _ qw11) (by decide +kernel)) ?_
  refine fmS (snd_iconst hF (n := 1) rfl (by decide +kernel)) ?_
  refine fmS (snd_retZ hM (by decide +kernel)) ?_
  refine fmS (snd_iloadn hF (k := 2) rfl (by decide +kernel)) ?_
  refine fmS (snd_bipush hF (n := 97) (by decide +kernel) (by decide +kernel)) ?_
  refine fmS (snd_icmp_lt hF (off := 64) (by decide) (by decide +kernel)) ?_
  refine fmS (snd_iloadn hF (k := 2) rfl (by decide +kernel)) ?_
  refine fmS (snd_bipush hF (n := 99) (by decide +kernel) (by decide +kernel)) ?_
  refine fmS (snd_icmp_gt hF (off := 58) (by decide) (by decide +kernel)) ?_
  refine fmS (snd_aloadn hF (k := 0) rfl (by decide +kernel)) ?_
  refine fmS (snd_dup hF (by decide +kernel)) ?_
  refine fmS (snd_geti hF okX7 (k := 2) (by decide) qw117 rfl rfl (by decide +kernel)) ?_
  refine fmS (snd_iconst hF (n := 1) rfl (by decide +kernel)) ?_
  refine fmS (snd_iadd hF (by decide +kernel)) ?_
  refine fmS (snd_puti hF okX7 (k := 2) (by decide) qw117 rfl rfl rfl rfl (by decide +kernel)) ?_
  refine fmS (snd_aloadn hF (k := 0) rfl (by decide +kernel)) ?_
  refine fmS (snd_sipush hF (n := 200) (by decide +kernel) (by decide +kernel)) ?_
  refine fmS (snd_iloadn hF (k := 2) rfl (by decide +kernel)) ?_
  refine fmS (snd_iadd hF (by decide +kernel)) ?_
  refine fmS (snd_bipush hF (n := 97) (by decide +kernel) (by decide +kernel)) ?_
  refine fmS (snd_isub hF (by decide +kernel)) ?_
  refine fmS (snd_callV hM k_X7_addCode okX7 qw547 qw549 (hts _ qw11) (by decide +kernel)) ?_
  refine fmS (snd_aloadn hF (k := 0) rfl (by decide +kernel)) ?_
  refine fmS (snd_bipush hF (n := 91) (by decide +kernel) (by decide +kernel)) ?_
  refine fmS (snd_callV hM k_X7_take okX7 qw528 qw530 (hts _ qw7) (by decide +kernel)) ?_
  refine fmS (snd_if_eq hF (off := 25) (by decide) (by decide +kernel)) ?_
  refine fmS (snd_aloadn hF (k := 0) rfl (by decide +kernel)) ?_
  refine fmS (snd_bipush hF (n := 105) (by decide +kernel) (by decide +kernel)) ?_
  refine fmS (snd_callV hM k_X7_take okX7 qw528 qw530 (hts _ qw7) (by decide +kernel)) ?_
  refine fmS (snd_if_eq hF (off := 16) (by decide) (by decide +kernel)) ?_
  refine fmS (snd_aloadn hF (k := 0) rfl (by decide +kernel)) ?_
  refine fmS (snd_bipush hF (n := 93) (by decide +kernel) (by decide +kernel)) ?_
  refine fmS (snd_callV hM k_X7_take okX7 qw528 qw530 (hts _ qw7) (by decide +kernel)) ?_
  refine fmS (snd_if_eq hF (off := 7) (by decide) (by decide +kernel)) ?_
  refine fmS (snd_iconst hF (n := 1) rfl (by decide +kernel)) ?_
  refine fmS (snd_goto hF (off := 4) (by decide) (by decide +kernel)) ?_
  refine fmS (snd_iconst hF (n := 0) rfl (by decide +kernel)) ?_
  refine fmS (snd_retZ hM (by decide +kernel)) ?_
  refine fmS (snd_iloadn hF (k := 2) rfl (by decide +kernel)) ?_
  refine fmS (snd_bipush hF (n := 40) (by decide +kernel) (by decide +kernel)) ?_
  refine fmS (snd_icmp_ne hF (off := 43) (by decide) (by decide +kernel)) ?_
  refine fmS (snd_iloadn hF (k := 1) rfl (by decide +kernel)) ?_
  refine fmS (snd_iconst hF (n := 4) rfl (by decide +kernel)) ?_
  refine fmS (snd_icmp_ge hF (off := 36) (by decide) (by decide +kernel)) ?_
  refine fmS (snd_aloadn hF (k := 0) rfl (by decide +kernel)) ?_
  refine fmS (snd_bipush hF (n := 40) (by decide +kernel) (by decide +kernel)) ?_
  refine fmS (snd_callV hM k_X7_take okX7 qw528 qw530 (hts _ qw7) (by decide +kernel)) ?_
  refine fmS (snd_if_eq hF (off := 27) (by decide) (by decide +kernel)) ?_
  refine fmS (snd_aloadn hF (k := 0) rfl (by decide +kernel)) ?_
  refine fmS (snd_iconst hF (n := 0) rfl (by decide +kernel)) ?_
  refine fmS (snd_iloadn hF (k := 1) rfl (by decide +kernel)) ?_
  refine fmS (snd_iconst hF (n := 1) rfl (by decide +kernel)) ?_
  refine fmS (snd_iadd hF (by decide +kernel)) ?_
  refine fmS (snd_callV hM k_X7_readLevel okX7 qw532 qw534 (hts _ qw8) (by decide +kernel)) ?_
  refine fmS (snd_if_eq hF (off := 16) (by decide) (by decide +kernel)) ?_
  refine fmS (snd_aloadn hF (k := 0) rfl (by decide +kernel)) ?_
  refine fmS (snd_bipush hF (n := 41) (by decide +kernel) (by decide +kernel)) ?_
  refine fmS (snd_callV hM k_X7_take okX7 qw528 qw530 (hts _ qw7) (by decide +kernel)) ?_
  refine fmS (snd_if_eq hF (off := 7) (by decide) (by decide +kernel)) ?_
  refine fmS (snd_iconst hF (n := 1) rfl (by decide +kernel)) ?_
  refine fmS (snd_goto hF (off := 4) (by decide) (by decide +kernel)) ?_
  refine fmS (snd_iconst hF (n := 0) rfl (by decide +kernel)) ?_
  refine fmS (snd_retZ hM (by decide +kernel)) ?_
  refine fmS (snd_aloadn hF (k := 0) rfl (by decide +kernel)) ?_
  refine fmS (snd_callV hM k_X7_readName okX7 qw551 qw553 (hts _ qw12) (by decide +kernel)) ?_
  refine fmS (snd_istoren hF (k := 3) rfl (by decide) (by decide +kernel)) ?_
  refine fmS (snd_iloadn hF (k := 3) rfl (by decide +kernel)) ?_
  refine fmS (snd_iconst hF (n := (-1)) rfl (by decide +kernel)) ?_
  refine fmS (snd_icmp_eq hF (off := 16) (by decide) (by decide +kernel)) ?_
  refine fmS (snd_aloadn hF (k := 0) rfl (by decide +kernel)) ?_
  refine fmS (snd_iloadn hF (k := 3) rfl (by decide +kernel)) ?_
  refine fmS (snd_iloadn hF (k := 1) rfl (by decide +kernel)) ?_
  refine fmS (snd_callV hM k_X7_readFunction okX7 qw555 qw557 (hts _ qw13) (by decide +kernel)) ?_
  refine fmS (snd_if_eq hF (off := 7) (by decide) (by decide +kernel)) ?_
  refine fmS (snd_iconst hF (n := 1) rfl (by decide +kernel)) ?_
  refine fmS (snd_goto hF (off := 4) (by decide) (by decide +kernel)) ?_
  refine fmS (snd_iconst hF (n := 0) rfl (by decide +kernel)) ?_
  refine fmS (snd_retZ hM (by decide +kernel)) ?_
  exact fmE
theorem iX7_readFactor {d mc ms n : Nat} {av : List Value} {M : PM} {P : PO} (hw : wid av ≤ 4) (hb : ∀ J : KT, (∀ (k : Nat) (stops : Nat → Bool) (pc : Nat) (lv : LV) (st : List Value) (nn : NN) (M : PM), lk (tX7_readFactor d mc ms P) pc (wpN (tX7_readFactor d mc ms P) stops k J) lv st nn M → J pc lv st nn M) → J 0 (entA 0 av) [] (n, 0, 0) M) : CallOK (d + 1) mc ms yX7_readFactor (Cond.code yX7_readFactor cX7_readFactor 4 (some .boolean)) av n M P := call_intro (own := RX7) (by decide) rfl hw (fun _ _ _ _ _ _ _ _ _ _ _ _ _ hM => sX7_readFactor hM) hb
def tX7_readNumber (d mc ms : Nat) (P : PO) : List (Nat × OP) := [(0, oAld 0 1), (1, oCallV d mc ms P 0 0 yX7_peek (Cond.code yX7_peek cX7_peek 1 (some .char)) 0 7 4), (4, oPush (.int 48) 6), (6, oI2 (fun x y => x - y) 7), (7, oIst 1 8), (8, oAld 0 9), (9, oDup 10), (10, oGi 7 2 13), (13, oPush (.int 1) 14), (14, oI2 (fun x y => x + y) 15), (15, oPi 7 2 18), (18, oAld 0 19), (19, oCallV d mc ms P 0 0 yX7_peek (Cond.code yX7_peek cX7_peek 1 (some .char)) 0 7 22), (22, oIst 2 23), (23, oIld 1 24), (24, oIf (fun x => x = 0) 54 27), (27, oIld 2 28), (28, oCallS d mc ms P 0 0 yX7_isDigit (Cond.code yX7_isDigit cX7_isDigit 1 (some .boolean)) 1 31), (31, oIf (fun x => x = 0) 54 34), (34, oPush (.int 10) 36), (36, oIld 1 37), (37, oI2 (fun x y => x * y) 38), (38, oIld 2 39), (39, oI2 (fun x y => x + y) 40), (40, oPush (.int 48) 42), (42, oI2 (fun x y => x - y) 43), (43, oIst 1 44), (44, oAld 0 45), (45, oDup 46), (46, oGi 7 2 49), (49, oPush (.int 1) 50), (50, oI2 (fun x y => x + y) 51), (51, oPi 7 2 54), (54, oAld 0 55), (55, oIld 1 56), (56, oCallV d mc ms P 0 0 yX7_addCode (Cond.code yX7_addCode cX7_addCode 2 none) 1 7 59), (59, oPush (.int 1) 60), (60, oRetZ mc ms P)]
set_option maxRecDepth 20000 in
theorem sX7_readNumber {p : Program} {l : Launch} {e : Env} {s : State} {m : MethodId} {args : Array Value} {below : List Frame} {meth : Method} {c : Code} {D : va_G} {cA : Nat → ClassId} {ad0 : Nat → Nat} {n0 sz d mc ms : Nat} {P : PO} (hM : FM p l s m args meth c D cA 3 ad0 n0 sz cX7_readNumber RX7 (some .boolean) [] yX7_readNumber.name) : ∀ q ∈ tX7_readNumber d mc ms P, Snd (jM p l e s m args below meth c D cA 3 ad0 n0 sz (d + 1) mc ms P) q.1 q.2 := by
  have hF := hM.1
  have hts := hF.2.2.2.2.1
  unfold tX7_readNumber
  refine fmS (snd_aloadn hF (k := 0) rfl (by decide +kernel)) ?_
  refine fmS (snd_callV hM k_X7_peek okX7 qw521 qw523 (hts _ qw6) (by decide +kernel)) ?_
  refine fmS (snd_bipush hF (n := 48) (by decide +kernel) (by decide +kernel)) ?_
  refine fmS (snd_isub hF (by decide +kernel)) ?_
  refine fmS (snd_istoren hF (k := 1) rfl (by decide) (by decide +kernel)) ?_
  refine fmS (snd_aloadn hF (k := 0) rfl (by decide +kernel)) ?_
  refine fmS (snd_dup hF (by decide +kernel)) ?_
  refine fmS (snd_geti hF okX7 (k := 2) (by decide) qw117 rfl rfl (by decide +kernel)) ?_
  refine fmS (snd_iconst hF (n := 1) rfl (by decide +kernel)) ?_
  refine fmS (snd_iadd hF (by decide +kernel)) ?_
  refine fmS (snd_puti hF okX7 (k := 2) (by decide) qw117 rfl rfl rfl rfl (by decide +kernel)) ?_
  refine fmS (snd_aloadn hF (k := 0) rfl (by decide +kernel)) ?_
  refine fmS (snd_callV hM k_X7_peek okX7 qw521 qw523 (hts _ qw6) (by decide +kernel)) ?_
  refine fmS (snd_istoren hF (k := 2) rfl (by decide) (by decide +kernel)) ?_
  refine fmS (snd_iloadn hF (k := 1) rfl (by decide +kernel)) ?_
  refine fmS (snd_if_eq hF (off := 30) (by decide) (by decide +kernel)) ?_
  refine fmS (snd_iloadn hF (k := 2) rfl (by decide +kernel)) ?_
  refine fmS (snd_callS hM k_X7_isDigit qw540 qw541 (by decide +kernel)) ?_
  refine fmS (snd_if_eq hF (off := 23) (by decide) (by decide +kernel)) ?_
  refine fmS (snd_bipush hF (n := 10) (by decide +kernel) (by decide +kernel)) ?_
  refine fmS (snd_iloadn hF (k := 1) rfl (by decide +kernel)) ?_
  refine fmS (snd_imul hF (by decide +kernel)) ?_
  refine fmS (snd_iloadn hF (k := 2) rfl (by decide +kernel)) ?_
  refine fmS (snd_iadd hF (by decide +kernel)) ?_
  refine fmS (snd_bipush hF (n := 48) (by decide +kernel) (by decide +kernel)) ?_
  refine fmS (snd_isub hF (by decide +kernel)) ?_
  refine fmS (snd_istoren hF (k := 1) rfl (by decide) (by decide +kernel)) ?_
  refine fmS (snd_aloadn hF (k := 0) rfl (by decide +kernel)) ?_
  refine fmS (snd_dup hF (by decide +kernel)) ?_
  refine fmS (snd_geti hF okX7 (k := 2) (by decide) qw117 rfl rfl (by decide +kernel)) ?_
  refine fmS (snd_iconst hF (n := 1) rfl (by decide +kernel)) ?_
  refine fmS (snd_iadd hF (by decide +kernel)) ?_
  refine fmS (snd_puti hF okX7 (k := 2) (by decide) qw117 rfl rfl rfl rfl (by decide +kernel)) ?_
  refine fmS (snd_aloadn hF (k := 0) rfl (by decide +kernel)) ?_
  refine fmS (snd_iloadn hF (k := 1) rfl (by decide +kernel)) ?_
  refine fmS (snd_callV hM k_X7_addCode okX7 qw547 qw549 (hts _ qw11) (by decide +kernel)) ?_
  refine fmS (snd_iconst hF (n := 1) rfl (by decide +kernel)) ?_
  refine fmS (snd_retZ hM (by decide +kernel)) ?_
  exact fmE
theorem iX7_readNumber {d mc ms n : Nat} {av : List Value} {M : PM} {P : PO} (hw : wid av ≤ 3) (hb : ∀ J : KT, (∀ (k : Nat) (stops : Nat → Bool) (pc : Nat) (lv : LV) (st : List Value) (nn : NN) (M : PM), lk (tX7_readNumber d mc ms P) pc (wpN (tX7_readNumber d mc ms P) stops k J) lv st nn M → J pc lv st nn M) → J 0 (entA 0 av) [] (n, 0, 0) M) : CallOK (d + 1) mc ms yX7_readNumber (Cond.code yX7_readNumber cX7_readNumber 3 (some .boolean)) av n M P := call_intro (own := RX7) (by decide) rfl hw (fun _ _ _ _ _ _ _ _ _ _ _ _ _ hM => sX7_readNumber hM) hb
def tX7_readName (d mc ms : Nat) (P : PO) : List (Nat × OP) := [(0, oAld 0 1), (1, oPush (.int 105) 3), (3, oCallV d mc ms P 0 0 yX7_take (Cond.code yX7_take cX7_take 2 (some .boolean)) 1 7 6), (6, oIf (fun x => x = 0) 26 9), (9, oAld 0 10), (10, oPush (.int 102) 12), (12, oCallV d mc ms P 0 0 yX7_take (Cond.code yX7_take cX7_take 2 (some .boolean)) 1 7 15), (15, oIf (fun x => x = 0) 24 18), (18, oPush (.int 308) 21), (21, oGoto 25), (24, oPush (.int (-1)) 25), (25, oRetI mc ms P), (26, oAld 0 27), (27, oPush (.int 109) 29), (29, oCallV d mc ms P 0 0 yX7_take (Cond.code yX7_take cX7_take 2 (some .boolean)) 1 7 32), (32, oIf (fun x => x = 0) 35 37), (35, oPush (.int (-1)) 36), (36, oRetI mc ms P), (37, oAld 0 38), (38, oPush (.int 105) 40), (40, oCallV d mc ms P 0 0 yX7_take (Cond.code yX7_take cX7_take 2 (some .boolean)) 1 7 43), (43, oIf (fun x => x = 0) 63 46), (46, oAld 0 47), (47, oPush (.int 110) 49), (49, oCallV d mc ms P 0 0 yX7_take (Cond.code yX7_take cX7_take 2 (some .boolean)) 1 7 52), (52, oIf (fun x => x = 0) 61 55), (55, oPush (.int 305) 58), (58, oGoto 62), (61, oPush (.int (-1)) 62), (62, oRetI mc ms P), (63, oAld 0 64), (64, oPush (.int 97) 66), (66, oCallV d mc ms P 0 0 yX7_take (Cond.code yX7_take cX7_take 2 (some .boolean)) 1 7 69), (69, oIf (fun x => x = 0) 87 72), (72, oAld 0 73), (73, oPush (.int 120) 75), (75, oCallV d mc ms P 0 0 yX7_take (Cond.code yX7_take cX7_take 2 (some .boolean)) 1 7 78), (78, oIf (fun x => x = 0) 87 81), (81, oPush (.int 306) 84), (84, oGoto 88), (87, oPush (.int (-1)) 88), (88, oRetI mc ms P)]
set_option maxRecDepth 20000 in
theorem sX7_readName {p : Program} {l : Launch} {e : Env} {s : State} {m : MethodId} {args : Array Value} {below : List Frame} {meth : Method} {c : Code} {D : va_G} {cA : Nat → ClassId} {ad0 : Nat → Nat} {n0 sz d mc ms : Nat} {P : PO} (hM : FM p l s m args meth c D cA 1 ad0 n0 sz cX7_readName RX7 (some .int) [] yX7_readName.name) : ∀ q ∈ tX7_readName d mc ms P, Snd (jM p l e s m args below meth c D cA 1 ad0 n0 sz (d + 1) mc ms P) q.1 q.2 := by
  have hF := hM.1
  have hts := hF.2.2.2.2.1
  unfold tX7_readName
  refine fmS (snd_aloadn hF (k := 0) rfl (by decide +kernel)) ?_
  refine fmS (snd_bipush hF (n := 105) (by decide +kernel) (by decide +kernel)) ?_
  refine fmS (snd_callV hM k_X7_take okX7 qw528 qw530 (hts _ qw7) (by decide +kernel)) ?_
  refine fmS (snd_if_eq hF (off := 20) (by decide) (by decide +kernel)) ?_
  refine fmS (snd_aloadn hF (k := 0) rfl (by decide +kernel)) ?_
  refine fmS (snd_bipush hF (n := 102) (by decide +kernel) (by decide +kernel)) ?_
  refine fmS (snd_callV hM k_X7_take okX7 qw528 qw530 (hts _ qw7) (by decide +kernel)) ?_
  refine fmS (snd_if_eq hF (off := 9) (by decide) (by decide +kernel)) ?_
  refine fmS (snd_sipush hF (n := 308) (by decide +kernel) (by decide +kernel)) ?_
  refine fmS (snd_goto hF (off := 4) (by decide) (by decide +kernel)) ?_
  refine fmS (snd_iconst hF (n := (-1)) rfl (by decide +kernel)) ?_
  refine fmS (snd_retI hM (by decide +kernel)) ?_
  refine fmS (snd_aloadn hF (k := 0) rfl (by decide +kernel)) ?_
  refine fmS (snd_bipush hF (n := 109) (by decide +kernel) (by decide +kernel)) ?_
  refine fmS (snd_callV hM k_X7_take okX7 qw528 qw530 (hts _ qw7) (by decide +kernel)) ?_
  refine fmS (snd_if_ne hF (off := 5) (by decide) (by decide +kernel)) ?_
  refine fmS (snd_iconst hF (n := (-1)) rfl (by decide +kernel)) ?_
  refine fmS (snd_retI hM (by decide +kernel)) ?_
  refine fmS (snd_aloadn hF (k := 0) rfl (by decide +kernel)) ?_
  refine fmS (snd_bipush hF (n := 105) (by decide +kernel) (by decide +kernel)) ?_
  refine fmS (snd_callV hM k_X7_take okX7 qw528 qw530 (hts _ qw7) (by decide +kernel)) ?_
  refine fmS (snd_if_eq hF (off := 20) (by decide) (by decide +kernel)) ?_
  refine fmS (snd_aloadn hF (k := 0) rfl (by decide +kernel)) ?_
  refine fmS (snd_bipush hF (n := 110) (by decide +kernel) (by decide +kernel)) ?_
  refine fmS (snd_callV hM k_X7_take okX7 qw528 qw530 (hts _ qw7) (by decide +kernel)) ?_
  refine fmS (snd_if_eq hF (off := 9) (by decide) (by decide +kernel)) ?_
  refine fmS (snd_sipush hF (n := 305) (by decide +kernel) (by decide +kernel)) ?_
  refine fmS (snd_goto hF (off := 4) (by decide) (by decide +kernel)) ?_
  refine fmS (snd_iconst hF (n := (-1)) rfl (by decide +kernel)) ?_
  refine fmS (snd_retI hM (by decide +kernel)) ?_
  refine fmS (snd_aloadn hF (k := 0) rfl (by decide +kernel)) ?_
  refine fmS (snd_bipush hF (n := 97) (by decide +kernel) (by decide +kernel)) ?_
  refine fmS (snd_callV hM k_X7_take okX7 qw528 qw530 (hts _ qw7) (by decide +kernel)) ?_
  refine fmS (snd_if_eq hF (off := 18) (by decide) (by decide +kernel)) ?_
  refine fmS (snd_aloadn hF (k := 0) rfl (by decide +kernel)) ?_
  refine fmS (snd_bipush hF (n := 120) (by decide +kernel) (by decide +kernel)) ?_
  refine fmS (snd_callV hM k_X7_take okX7 qw528 qw530 (hts _ qw7) (by decide +kernel)) ?_
  refine fmS (snd_if_eq hF (off := 9) (by decide) (by decide +kernel)) ?_
  refine fmS (snd_sipush hF (n := 306) (by decide +kernel) (by decide +kernel)) ?_
  refine fmS (snd_goto hF (off := 4) (by decide) (by decide +kernel)) ?_
  refine fmS (snd_iconst hF (n := (-1)) rfl (by decide +kernel)) ?_
  refine fmS (snd_retI hM (by decide +kernel)) ?_
  exact fmE
theorem iX7_readName {d mc ms n : Nat} {av : List Value} {M : PM} {P : PO} (hw : wid av ≤ 1) (hb : ∀ J : KT, (∀ (k : Nat) (stops : Nat → Bool) (pc : Nat) (lv : LV) (st : List Value) (nn : NN) (M : PM), lk (tX7_readName d mc ms P) pc (wpN (tX7_readName d mc ms P) stops k J) lv st nn M → J pc lv st nn M) → J 0 (entA 0 av) [] (n, 0, 0) M) : CallOK (d + 1) mc ms yX7_readName (Cond.code yX7_readName cX7_readName 1 (some .int)) av n M P := call_intro (own := RX7) (by decide) rfl hw (fun _ _ _ _ _ _ _ _ _ _ _ _ _ hM => sX7_readName hM) hb
def tX7_readFunction (d mc ms : Nat) (P : PO) : List (Nat × OP) := [(0, oIld 2 1), (1, oPush (.int 4) 2), (2, oIc (fun x y => y ≤ x) 14 5), (5, oAld 0 6), (6, oPush (.int 40) 8), (8, oCallV d mc ms P 0 0 yX7_take (Cond.code yX7_take cX7_take 2 (some .boolean)) 1 7 11), (11, oIf (fun x => x = 0) 14 16), (14, oPush (.int 0) 15), (15, oRetZ mc ms P), (16, oAld 0 17), (17, oIld 1 18), (18, oCallV d mc ms P 0 0 yX7_addCode (Cond.code yX7_addCode cX7_addCode 2 none) 1 7 21), (21, oIld 1 22), (22, oCallS d mc ms P 0 0 yX9_operandsOf (Cond.code yX9_operandsOf cX9_operandsOf 1 (some .int)) 1 25), (25, oIst 3 26), (26, oPush (.int 0) 27), (27, oIst 4 29), (29, oIld 4 31), (31, oIld 3 32), (32, oIc (fun x y => y ≤ x) 70 35), (35, oIld 4 37), (37, oIf (fun x => x ≤ 0) 51 40), (40, oAld 0 41), (41, oPush (.int 44) 43), (43, oCallV d mc ms P 0 0 yX7_take (Cond.code yX7_take cX7_take 2 (some .boolean)) 1 7 46), (46, oIf (fun x => x = 0) 49 51), (49, oPush (.int 0) 50), (50, oRetZ mc ms P), (51, oAld 0 52), (52, oPush (.int 0) 53), (53, oIld 2 54), (54, oPush (.int 1) 55), (55, oI2 (fun x y => x + y) 56), (56, oCallV d mc ms P 0 0 yX7_readLevel (Cond.code yX7_readLevel cX7_readLevel 4 (some .boolean)) 2 7 59), (59, oIf (fun x => x = 0) 62 64), (62, oPush (.int 0) 63), (63, oRetZ mc ms P), (64, oInc 4 1 67), (67, oGoto 29), (70, oAld 0 71), (71, oPush (.int 41) 73), (73, oCallV d mc ms P 0 0 yX7_take (Cond.code yX7_take cX7_take 2 (some .boolean)) 1 7 76), (76, oRetZ mc ms P)]
set_option maxRecDepth 20000 in
theorem sX7_readFunction {p : Program} {l : Launch} {e : Env} {s : State} {m : MethodId} {args : Array Value} {below : List Frame} {meth : Method} {c : Code} {D : va_G} {cA : Nat → ClassId} {ad0 : Nat → Nat} {n0 sz d mc ms : Nat} {P : PO} (hM : FM p l s m args meth c D cA 5 ad0 n0 sz cX7_readFunction RX7 (some .boolean) [] yX7_readFunction.name) : ∀ q ∈ tX7_readFunction d mc ms P, Snd (jM p l e s m args below meth c D cA 5 ad0 n0 sz (d + 1) mc ms P) q.1 q.2 := by
  have hF := hM.1
  have hts := hF.2.2.2.2.1
  unfold tX7_readFunction
  refine fmS (snd_iloadn hF (k := 2) rfl (by decide +kernel)) ?_
  refine fmS (snd_iconst hF (n := 4) rfl (by decide +kernel)) ?_
  refine fmS (snd_icmp_ge hF (off := 12) (by decide) (by decide +kernel)) ?_
  refine fmS (snd_aloadn hF (k := 0) rfl (by decide +kernel)) ?_
  refine fmS (snd_bipush hF (n := 40) (by decide +kernel) (by decide +kernel)) ?_
  refine fmS (snd_callV hM k_X7_take okX7 qw528 qw530 (hts _ qw7) (by decide +kernel)) ?_
  refine fmS (snd_if_ne hF (off := 5) (by decide) (by decide +kernel)) ?_
  refine fmS (snd_iconst hF (n := 0) rfl (by decide +kernel)) ?_
  refine fmS (snd_retZ hM (by decide +kernel)) ?_
  refine fmS (snd_aloadn hF (k := 0) rfl (by decide +kernel)) ?_
  refine fmS (snd_iloadn hF (k := 1) rfl (by decide +kernel)) ?_
  refine fmS (snd_callV hM k_X7_addCode okX7 qw547 qw549 (hts _ qw11) (by decide +kernel)) ?_
  refine fmS (snd_iloadn hF (k := 1) rfl (by decide +kernel)) ?_
  refine fmS (snd_callSN hM k_X9_operandsOf qw559 qw560 (by decide +kernel)) ?_
  refine fmS (snd_istoren hF (k := 3) rfl (by decide) (by decide +kernel)) ?_
  refine fmS (snd_iconst hF (n := 0) rfl (by decide +kernel)) ?_
  refine fmS (snd_istore hF (by decide) (by decide +kernel)) ?_
  refine fmS (snd_iload hF (by decide +kernel)) ?_
  refine fmS (snd_iloadn hF (k := 3) rfl (by decide +kernel)) ?_
  refine fmS (snd_icmp_ge hF (off := 38) (by decide) (by decide +kernel)) ?_
  refine fmS (snd_iload hF (by decide +kernel)) ?_
  refine fmS (snd_if_le hF (off := 14) (by decide) (by decide +kernel)) ?_
  refine fmS (snd_aloadn hF (k := 0) rfl (by decide +kernel)) ?_
  refine fmS (snd_bipush hF (n := 44) (by decide +kernel) (by decide +kernel)) ?_
  refine fmS (snd_callV hM k_X7_take okX7 qw528 qw530 (hts _ qw7) (by decide +kernel)) ?_
  refine fmS (snd_if_ne hF (off := 5) (by decide) (by decide +kernel)) ?_
  refine fmS (snd_iconst hF (n := 0) rfl (by decide +kernel)) ?_
  refine fmS (snd_retZ hM (by decide +kernel)) ?_
  refine fmS (snd_aloadn hF (k := 0) rfl (by decide +kernel)) ?_
  refine fmS (snd_iconst hF (n := 0) rfl (by decide +kernel)) ?_
  refine fmS (snd_iloadn hF (k := 2) rfl (by decide +kernel)) ?_
  refine fmS (snd_iconst hF (n := 1) rfl (by decide +kernel)) ?_
  refine fmS (snd_iadd hF (by decide +kernel)) ?_
  refine fmS (snd_callV hM k_X7_readLevel okX7 qw532 qw534 (hts _ qw8) (by decide +kernel)) ?_
  refine fmS (snd_if_ne hF (off := 5) (by decide) (by decide +kernel)) ?_
  refine fmS (snd_iconst hF (n := 0) rfl (by decide +kernel)) ?_
  refine fmS (snd_retZ hM (by decide +kernel)) ?_
  refine fmS (snd_iinc hF (n := 1) (by decide +kernel) (by decide) (by decide +kernel)) ?_
  refine fmS (snd_goto hF (off := (-38)) (by decide) (by decide +kernel)) ?_
  refine fmS (snd_aloadn hF (k := 0) rfl (by decide +kernel)) ?_
  refine fmS (snd_bipush hF (n := 41) (by decide +kernel) (by decide +kernel)) ?_
  refine fmS (snd_callV hM k_X7_take okX7 qw528 qw530 (hts _ qw7) (by decide +kernel)) ?_
  refine fmS (snd_retZ hM (by decide +kernel)) ?_
  exact fmE
theorem iX7_readFunction {d mc ms n : Nat} {av : List Value} {M : PM} {P : PO} (hw : wid av ≤ 5) (hb : ∀ J : KT, (∀ (k : Nat) (stops : Nat → Bool) (pc : Nat) (lv : LV) (st : List Value) (nn : NN) (M : PM), lk (tX7_readFunction d mc ms P) pc (wpN (tX7_readFunction d mc ms P) stops k J) lv st nn M → J pc lv st nn M) → J 0 (entA 0 av) [] (n, 0, 0) M) : CallOK (d + 1) mc ms yX7_readFunction (Cond.code yX7_readFunction cX7_readFunction 5 (some .boolean)) av n M P := call_intro (own := RX7) (by decide) rfl hw (fun _ _ _ _ _ _ _ _ _ _ _ _ _ hM => sX7_readFunction hM) hb
def tX7_peek (d mc ms : Nat) (P : PO) : List (Nat × OP) := [(0, oAld 0 1), (1, oGi 7 2 4), (4, oAld 0 5), (5, oGi 7 1 8), (8, oIc (fun x y => y ≤ x) 23 11), (11, oAld 0 12), (12, oGr 7 0 15), (15, oAld 0 16), (16, oGi 7 2 19), (19, oAi 102 20), (20, oGoto 24), (23, oPush (.int 0) 24), (24, oRetC mc ms P)]
set_option maxRecDepth 20000 in
theorem sX7_peek {p : Program} {l : Launch} {e : Env} {s : State} {m : MethodId} {args : Array Value} {below : List Frame} {meth : Method} {c : Code} {D : va_G} {cA : Nat → ClassId} {ad0 : Nat → Nat} {n0 sz d mc ms : Nat} {P : PO} (hM : FM p l s m args meth c D cA 1 ad0 n0 sz cX7_peek RX7 (some .char) [] yX7_peek.name) : ∀ q ∈ tX7_peek d mc ms P, Snd (jM p l e s m args below meth c D cA 1 ad0 n0 sz (d + 1) mc ms P) q.1 q.2 := by
  have hF := hM.1
  have hts := hF.2.2.2.2.1
  unfold tX7_peek
  refine fmS (snd_aloadn hF (k := 0) rfl (by decide +kernel)) ?_
  refine fmS (snd_geti hF okX7 (k := 2) (by decide) qw117 rfl rfl (by decide +kernel)) ?_
  refine fmS (snd_aloadn hF (k := 0) rfl (by decide +kernel)) ?_
  refine fmS (snd_geti hF okX7 (k := 1) (by decide) qw115 rfl rfl (by decide +kernel)) ?_
  refine fmS (snd_icmp_ge hF (off := 15) (by decide) (by decide +kernel)) ?_
  refine fmS (snd_aloadn hF (k := 0) rfl (by decide +kernel)) ?_
  refine fmS (snd_getr hF okX7 (k := 0) (by decide) qw114 rfl rfl (by decide +kernel)) ?_
  refine fmS (snd_aloadn hF (k := 0) rfl (by decide +kernel)) ?_
  refine fmS (snd_geti hF okX7 (k := 2) (by decide) qw117 rfl rfl (by decide +kernel)) ?_
  refine fmS (snd_caload hF (by decide +kernel)) ?_
  refine fmS (snd_goto hF (off := 4) (by decide) (by decide +kernel)) ?_
  refine fmS (snd_iconst hF (n := 0) rfl (by decide +kernel)) ?_
  refine fmS (snd_retC hM (by decide +kernel)) ?_
  exact fmE
theorem iX7_peek {d mc ms n : Nat} {av : List Value} {M : PM} {P : PO} (hw : wid av ≤ 1) (hb : ∀ J : KT, (∀ (k : Nat) (stops : Nat → Bool) (pc : Nat) (lv : LV) (st : List Value) (nn : NN) (M : PM), lk (tX7_peek d mc ms P) pc (wpN (tX7_peek d mc ms P) stops k J) lv st nn M → J pc lv st nn M) → J 0 (entA 0 av) [] (n, 0, 0) M) : CallOK (d + 1) mc ms yX7_peek (Cond.code yX7_peek cX7_peek 1 (some .char)) av n M P := call_intro (own := RX7) (by decide) rfl hw (fun _ _ _ _ _ _ _ _ _ _ _ _ _ hM => sX7_peek hM) hb
def tX7_take (d mc ms : Nat) (P : PO) : List (Nat × OP) := [(0, oAld 0 1), (1, oGi 7 2 4), (4, oAld 0 5), (5, oGi 7 1 8), (8, oIc (fun x y => y ≤ x) 36 11), (11, oAld 0 12), (12, oGr 7 0 15), (15, oAld 0 16), (16, oGi 7 2 19), (19, oAi 102 20), (20, oIld 1 21), (21, oIc (fun x y => x = y) 24 36), (24, oAld 0 25), (25, oDup 26), (26, oGi 7 2 29), (29, oPush (.int 1) 30), (30, oI2 (fun x y => x + y) 31), (31, oPi 7 2 34), (34, oPush (.int 1) 35), (35, oRetZ mc ms P), (36, oPush (.int 0) 37), (37, oRetZ mc ms P)]
set_option maxRecDepth 20000 in
theorem sX7_take {p : Program} {l : Launch} {e : Env} {s : State} {m : MethodId} {args : Array Value} {below : List Frame} {meth : Method} {c : Code} {D : va_G} {cA : Nat → ClassId} {ad0 : Nat → Nat} {n0 sz d mc ms : Nat} {P : PO} (hM : FM p l s m args meth c D cA 2 ad0 n0 sz cX7_take RX7 (some .boolean) [] yX7_take.name) : ∀ q ∈ tX7_take d mc ms P, Snd (jM p l e s m args below meth c D cA 2 ad0 n0 sz (d + 1) mc ms P) q.1 q.2 := by
  have hF := hM.1
  have hts := hF.2.2.2.2.1
  unfold tX7_take
  refine fmS (snd_aloadn hF (k := 0) rfl (by decide +kernel)) ?_
  refine fmS (snd_geti hF okX7 (k := 2) (by decide) qw117 rfl rfl (by decide +kernel)) ?_
  refine fmS (snd_aloadn hF (k := 0) rfl (by decide +kernel)) ?_
  refine fmS (snd_geti hF okX7 (k := 1) (by decide) qw115 rfl rfl (by decide +kernel)) ?_
  refine fmS (snd_icmp_ge hF (off := 28) (by decide) (by decide +kernel)) ?_
  refine fmS (snd_aloadn hF (k := 0) rfl (by decide +kernel)) ?_
  refine fmS (snd_getr hF okX7 (k := 0) (by decide) qw114 rfl rfl (by decide +kernel)) ?_
  refine fmS (snd_aloadn hF (k := 0) rfl (by decide +kernel)) ?_
  refine fmS (snd_geti hF okX7 (k := 2) (by decide) qw117 rfl rfl (by decide +kernel)) ?_
  refine fmS (snd_caload hF (by decide +kernel)) ?_
  refine fmS (snd_iloadn hF (k := 1) rfl (by decide +kernel)) ?_
  refine fmS (snd_icmp_ne hF (off := 15) (by decide) (by decide +kernel)) ?_
  refine fmS (snd_aloadn hF (k := 0) rfl (by decide +kernel)) ?_
  refine fmS (snd_dup hF (by decide +kernel)) ?_
  refine fmS (snd_geti hF okX7 (k := 2) (by decide) qw117 rfl rfl (by decide +kernel)) ?_
  refine fmS (snd_iconst hF (n := 1) rfl (by decide +kernel)) ?_
  refine fmS (snd_iadd hF (by decide +kernel)) ?_
  refine fmS (snd_puti hF okX7 (k := 2) (by decide) qw117 rfl rfl rfl rfl (by decide +kernel)) ?_
  refine fmS (snd_iconst hF (n := 1) rfl (by decide +kernel)) ?_
  refine fmS (snd_retZ hM (by decide +kernel)) ?_
  refine fmS (snd_iconst hF (n := 0) rfl (by decide +kernel)) ?_
  refine fmS (snd_retZ hM (by decide +kernel)) ?_
  exact fmE
theorem iX7_take {d mc ms n : Nat} {av : List Value} {M : PM} {P : PO} (hw : wid av ≤ 2) (hb : ∀ J : KT, (∀ (k : Nat) (stops : Nat → Bool) (pc : Nat) (lv : LV) (st : List Value) (nn : NN) (M : PM), lk (tX7_take d mc ms P) pc (wpN (tX7_take d mc ms P) stops k J) lv st nn M → J pc lv st nn M) → J 0 (entA 0 av) [] (n, 0, 0) M) : CallOK (d + 1) mc ms yX7_take (Cond.code yX7_take cX7_take 2 (some .boolean)) av n M P := call_intro (own := RX7) (by decide) rfl hw (fun _ _ _ _ _ _ _ _ _ _ _ _ _ hM => sX7_take hM) hb
def tX7_addCode (d mc ms : Nat) (P : PO) : List (Nat × OP) := [(0, oAld 0 1), (1, oGi 7 4 4), (4, oPush (.int 100) 6), (6, oIc (fun x y => y ≤ x) 29 9), (9, oAld 0 10), (10, oGr 7 3 13), (13, oAld 0 14), (14, oGi 7 4 17), (17, oIld 1 18), (18, oSi 100 (fun x => x) 19), (19, oAld 0 20), (20, oDup 21), (21, oGi 7 4 24), (24, oPush (.int 1) 25), (25, oI2 (fun x y => x + y) 26), (26, oPi 7 4 29), (29, oRetV mc ms P)]
set_option maxRecDepth 20000 in
theorem sX7_addCode {p : Program} {l : Launch} {e : Env} {s : State} {m : MethodId} {args : Array Value} {below : List Frame} {meth : Method} {c : Code} {D : va_G} {cA : Nat → ClassId} {ad0 : Nat → Nat} {n0 sz d mc ms : Nat} {P : PO} (hM : FM p l s m args meth c D cA 2 ad0 n0 sz cX7_addCode RX7 none [] yX7_addCode.name) : ∀ q ∈ tX7_addCode d mc ms P, Snd (jM p l e s m args below meth c D cA 2 ad0 n0 sz (d + 1) mc ms P) q.1 q.2 := by
  have hF := hM.1
  have hts := hF.2.2.2.2.1
  unfold tX7_addCode
  refine fmS (snd_aloadn hF (k := 0) rfl (by decide +kernel)) ?_
  refine fmS (snd_geti hF okX7 (k := 4) (by decide) qw121 rfl rfl (by decide +kernel)) ?_
  refine fmS (snd_bipush hF (n := 100) (by decide +kernel) (by decide +kernel)) ?_
  refine fmS (snd_icmp_ge hF (off := 23) (by decide) (by decide +kernel)) ?_
  refine fmS (snd_aloadn hF (k := 0) rfl (by decide +kernel)) ?_
  refine fmS (snd_getr hF okX7 (k := 3) (by decide) qw119 rfl rfl (by decide +kernel)) ?_
  refine fmS (snd_aloadn hF (k := 0) rfl (by decide +kernel)) ?_
  refine fmS (snd_geti hF okX7 (k := 4) (by decide) qw121 rfl rfl (by decide +kernel)) ?_
  refine fmS (snd_iloadn hF (k := 1) rfl (by decide +kernel)) ?_
  refine fmS (snd_iastore hF (by decide +kernel)) ?_
  refine fmS (snd_aloadn hF (k := 0) rfl (by decide +kernel)) ?_
  refine fmS (snd_dup hF (by decide +kernel)) ?_
  refine fmS (snd_geti hF okX7 (k := 4) (by decide) qw121 rfl rfl (by decide +kernel)) ?_
  refine fmS (snd_iconst hF (n := 1) rfl (by decide +kernel)) ?_
  refine fmS (snd_iadd hF (by decide +kernel)) ?_
  refine fmS (snd_puti hF okX7 (k := 4) (by decide) qw121 rfl rfl rfl rfl (by decide +kernel)) ?_
  refine fmS (snd_retV hM (by decide +kernel)) ?_
  exact fmE
theorem iX7_addCode {d mc ms n : Nat} {av : List Value} {M : PM} {P : PO} (hw : wid av ≤ 2) (hb : ∀ J : KT, (∀ (k : Nat) (stops : Nat → Bool) (pc : Nat) (lv : LV) (st : List Value) (nn : NN) (M : PM), lk (tX7_addCode d mc ms P) pc (wpN (tX7_addCode d mc ms P) stops k J) lv st nn M → J pc lv st nn M) → J 0 (entA 0 av) [] (n, 0, 0) M) : CallOK (d + 1) mc ms yX7_addCode (Cond.code yX7_addCode cX7_addCode 2 none) av n M P := call_intro (own := RX7) (by decide) rfl hw (fun _ _ _ _ _ _ _ _ _ _ _ _ _ hM => sX7_addCode hM) hb
def tX7_insertCode (d mc ms : Nat) (P : PO) : List (Nat × OP) := [(0, oAld 0 1), (1, oGi 7 4 4), (4, oPush (.int 100) 6), (6, oIc (fun x y => y ≤ x) 59 9), (9, oIld 1 10), (10, oIf (fun x => x < 0) 59 13), (13, oIld 1 14), (14, oAld 0 15), (15, oGi 7 4 18), (18, oIc (fun x y => y < x) 59 21), (21, oAld 0 22), (22, oGr 7 3 25), (25, oIld 1 26), (26, oAld 0 27), (27, oGr 7 3 30), (30, oIld 1 31), (31, oPush (.int 1) 32), (32, oI2 (fun x y => x + y) 33), (33, oAld 0 34), (34, oGi 7 4 37), (37, oIld 1 38), (38, oI2 (fun x y => x - y) 39), (39, oCopy 42), (42, oAld 0 43), (43, oGr 7 3 46), (46, oIld 1 47), (47, oIld 2 48), (48, oSi 100 (fun x => x) 49), (49, oAld 0 50), (50, oDup 51), (51, oGi 7 4 54), (54, oPush (.int 1) 55), (55, oI2 (fun x y => x + y) 56), (56, oPi 7 4 59), (59, oRetV mc ms P)]
set_option maxRecDepth 20000 in
theorem sX7_insertCode {p : Program} {l : Launch} {e : Env} {s : State} {m : MethodId} {args : Array Value} {below : List Frame} {meth : Method} {c : Code} {D : va_G} {cA : Nat → ClassId} {ad0 : Nat → Nat} {n0 sz d mc ms : Nat} {P : PO} (hM : FM p l s m args meth c D cA 3 ad0 n0 sz cX7_insertCode RX7 none [] yX7_insertCode.name) : ∀ q ∈ tX7_insertCode d mc ms P, Snd (jM p l e s m args below meth c D cA 3 ad0 n0 sz (d + 1) mc ms P) q.1 q.2 := by
  have hF := hM.1
  have hts := hF.2.2.2.2.1
  unfold tX7_insertCode
  refine fmS (snd_aloadn hF (k := 0) rfl (by decide +kernel)) ?_
  refine fmS (snd_geti hF okX7 (k := 4) (by decide) qw121 rfl rfl (by decide +kernel)) ?_
  refine fmS (snd_bipush hF (n := 100) (by decide +kernel) (by decide +kernel)) ?_
  refine fmS (snd_icmp_ge hF (off := 53) (by decide) (by decide +kernel)) ?_
  refine fmS (snd_iloadn hF (k := 1) rfl (by decide +kernel)) ?_
  refine fmS (snd_if_lt hF (off := 49) (by decide) (by decide +kernel)) ?_
  refine fmS (snd_iloadn hF (k := 1) rfl (by decide +kernel)) ?_
  refine fmS (snd_aloadn hF (k := 0) rfl (by decide +kernel)) ?_
  refine fmS (snd_geti hF okX7 (k := 4) (by decide) qw121 rfl rfl (by decide +kernel)) ?_
  refine fmS (snd_icmp_gt hF (off := 41) (by decide) (by decide +kernel)) ?_
  refine fmS (snd_aloadn hF (k := 0) rfl (by decide +kernel)) ?_
  refine fmS (snd_getr hF okX7 (k := 3) (by decide) qw119 rfl rfl (by decide +kernel)) ?_
  refine fmS (snd_iloadn hF (k := 1) rfl (by decide +kernel)) ?_
  refine fmS (snd_aloadn hF (k := 0) rfl (by decide +kernel)) ?_
  refine fmS (snd_getr hF okX7 (k := 3) (by decide) qw119 rfl rfl (by decide +kernel)) ?_
  refine fmS (snd_iloadn hF (k := 1) rfl (by decide +kernel)) ?_
  refine fmS (snd_iconst hF (n := 1) rfl (by decide +kernel)) ?_
  refine fmS (snd_iadd hF (by decide +kernel)) ?_
  refine fmS (snd_aloadn hF (k := 0) rfl (by decide +kernel)) ?_
  refine fmS (snd_geti hF okX7 (k := 4) (by decide) qw121 rfl rfl (by decide +kernel)) ?_
  refine fmS (snd_iloadn hF (k := 1) rfl (by decide +kernel)) ?_
  refine fmS (snd_isub hF (by decide +kernel)) ?_
  refine fmS (snd_copy hM qw572 qw406 qw405 qw92 (by decide +kernel)) ?_
  refine fmS (snd_aloadn hF (k := 0) rfl (by decide +kernel)) ?_
  refine fmS (snd_getr hF okX7 (k := 3) (by decide) qw119 rfl rfl (by decide +kernel)) ?_
  refine fmS (snd_iloadn hF (k := 1) rfl (by decide +kernel)) ?_
  refine fmS (snd_iloadn hF (k := 2) rfl (by decide +kernel)) ?_
  refine fmS (snd_iastore hF (by decide +kernel)) ?_
  refine fmS (snd_aloadn hF (k := 0) rfl (by decide +kernel)) ?_
  refine fmS (snd_dup hF (by decide +kernel)) ?_
  refine fmS (snd_geti hF okX7 (k := 4) (by decide) qw121 rfl rfl (by decide +kernel)) ?_
  refine fmS (snd_iconst hF (n := 1) rfl (by decide +kernel)) ?_
  refine fmS (snd_iadd hF (by decide +kernel)) ?_
  refine fmS (snd_puti hF okX7 (k := 4) (by decide) qw121 rfl rfl rfl rfl (by decide +kernel)) ?_
  refine fmS (snd_retV hM (by decide +kernel)) ?_
  exact fmE
theorem iX7_insertCode {d mc ms n : Nat} {av : List Value} {M : PM} {P : PO} (hw : wid av ≤ 3) (hb : ∀ J : KT, (∀ (k : Nat) (stops : Nat → Bool) (pc : Nat) (lv : LV) (st : List Value) (nn : NN) (M : PM), lk (tX7_insertCode d mc ms P) pc (wpN (tX7_insertCode d mc ms P) stops k J) lv st nn M → J pc lv st nn M) → J 0 (entA 0 av) [] (n, 0, 0) M) : CallOK (d + 1) mc ms yX7_insertCode (Cond.code yX7_insertCode cX7_insertCode 3 none) av n M P := call_intro (own := RX7) (by decide) rfl hw (fun _ _ _ _ _ _ _ _ _ _ _ _ _ hM => sX7_insertCode hM) hb
def tX7_isVariable (d mc ms : Nat) (P : PO) : List (Nat × OP) := [(0, oIld 0 1), (1, oPush (.int 115) 3), (3, oIc (fun x y => x < y) 16 6), (6, oIld 0 7), (7, oPush (.int 122) 9), (9, oIc (fun x y => y < x) 16 12), (12, oPush (.int 1) 13), (13, oGoto 17), (16, oPush (.int 0) 17), (17, oRetZ mc ms P)]
set_option maxRecDepth 20000 in
theorem sX7_isVariable {p : Program} {l : Launch} {e : Env} {s : State} {m : MethodId} {args : Array Value} {below : List Frame} {meth : Method} {c : Code} {D : va_G} {cA : Nat → ClassId} {ad0 : Nat → Nat} {n0 sz d mc ms : Nat} {P : PO} (hM : FM p l s m args meth c D cA 1 ad0 n0 sz cX7_isVariable RX7 (some .boolean) [] yX7_isVariable.name) : ∀ q ∈ tX7_isVariable d mc ms P, Snd (jM p l e s m args below meth c D cA 1 ad0 n0 sz (d + 1) mc ms P) q.1 q.2 := by
  have hF := hM.1
  have hts := hF.2.2.2.2.1
  unfold tX7_isVariable
  refine fmS (snd_iloadn hF (k := 0) rfl (by decide +kernel)) ?_
  refine fmS (snd_bipush hF (n := 115) (by decide +kernel) (by decide +kernel)) ?_
  refine fmS (snd_icmp_lt hF (off := 13) (by decide) (by decide +kernel)) ?_
  refine fmS (snd_iloadn hF (k := 0) rfl (by decide +kernel)) ?_
  refine fmS (snd_bipush hF (n := 122) (by decide +kernel) (by decide +kernel)) ?_
  refine fmS (snd_icmp_gt hF (off := 7) (by decide) (by decide +kernel)) ?_
  refine fmS (snd_iconst hF (n := 1) rfl (by decide +kernel)) ?_
  refine fmS (snd_goto hF (off := 4) (by decide) (by decide +kernel)) ?_
  refine fmS (snd_iconst hF (n := 0) rfl (by decide +kernel)) ?_
  refine fmS (snd_retZ hM (by decide +kernel)) ?_
  exact fmE
theorem iX7_isVariable {d mc ms n : Nat} {av : List Value} {M : PM} {P : PO} (hw : wid av ≤ 1) (hb : ∀ J : KT, (∀ (k : Nat) (stops : Nat → Bool) (pc : Nat) (lv : LV) (st : List Value) (nn : NN) (M : PM), lk (tX7_isVariable d mc ms P) pc (wpN (tX7_isVariable d mc ms P) stops k J) lv st nn M → J pc lv st nn M) → J 0 (entA 0 av) [] (n, 0, 0) M) : CallOK (d + 1) mc ms yX7_isVariable (Cond.code yX7_isVariable cX7_isVariable 1 (some .boolean)) av n M P := call_intro (own := RX7) (by decide) rfl hw (fun _ _ _ _ _ _ _ _ _ _ _ _ _ hM => sX7_isVariable hM) hb
def tX7_isDigit (d mc ms : Nat) (P : PO) : List (Nat × OP) := [(0, oIld 0 1), (1, oPush (.int 48) 3), (3, oIc (fun x y => x < y) 16 6), (6, oIld 0 7), (7, oPush (.int 57) 9), (9, oIc (fun x y => y < x) 16 12), (12, oPush (.int 1) 13), (13, oGoto 17), (16, oPush (.int 0) 17), (17, oRetZ mc ms P)]
set_option maxRecDepth 20000 in
theorem sX7_isDigit {p : Program} {l : Launch} {e : Env} {s : State} {m : MethodId} {args : Array Value} {below : List Frame} {meth : Method} {c : Code} {D : va_G} {cA : Nat → ClassId} {ad0 : Nat → Nat} {n0 sz d mc ms : Nat} {P : PO} (hM : FM p l s m args meth c D cA 1 ad0 n0 sz cX7_isDigit RX7 (some .boolean) [] yX7_isDigit.name) : ∀ q ∈ tX7_isDigit d mc ms P, Snd (jM p l e s m args below meth c D cA 1 ad0 n0 sz (d + 1) mc ms P) q.1 q.2 := by
  have hF := hM.1
  have hts := hF.2.2.2.2.1
  unfold tX7_isDigit
  refine fmS (snd_iloadn hF (k := 0) rfl (by decide +kernel)) ?_
  refine fmS (snd_bipush hF (n := 48) (by decide +kernel) (by decide +kernel)) ?_
  refine fmS (snd_icmp_lt hF (off := 13) (by decide) (by decide +kernel)) ?_
  refine fmS (snd_iloadn hF (k := 0) rfl (by decide +kernel)) ?_
  refine fmS (snd_bipush hF (n := 57) (by decide +kernel) (by decide +kernel)) ?_
  refine fmS (snd_icmp_gt hF (off := 7) (by decide) (by decide +kernel)) ?_
  refine fmS (snd_iconst hF (n := 1) rfl (by decide +kernel)) ?_
  refine fmS (snd_goto hF (off := 4) (by decide) (by decide +kernel)) ?_
  refine fmS (snd_iconst hF (n := 0) rfl (by decide +kernel)) ?_
  refine fmS (snd_retZ hM (by decide +kernel)) ?_
  exact fmE
theorem iX7_isDigit {d mc ms n : Nat} {av : List Value} {M : PM} {P : PO} (hw : wid av ≤ 1) (hb : ∀ J : KT, (∀ (k : Nat) (stops : Nat → Bool) (pc : Nat) (lv : LV) (st : List Value) (nn : NN) (M : PM), lk (tX7_isDigit d mc ms P) pc (wpN (tX7_isDigit d mc ms P) stops k J) lv st nn M → J pc lv st nn M) → J 0 (entA 0 av) [] (n, 0, 0) M) : CallOK (d + 1) mc ms yX7_isDigit (Cond.code yX7_isDigit cX7_isDigit 1 (some .boolean)) av n M P := call_intro (own := RX7) (by decide) rfl hw (fun _ _ _ _ _ _ _ _ _ _ _ _ _ hM => sX7_isDigit hM) hb
def tX7_codeOf (d mc ms : Nat) (P : PO) : List (Nat × OP) := [(0, oIld 0 1), (1, oPush (.int 38) 3), (3, oIc (fun x y => x = y) 6 10), (6, oPush (.int 302) 9), (9, oRetI mc ms P), (10, oIld 0 11), (11, oPush (.int 124) 13), (13, oIc (fun x y => x = y) 16 20), (16, oPush (.int 303) 19), (19, oRetI mc ms P), (20, oIld 0 21), (21, oPush (.int 94) 23), (23, oIc (fun x y => x = y) 26 30), (26, oPush (.int 304) 29), (29, oRetI mc ms P), (30, oIld 0 31), (31, oPush (.int 43) 33), (33, oIc (fun x y => x = y) 36 40), (36, oPush (.int 300) 39), (39, oRetI mc ms P), (40, oIld 0 41), (41, oPush (.int 45) 43), (43, oIc (fun x y => x = y) 46 50), (46, oPush (.int 307) 49), (49, oRetI mc ms P), (50, oIld 0 51), (51, oPush (.int 42) 53), (53, oIc (fun x y => x = y) 56 62), (56, oPush (.int 301) 59), (59, oGoto 63), (62, oPush (.int (-1)) 63), (63, oRetI mc ms P)]
set_option maxRecDepth 20000 in
theorem sX7_codeOf {p : Program} {l : Launch} {e : Env} {s : State} {m : MethodId} {args : Array Value} {below : List Frame} {meth : Method} {c : Code} {D : va_G} {cA : Nat → ClassId} {ad0 : Nat → Nat} {n0 sz d mc ms : Nat} {P : PO} (hM : FM p l s m args meth c D cA 1 ad0 n0 sz cX7_codeOf RX7 (some .int) [] yX7_codeOf.name) : ∀ q ∈ tX7_codeOf d mc ms P, Snd (jM p l e s m args below meth c D cA 1 ad0 n0 sz (d + 1) mc ms P) q.1 q.2 := by
  have hF := hM.1
  have hts := hF.2.2.2.2.1
  unfold tX7_codeOf
  refine fmS (snd_iloadn hF (k := 0) rfl (by decide +kernel)) ?_
  refine fmS (snd_bipush hF (n := 38) (by decide +kernel) (by decide +kernel)) ?_
  refine fmS (snd_icmp_ne hF (off := 7) (by decide) (by decide +kernel)) ?_
  refine fmS (snd_sipush hF (n := 302) (by decide +kernel) (by decide +kernel)) ?_
  refine fmS (snd_retI hM (by decide +kernel)) ?_
  refine fmS (snd_iloadn hF (k := 0) rfl (by decide +kernel)) ?_
  refine fmS (snd_bipush hF (n := 124) (by decide +kernel) (by decide +kernel)) ?_
  refine fmS (snd_icmp_ne hF (off := 7) (by decide) (by decide +kernel)) ?_
  refine fmS (snd_sipush hF (n := 303) (by decide +kernel) (by decide +kernel)) ?_
  refine fmS (snd_retI hM (by decide +kernel)) ?_
  refine fmS (snd_iloadn hF (k := 0) rfl (by decide +kernel)) ?_
  refine fmS (snd_bipush hF (n := 94) (by decide +kernel) (by decide +kernel)) ?_
  refine fmS (snd_icmp_ne hF (off := 7) (by decide) (by decide +kernel)) ?_
  refine fmS (snd_sipush hF (n := 304) (by decide +kernel) (by decide +kernel)) ?_
  refine fmS (snd_retI hM (by decide +kernel)) ?_
  refine fmS (snd_iloadn hF (k := 0) rfl (by decide +kernel)) ?_
  refine fmS (snd_bipush hF (n := 43) (by decide +kernel) (by decide +kernel)) ?_
  refine fmS (snd_icmp_ne hF (off := 7) (by decide) (by decide +kernel)) ?_
  refine fmS (snd_sipush hF (n := 300) (by decide +kernel) (by decide +kernel)) ?_
  refine fmS (snd_retI hM (by decide +kernel)) ?_
  refine fmS (snd_iloadn hF (k := 0) rfl (by decide +kernel)) ?_
  refine fmS (snd_bipush hF (n := 45) (by decide +kernel) (by decide +kernel)) ?_
  refine fmS (snd_icmp_ne hF (off := 7) (by decide) (by decide +kernel)) ?_
  refine fmS (snd_sipush hF (n := 307) (by decide +kernel) (by decide +kernel)) ?_
  refine fmS (snd_retI hM (by decide +kernel)) ?_
  refine fmS (snd_iloadn hF (k := 0) rfl (by decide +kernel)) ?_
  refine fmS (snd_bipush hF (n := 42) (by decide +kernel) (by decide +kernel)) ?_
  refine fmS (snd_icmp_ne hF (off := 9) (by decide) (by decide +kernel)) ?_
  refine fmS (snd_sipush hF (n := 301) (by decide +kernel) (by decide +kernel)) ?_
  refine fmS (snd_goto hF (off := 4) (by decide) (by decide +kernel)) ?_
  refine fmS (snd_iconst hF (n := (-1)) rfl (by decide +kernel)) ?_
  refine fmS (snd_retI hM (by decide +kernel)) ?_
  exact fmE
theorem iX7_codeOf {d mc ms n : Nat} {av : List Value} {M : PM} {P : PO} (hw : wid av ≤ 1) (hb : ∀ J : KT, (∀ (k : Nat) (stops : Nat → Bool) (pc : Nat) (lv : LV) (st : List Value) (nn : NN) (M : PM), lk (tX7_codeOf d mc ms P) pc (wpN (tX7_codeOf d mc ms P) stops k J) lv st nn M → J pc lv st nn M) → J 0 (entA 0 av) [] (n, 0, 0) M) : CallOK (d + 1) mc ms yX7_codeOf (Cond.code yX7_codeOf cX7_codeOf 1 (some .int)) av n M P := call_intro (own := RX7) (by decide) rfl hw (fun _ _ _ _ _ _ _ _ _ _ _ _ _ hM => sX7_codeOf hM) hb
def tX7_levelOf (d mc ms : Nat) (P : PO) : List (Nat × OP) := [(0, oIld 0 1), (1, oPush (.int 302) 4), (4, oIc (fun x y => x = y) 21 7), (7, oIld 0 8), (8, oPush (.int 303) 11), (11, oIc (fun x y => x = y) 21 14), (14, oIld 0 15), (15, oPush (.int 304) 18), (18, oIc (fun x y => x = y) 21 23), (21, oPush (.int 0) 22), (22, oRetI mc ms P), (23, oIld 0 24), (24, oPush (.int 300) 27), (27, oIc (fun x y => x = y) 37 30), (30, oIld 0 31), (31, oPush (.int 307) 34), (34, oIc (fun x y => x = y) 37 39), (37, oPush (.int 1) 38), (38, oRetI mc ms P), (39, oIld 0 40), (40, oPush (.int 301) 43), (43, oIc (fun x y => x = y) 46 50), (46, oPush (.int 2) 47), (47, oGoto 51), (50, oPush (.int (-1)) 51), (51, oRetI mc ms P)]
set_option maxRecDepth 20000 in
theorem sX7_levelOf {p : Program} {l : Launch} {e : Env} {s : State} {m : MethodId} {args : Array Value} {below : List Frame} {meth : Method} {c : Code} {D : va_G} {cA : Nat → ClassId} {ad0 : Nat → Nat} {n0 sz d mc ms : Nat} {P : PO} (hM : FM p l s m args meth c D cA 1 ad0 n0 sz cX7_levelOf RX7 (some .int) [] yX7_levelOf.name) : ∀ q ∈ tX7_levelOf d mc ms P, Snd (jM p l e s m args below meth c D cA 1 ad0 n0 sz (d + 1) mc ms P) q.1 q.2 := by
  have hF := hM.1
  have hts := hF.2.2.2.2.1
  unfold tX7_levelOf
  refine fmS (snd_iloadn hF (k := 0) rfl (by decide +kernel)) ?_
  refine fmS (snd_sipush hF (n := 302) (by decide +kernel) (by decide +kernel)) ?_
  refine fmS (snd_icmp_eq hF (off := 17) (by decide) (by decide +kernel)) ?_
  refine fmS (snd_iloadn hF (k := 0) rfl (by decide +kernel)) ?_
  refine fmS (snd_sipush hF (n := 303) (by decide +kernel) (by decide +kernel)) ?_
  refine fmS (snd_icmp_eq hF (off := 10) (by decide) (by decide +kernel)) ?_
  refine fmS (snd_iloadn hF (k := 0) rfl (by decide +kernel)) ?_
  refine fmS (snd_sipush hF (n := 304) (by decide +kernel) (by decide +kernel)) ?_
  refine fmS (snd_icmp_ne hF (off := 5) (by decide) (by decide +kernel)) ?_
  refine fmS (snd_iconst hF (n := 0) rfl (by decide +kernel)) ?_
  refine fmS (snd_retI hM (by decide +kernel)) ?_
  refine fmS (snd_iloadn hF (k := 0) rfl (by decide +kernel)) ?_
  refine fmS (snd_sipush hF (n := 300) (by decide +kernel) (by decide +kernel)) ?_
  refine fmS (snd_icmp_eq hF (off := 10) (by decide) (by decide +kernel)) ?_
  refine fmS (snd_iloadn hF (k := 0) rfl (by decide +kernel)) ?_
  refine fmS (snd_sipush hF (n := 307) (by decide +kernel) (by decide +kernel)) ?_
  refine fmS (snd_icmp_ne hF (off := 5) (by decide) (by decide +kernel)) ?_
  refine fmS (snd_iconst hF (n := 1) rfl (by decide +kernel)) ?_
  refine fmS (snd_retI hM (by decide +kernel)) ?_
  refine fmS (snd_iloadn hF (k := 0) rfl (by decide +kernel)) ?_
  refine fmS (snd_sipush hF (n := 301) (by decide +kernel) (by decide +kernel)) ?_
  refine fmS (snd_icmp_ne hF (off := 7) (by decide) (by decide +kernel)) ?_
  refine fmS (snd_iconst hF (n := 2) rfl (by decide +kernel)) ?_
  refine fmS (snd_goto hF (off := 4) (by decide) (by decide +kernel)) ?_
  refine fmS (snd_iconst hF (n := (-1)) rfl (by decide +kernel)) ?_
  refine fmS (snd_retI hM (by decide +kernel)) ?_
  exact fmE
theorem iX7_levelOf {d mc ms n : Nat} {av : List Value} {M : PM} {P : PO} (hw : wid av ≤ 1) (hb : ∀ J : KT, (∀ (k : Nat) (stops : Nat → Bool) (pc : Nat) (lv : LV) (st : List Value) (nn : NN) (M : PM), lk (tX7_levelOf d mc ms P) pc (wpN (tX7_levelOf d mc ms P) stops k J) lv st nn M → J pc lv st nn M) → J 0 (entA 0 av) [] (n, 0, 0) M) : CallOK (d + 1) mc ms yX7_levelOf (Cond.code yX7_levelOf cX7_levelOf 1 (some .int)) av n M P := call_intro (own := RX7) (by decide) rfl hw (fun _ _ _ _ _ _ _ _ _ _ _ _ _ hM => sX7_levelOf hM) hb
