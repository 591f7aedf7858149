def tL_append (d mc ms : Nat) (P : PO) : List (Nat × OP) := [(0, oAld 2 1), (1, oPush (.int 0) 2), (2, oAld 0 3), (3, oIld 1 4), (4, oCallH d mc ms 1 6 yX9_append (Cond.code yX9_append cX9_append 5 (some .int)) 1 9 7 [(0, 12), (1, 15)]), (7, oIcv (fun x => .long x.toInt64) 8), (8, oSl 9), (9, oGoto 18), (12, oAst 3 13), (13, oPush (.int 1) 14), (14, oRetI mc ms P), (15, oAst 3 16), (16, oPush (.int 2) 17), (17, oRetI mc ms P), (18, oPush (.int 0) 19), (19, oRetI mc ms P)]
set_option maxRecDepth 20000 in
theorem sL_append {p : Program} {l : Launch} {e : Env} {s : State} {m : MethodId} {args : Array Value} {below : List Frame} {meth : Method} {c : Code} {D : va_G} {cA : Nat → ClassId} {ad0 : Nat → Nat} {n0 sz d mc ms : Nat} {P : PO} (hM : FM p l s m args meth c D cA 4 ad0 n0 sz cL_append RL (some .int) (tableOf [(0, 9, 12, 13), (0, 9, 15, 15)]) yL_append.name) : ∀ q ∈ tL_append d mc ms P, Snd (jM p l e s m args below meth c D cA 4 ad0 n0 sz (d + 1) mc ms P) q.1 q.2 := by
  have hF := hM.1
  have hts := hF.2.2.2.2.1
  unfold tL_append
  refine fmS (snd_aloadn hF (k := 2) rfl (by decide +kernel)) ?_
  refine fmS (snd_iconst hF (n := 0) rfl (by decide +kernel)) ?_
  refine fmS (snd_aloadn hF (k := 0) rfl (by decide +kernel)) ?_
  refine fmS (snd_iloadn hF (k := 1) rfl (by decide +kernel)) ?_
  refine fmS (snd_callH hM k_X9_append okX9 qw412 qw413 (hts _ qw414) (hsC ⟨[], ⟨0, 9, 12, 13⟩, [⟨0, 9, 15, 15⟩], rfl, rfl, rfl, by decide, qw410, qw418, (fun _ h => absurd h List.not_mem_nil)⟩ (hsC ⟨[⟨0, 9, 12, 13⟩], ⟨0, 9, 15, 15⟩, [], rfl, rfl, rfl, by decide, qw411, qw488, (List.forall_mem_cons.mpr ⟨⟨by decide, 0, by decide, by decide, by decide, qw410⟩, (fun _ h => absurd h List.not_mem_nil)⟩)⟩ hsN)) (by decide +kernel)) ?_
  refine fmS (snd_i2l hF (by decide +kernel)) ?_
  refine fmS (snd_lastore hF (by decide +kernel)) ?_
  refine fmS (snd_goto hF (off := 9) (by decide) (by decide +kernel)) ?_
  refine fmS (snd_astoren hF (k := 3) rfl (by decide) (by decide +kernel)) ?_
  refine fmS (snd_iconst hF (n := 1) rfl (by decide +kernel)) ?_
  refine fmS (snd_retI hM (by decide +kernel)) ?_
  refine fmS (snd_astoren hF (k := 3) rfl (by decide) (by decide +kernel)) ?_
  refine fmS (snd_iconst hF (n := 2) rfl (by decide +kernel)) ?_
  refine fmS (snd_retI hM (by decide +kernel)) ?_
  refine fmS (snd_iconst hF (n := 0) rfl (by decide +kernel)) ?_
  refine fmS (snd_retI hM (by decide +kernel)) ?_
  exact fmE
theorem iL_append {d mc ms n : Nat} {av : List Value} {M : PM} {P : PO} (hw : wid av ≤ 4) (hb : ∀ J : KT, (∀ (k : Nat) (stops : Nat → Bool) (pc : Nat) (lv : LV) (st : List Value) (nn : NN) (M : PM), lk (tL_append d mc ms P) pc (wpN (tL_append d mc ms P) stops k J) lv st nn M → J pc lv st nn M) → J 0 (entA 0 av) [] (n, 0, 0) M) : CallOK (d + 1) mc ms yL_append (Cond.codeWith yL_append cL_append 4 (some .int) [(0, 9, 12, 13), (0, 9, 15, 15)]) av n M P := call_introH (own := RL) (by decide) rfl hw (fun _ _ _ _ _ _ _ _ _ _ _ _ _ hM => sL_append hM) hb
def tL_load (d mc ms : Nat) (P : PO) : List (Nat × OP) := [(0, oAld 1 1), (1, oPush (.int 0) 2), (2, oAld 0 3), (3, oCallH d mc ms 1 6 yX9_load (Cond.code yX9_load cX9_load 3 (some .int)) 0 9 6 [(0, 11), (1, 14)]), (6, oIcv (fun x => .long x.toInt64) 7), (7, oSl 8), (8, oGoto 17), (11, oAst 2 12), (12, oPush (.int 1) 13), (13, oRetI mc ms P), (14, oAst 2 15), (15, oPush (.int 2) 16), (16, oRetI mc ms P), (17, oPush (.int 0) 18), (18, oRetI mc ms P)]
set_option maxRecDepth 20000 in
theorem sL_load {p : Program} {l : Launch} {e : Env} {s : State} {m : MethodId} {args : Array Value} {below : List Frame} {meth : Method} {c : Code} {D : va_G} {cA : Nat → ClassId} {ad0 : Nat → Nat} {n0 sz d mc ms : Nat} {P : PO} (hM : FM p l s m args meth c D cA 3 ad0 n0 sz cL_load RL (some .int) (tableOf [(0, 8, 11, 13), (0, 8, 14, 15)]) yL_load.name) : ∀ q ∈ tL_load d mc ms P, Snd (jM p l e s m args below meth c D cA 3 ad0 n0 sz (d + 1) mc ms P) q.1 q.2 := by
  have hF := hM.1
  have hts := hF.2.2.2.2.1
  unfold tL_load
  refine fmS (snd_aloadn hF (k := 1) rfl (by decide +kernel)) ?_
  refine fmS (snd_iconst hF (n := 0) rfl (by decide +kernel)) ?_
  refine fmS (snd_aloadn hF (k := 0) rfl (by decide +kernel)) ?_
  refine fmS (snd_callH hM k_X9_load okX9 qw509 qw510 (hts _ qw511) (hsC ⟨[], ⟨0, 8, 11, 13⟩, [⟨0, 8, 14, 15⟩], rfl, rfl, rfl, by decide, qw410, qw418, (fun _ h => absurd h List.not_mem_nil)⟩ (hsC ⟨[⟨0, 8, 11, 13⟩], ⟨0, 8, 14, 15⟩, [], rfl, rfl, rfl, by decide, qw411, qw488, (List.forall_mem_cons.mpr ⟨⟨by decide, 0, by decide, by decide, by decide, qw410⟩, (fun _ h => absurd h List.not_mem_nil)⟩)⟩ hsN)) (by decide +kernel)) ?_
  refine fmS (snd_i2l hF (by decide +kernel)) ?_
  refine fmS (snd_lastore hF (by decide +kernel)) ?_
  refine fmS (snd_goto hF (off := 9) (by decide) (by decide +kernel)) ?_
  refine fmS (snd_astoren hF (k := 2) rfl (by decide) (by decide +kernel)) ?_
  refine fmS (snd_iconst hF (n := 1) rfl (by decide +kernel)) ?_
  refine fmS (snd_retI hM (by decide +kernel)) ?_
  refine fmS (snd_astoren hF (k := 2) rfl (by decide) (by decide +kernel)) ?_
  refine fmS (snd_iconst hF (n := 2) rfl (by decide +kernel)) ?_
  refine fmS (snd_retI hM (by decide +kernel)) ?_
  refine fmS (snd_iconst hF (n := 0) rfl (by decide +kernel)) ?_
  refine fmS (snd_retI hM (by decide +kernel)) ?_
  exact fmE
theorem iL_load {d mc ms n : Nat} {av : List Value} {M : PM} {P : PO} (hw : wid av ≤ 3) (hb : ∀ J : KT, (∀ (k : Nat) (stops : Nat → Bool) (pc : Nat) (lv : LV) (st : List Value) (nn : NN) (M : PM), lk (tL_load d mc ms P) pc (wpN (tL_load d mc ms P) stops k J) lv st nn M → J pc lv st nn M) → J 0 (entA 0 av) [] (n, 0, 0) M) : CallOK (d + 1) mc ms yL_load (Cond.codeWith yL_load cL_load 3 (some .int) [(0, 8, 11, 13), (0, 8, 14, 15)]) av n M P := call_introH (own := RL) (by decide) rfl hw (fun _ _ _ _ _ _ _ _ _ _ _ _ _ hM => sL_load hM) hb
def tL_setMode (d mc ms : Nat) (P : PO) : List (Nat × OP) := [(0, oAld 2 1), (1, oPush (.int 0) 2), (2, oAld 0 3), (3, oIld 1 4), (4, oCallH d mc ms 1 6 yX9_setMode (Cond.code yX9_setMode cX9_setMode 3 (some .int)) 1 9 7 [(0, 12)]), (7, oIcv (fun x => .long x.toInt64) 8), (8, oSl 9), (9, oGoto 15), (12, oAst 3 13), (13, oPush (.int 1) 14), (14, oRetI mc ms P), (15, oPush (.int 0) 16), (16, oRetI mc ms P)]
set_option maxRecDepth 20000 in
theorem sL_setMode {p : Program} {l : Launch} {e : Env} {s : State} {m : MethodId} {args : Array Value} {below : List Frame} {meth : Method} {c : Code} {D : va_G} {cA : Nat → ClassId} {ad0 : Nat → Nat} {n0 sz d mc ms : Nat} {P : PO} (hM : FM p l s m args meth c D cA 4 ad0 n0 sz cL_setMode RL (some .int) (tableOf [(0, 9, 12, 13)]) yL_setMode.name) : ∀ q ∈ tL_setMode d mc ms P, Snd (jM p l e s m args below meth c D cA 4 ad0 n0 sz (d + 1) mc ms P) q.1 q.2 := by
  have hF := hM.1
  have hts := hF.2.2.2.2.1
  unfold tL_setMode
  refine fmS (snd_aloadn hF (k := 2) rfl (by decide +kernel)) ?_
  refine fmS (snd_iconst hF (n := 0) rfl (by decide +kernel)) ?_
  refine fmS (snd_aloadn hF (k := 0) rfl (by decide +kernel)) ?_
  refine fmS (snd_iloadn hF (k := 1) rfl (by decide +kernel)) ?_
  refine fmS (snd_callH hM k_X9_setMode okX9 qw723 qw724 (hts _ qw725) (hsC ⟨[], ⟨0, 9, 12, 13⟩, [], rfl, rfl, rfl, by decide, qw410, qw418, (fun _ h => absurd h List.not_mem_nil)⟩ hsN) (by decide +kernel)) ?_
  refine fmS (snd_i2l hF (by decide +kernel)) ?_
  refine fmS (snd_lastore hF (by decide +kernel)) ?_
  refine fmS (snd_goto hF (off := 6) (by decide) (by decide +kernel)) ?_
  refine fmS (snd_astoren hF (k := 3) rfl (by decide) (by decide +kernel)) ?_
  refine fmS (snd_iconst hF (n := 1) rfl (by decide +kernel)) ?_
  refine fmS (snd_retI hM (by decide +kernel)) ?_
  refine fmS (snd_iconst hF (n := 0) rfl (by decide +kernel)) ?_
  refine fmS (snd_retI hM (by decide +kernel)) ?_
  exact fmE
theorem iL_setMode {d mc ms n : Nat} {av : List Value} {M : PM} {P : PO} (hw : wid av ≤ 4) (hb : ∀ J : KT, (∀ (k : Nat) (stops : Nat → Bool) (pc : Nat) (lv : LV) (st : List Value) (nn : NN) (M : PM), lk (tL_setMode d mc ms P) pc (wpN (tL_setMode d mc ms P) stops k J) lv st nn M → J pc lv st nn M) → J 0 (entA 0 av) [] (n, 0, 0) M) : CallOK (d + 1) mc ms yL_setMode (Cond.codeWith yL_setMode cL_setMode 4 (some .int) [(0, 9, 12, 13)]) av n M P := call_introH (own := RL) (by decide) rfl hw (fun _ _ _ _ _ _ _ _ _ _ _ _ _ hM => sL_setMode hM) hb
def tL_setCount (d mc ms : Nat) (P : PO) : List (Nat × OP) := [(0, oAld 2 1), (1, oPush (.int 0) 2), (2, oAld 0 3), (3, oIld 1 4), (4, oCallH d mc ms 1 6 yX9_setCount (Cond.code yX9_setCount cX9_setCount 3 (some .int)) 1 9 7 [(0, 12)]), (7, oIcv (fun x => .long x.toInt64) 8), (8, oSl 9), (9, oGoto 15), (12, oAst 3 13), (13, oPush (.int 1) 14), (14, oRetI mc ms P), (15, oPush (.int 0) 16), (16, oRetI mc ms P)]
set_option maxRecDepth 20000 in
theorem sL_setCount {p : Program} {l : Launch} {e : Env} {s : State} {m : MethodId} {args : Array Value} {below : List Frame} {meth : Method} {c : Code} {D : va_G} {cA : Nat → ClassId} {ad0 : Nat → Nat} {n0 sz d mc ms : Nat} {P : PO} (hM : FM p l s m args meth c D cA 4 ad0 n0 sz cL_setCount RL (some .int) (tableOf [(0, 9, 12, 13)]) yL_setCount.name) : ∀ q ∈ tL_setCount d mc ms P, Snd (jM p l e s m args below meth c D cA 4 ad0 n0 sz (d + 1) mc ms P) q.1 q.2 := by
  have hF := hM.1
  have hts := hF.2.2.2.2.1
  unfold tL_setCount
  refine fmS (snd_aloadn hF (k := 2) rfl (by decide +kernel)) ?_
  refine fmS (snd_iconst hF (n := 0) rfl (by decide +kernel)) ?_
  refine fmS (snd_aloadn hF (k := 0) rfl (by decide +kernel)) ?_
  refine fmS (snd_iloadn hF (k := 1) rfl (by decide +kernel)) ?_
  refine fmS (snd_callH hM k_X9_setCount okX9 qw731 qw732 (hts _ qw733) (hsC ⟨[], ⟨0, 9, 12, 13⟩, [], rfl, rfl, rfl, by decide, qw410, qw418, (fun _ h => absurd h List.not_mem_nil)⟩ hsN) (by decide +kernel)) ?_
  refine fmS (snd_i2l hF (by decide +kernel)) ?_
  refine fmS (snd_lastore hF (by decide +kernel)) ?_
  refine fmS (snd_goto hF (off := 6) (by decide) (by decide +kernel)) ?_
  refine fmS (snd_astoren hF (k := 3) rfl (by decide) (by decide +kernel)) ?_
  refine fmS (snd_iconst hF (n := 1) rfl (by decide +kernel)) ?_
  refine fmS (snd_retI hM (by decide +kernel)) ?_
  refine fmS (snd_iconst hF (n := 0) rfl (by decide +kernel)) ?_
  refine fmS (snd_retI hM (by decide +kernel)) ?_
  exact fmE
theorem iL_setCount {d mc ms n : Nat} {av : List Value} {M : PM} {P : PO} (hw : wid av ≤ 4) (hb : ∀ J : KT, (∀ (k : Nat) (stops : Nat → Bool) (pc : Nat) (lv : LV) (st : List Value) (nn : NN) (M : PM), lk (tL_setCount d mc ms P) pc (wpN (tL_setCount d mc ms P) stops k J) lv st nn M → J pc lv st nn M) → J 0 (entA 0 av) [] (n, 0, 0) M) : CallOK (d + 1) mc ms yL_setCount (Cond.codeWith yL_setCount cL_setCount 4 (some .int) [(0, 9, 12, 13)]) av n M P := call_introH (own := RL) (by decide) rfl hw (fun _ _ _ _ _ _ _ _ _ _ _ _ _ hM => sL_setCount hM) hb
def tL_setElement (d mc ms : Nat) (P : PO) : List (Nat × OP) := [(0, oAld 4 2), (2, oPush (.int 0) 3), (3, oAld 0 4), (4, oIld 1 5), (5, oIld 2 6), (6, oIld 3 7), (7, oCallH d mc ms 2 12 yX9_setElement (Cond.code yX9_setElement cX9_setElement 5 (some .int)) 3 9 10 [(2, 15), (0, 19)]), (10, oIcv (fun x => .long x.toInt64) 11), (11, oSl 12), (12, oGoto 23), (15, oAst 5 17), (17, oPush (.int 1) 18), (18, oRetI mc ms P), (19, oAst 5 21), (21, oPush (.int 2) 22), (22, oRetI mc ms P), (23, oPush (.int 0) 24), (24, oRetI mc ms P)]
set_option maxRecDepth 20000 in
theorem sL_setElement {p : Program} {l : Launch} {e : Env} {s : State} {m : MethodId} {args : Array Value} {below : List Frame} {meth : Method} {c : Code} {D : va_G} {cA : Nat → ClassId} {ad0 : Nat → Nat} {n0 sz d mc ms : Nat} {P : PO} (hM : FM p l s m args meth c D cA 6 ad0 n0 sz cL_setElement RL (some .int) (tableOf [(0, 12, 15, 31), (0, 12, 19, 13)]) yL_setElement.name) : ∀ q ∈ tL_setElement d mc ms P, Snd (jM p l e s m args below meth c D cA 6 ad0 n0 sz (d + 1) mc ms P) q.1 q.2 := by
  have hF := hM.1
  have hts := hF.2.2.2.2.1
  unfold tL_setElement
  refine fmS (snd_aload hF (by decide +kernel)) ?_
  refine fmS (snd_iconst hF (n := 0) rfl (by decide +kernel)) ?_
  refine fmS (snd_aloadn hF (k := 0) rfl (by decide +kernel)) ?_
  refine fmS (snd_iloadn hF (k := 1) rfl (by decide +kernel)) ?_
  refine fmS (snd_iloadn hF (k := 2) rfl (by decide +kernel)) ?_
  refine fmS (snd_iloadn hF (k := 3) rfl (by decide +kernel)) ?_
  refine fmS (snd_callH hM k_X9_setElement okX9 qw740 qw741 (hts _ qw742) (hsC ⟨[], ⟨0, 12, 15, 31⟩, [⟨0, 12, 19, 13⟩], rfl, rfl, rfl, by decide, qw739, qw749, (fun _ h => absurd h List.not_mem_nil)⟩ (hsC ⟨[⟨0, 12, 15, 31⟩], ⟨0, 12, 19, 13⟩, [], rfl, rfl, rfl, by decide, qw410, qw418, (List.forall_mem_cons.mpr ⟨⟨by decide, 2, by decide, by decide, by decide, qw739⟩, (fun _ h => absurd h List.not_mem_nil)⟩)⟩ hsN)) (by decide +kernel)) ?_
  refine fmS (snd_i2l hF (by decide +kernel)) ?_
  refine fmS (snd_lastore hF (by decide +kernel)) ?_
  refine fmS (snd_goto hF (off := 11) (by decide) (by decide +kernel)) ?_
  refine fmS (snd_astore hF (by decide) (by decide +kernel)) ?_
  refine fmS (snd_iconst hF (n := 1) rfl (by decide +kernel)) ?_
  refine fmS (snd_retI hM (by decide +kernel)) ?_
  refine fmS (snd_astore hF (by decide) (by decide +kernel)) ?_
  refine fmS (snd_iconst hF (n := 2) rfl (by decide +kernel)) ?_
  refine fmS (snd_retI hM (by decide +kernel)) ?_
  refine fmS (snd_iconst hF (n := 0) rfl (by decide +kernel)) ?_
  refine fmS (snd_retI hM (by decide +kernel)) ?_
  exact fmE
theorem iL_setElement {d mc ms n : Nat} {av : List Value} {M : PM} {P : PO} (hw : wid av ≤ 6) (hb : ∀ J : KT, (∀ (k : Nat) (stops : Nat → Bool) (pc : Nat) (lv : LV) (st : List Value) (nn : NN) (M : PM), lk (tL_setElement d mc ms P) pc (wpN (tL_setElement d mc ms P) stops k J) lv st nn M → J pc lv st nn M) → J 0 (entA 0 av) [] (n, 0, 0) M) : CallOK (d + 1) mc ms yL_setElement (Cond.codeWith yL_setElement cL_setElement 6 (some .int) [(0, 12, 15, 31), (0, 12, 19, 13)]) av n M P := call_introH (own := RL) (by decide) rfl hw (fun _ _ _ _ _ _ _ _ _ _ _ _ _ hM => sL_setElement hM) hb
def tL_fill (d mc ms : Nat) (P : PO) : List (Nat × OP) := [(0, oAld 3 1), (1, oPush (.int 0) 2), (2, oAld 0 3), (3, oIld 1 4), (4, oIld 2 5), (5, oCallH d mc ms 1 6 yX9_fill (Cond.code yX9_fill cX9_fill 7 (some .int)) 2 9 8 [(2, 13)]), (8, oIcv (fun x => .long x.toInt64) 9), (9, oSl 10), (10, oGoto 17), (13, oAst 4 15), (15, oPush (.int 1) 16), (16, oRetI mc ms P), (17, oPush (.int 0) 18), (18, oRetI mc ms P)]
set_option maxRecDepth 20000 in
theorem sL_fill {p : Program} {l : Launch} {e : Env} {s : State} {m : MethodId} {args : Array Value} {below : List Frame} {meth : Method} {c : Code} {D : va_G} {cA : Nat → ClassId} {ad0 : Nat → Nat} {n0 sz d mc ms : Nat} {P : PO} (hM : FM p l s m args meth c D cA 5 ad0 n0 sz cL_fill RL (some .int) (tableOf [(0, 10, 13, 31)]) yL_fill.name) : ∀ q ∈ tL_fill d mc ms P, Snd (jM p l e s m args below meth c D cA 5 ad0 n0 sz (d + 1) mc ms P) q.1 q.2 := by
  have hF := hM.1
  have hts := hF.2.2.2.2.1
  unfold tL_fill
  refine fmS (snd_aloadn hF (k := 3) rfl (by decide +kernel)) ?_
  refine fmS (snd_iconst hF (n := 0) rfl (by decide +kernel)) ?_
  refine fmS (snd_aloadn hF (k := 0) rfl (by decide +kernel)) ?_
  refine fmS (snd_iloadn hF (k := 1) rfl (by decide +kernel)) ?_
  refine fmS (snd_iloadn hF (k := 2) rfl (by decide +kernel)) ?_
  refine fmS (snd_callH hM k_X9_fill okX9 qw767 qw768 (hts _ qw769) (hsC ⟨[], ⟨0, 10, 13, 31⟩, [], rfl, rfl, rfl, by decide, qw739, qw749, (fun _ h => absurd h List.not_mem_nil)⟩ hsN) (by decide +kernel)) ?_
  refine fmS (snd_i2l hF (by decide +kernel)) ?_
  refine fmS (snd_lastore hF (by decide +kernel)) ?_
  refine fmS (snd_goto hF (off := 7) (by decide) (by decide +kernel)) ?_
  refine fmS (snd_astore hF (by decide) (by decide +kernel)) ?_
  refine fmS (snd_iconst hF (n := 1) rfl (by decide +kernel)) ?_
  refine fmS (snd_retI hM (by decide +kernel)) ?_
  refine fmS (snd_iconst hF (n := 0) rfl (by decide +kernel)) ?_
  refine fmS (snd_retI hM (by decide +kernel)) ?_
  exact fmE
theorem iL_fill {d mc ms n : Nat} {av : List Value} {M : PM} {P : PO} (hw : wid av ≤ 5) (hb : ∀ J : KT, (∀ (k : Nat) (stops : Nat → Bool) (pc : Nat) (lv : LV) (st : List Value) (nn : NN) (M : PM), lk (tL_fill d mc ms P) pc (wpN (tL_fill d mc ms P) stops k J) lv st nn M → J pc lv st nn M) → J 0 (entA 0 av) [] (n, 0, 0) M) : CallOK (d + 1) mc ms yL_fill (Cond.codeWith yL_fill cL_fill 5 (some .int) [(0, 10, 13, 31)]) av n M P := call_introH (own := RL) (by decide) rfl hw (fun _ _ _ _ _ _ _ _ _ _ _ _ _ hM => sL_fill hM) hb
def tL_element (d mc ms : Nat) (P : PO) : List (Nat × OP) := [(0, oAld 3 1), (1, oPush (.int 0) 2), (2, oAld 0 3), (3, oIld 1 4), (4, oIld 2 5), (5, oCallH d mc ms 1 6 yX9_element (Cond.code yX9_element cX9_element 3 (some .int)) 2 9 8 [(2, 13)]), (8, oIcv (fun x => .long x.toInt64) 9), (9, oSl 10), (10, oGoto 17), (13, oAst 4 15), (15, oPush (.int 1) 16), (16, oRetI mc ms P), (17, oPush (.int 0) 18), (18, oRetI mc ms P)]
set_option maxRecDepth 20000 in
theorem sL_element {p : Program} {l : Launch} {e : Env} {s : State} {m : MethodId} {args : Array Value} {below : List Frame} {meth : Method} {c : Code} {D : va_G} {cA : Nat → ClassId} {ad0 : Nat → Nat} {n0 sz d mc ms : Nat} {P : PO} (hM : FM p l s m args meth c D cA 5 ad0 n0 sz cL_element RL (some .int) (tableOf [(0, 10, 13, 31)]) yL_element.name) : ∀ q ∈ tL_element d mc ms P, Snd (jM p l e s m args below meth c D cA 5 ad0 n0 sz (d + 1) mc ms P) q.1 q.2 := by
  have hF := hM.1
  have hts := hF.2.2.2.2.1
  unfold tL_element
  refine fmS (snd_aloadn hF (k := 3) rfl (by decide +kernel)) ?_
  refine fmS (snd_iconst hF (n := 0) rfl (by decide +kernel)) ?_
  refine fmS (snd_aloadn hF (k := 0) rfl (by decide +kernel)) ?_
  refine fmS (snd_iloadn hF (k := 1) rfl (by decide +kernel)) ?_
  refine fmS (snd_iloadn hF (k := 2) rfl (by decide +kernel)) ?_
  refine fmS (snd_callH hM k_X9_element okX9 qw776 qw777 (hts _ qw778) (hsC ⟨[], ⟨0, 10, 13, 31⟩, [], rfl, rfl, rfl, by decide, qw739, qw749, (fun _ h => absurd h List.not_mem_nil)⟩ hsN) (by decide +kernel)) ?_
  refine fmS (snd_i2l hF (by decide +kernel)) ?_
  refine fmS (snd_lastore hF (by decide +kernel)) ?_
  refine fmS (snd_goto hF (off := 7) (by decide) (by decide +kernel)) ?_
  refine fmS (snd_astore hF (by decide) (by decide +kernel)) ?_
  refine fmS (snd_iconst hF (n := 1) rfl (by decide +kernel)) ?_
  refine fmS (snd_retI hM (by decide +kernel)) ?_
  refine fmS (snd_iconst hF (n := 0) rfl (by decide +kernel)) ?_
  refine fmS (snd_retI hM (by decide +kernel)) ?_
  exact fmE
theorem iL_element {d mc ms n : Nat} {av : List Value} {M : PM} {P : PO} (hw : wid av ≤ 5) (hb : ∀ J : KT, (∀ (k : Nat) (stops : Nat → Bool) (pc : Nat) (lv : LV) (st : List Value) (nn : NN) (M : PM), lk (tL_element d mc ms P) pc (wpN (tL_element d mc ms P) stops k J) lv st nn M → J pc lv st nn M) → J 0 (entA 0 av) [] (n, 0, 0) M) : CallOK (d + 1) mc ms yL_element (Cond.codeWith yL_element cL_element 5 (some .int) [(0, 10, 13, 31)]) av n M P := call_introH (own := RL) (by decide) rfl hw (fun _ _ _ _ _ _ _ _ _ _ _ _ _ hM => sL_element hM) hb
def tL_setInitial (d mc ms : Nat) (P : PO) : List (Nat × OP) := [(0, oAld 3 1), (1, oPush (.int 0) 2), (2, oAld 0 3), (3, oIld 1 4), (4, oIld 2 5), (5, oCallH d mc ms 2 12 yX9_setInitial (Cond.code yX9_setInitial cX9_setInitial 4 (some .int)) 2 9 8 [(2, 13), (0, 17)]), (8, oIcv (fun x => .long x.toInt64) 9), (9, oSl 10), (10, oGoto 21), (13, oAst 4 15), (15, oPush (.int 1) 16), (16, oRetI mc ms P), (17, oAst 4 19), (19, oPush (.int 2) 20), (20, oRetI mc ms P), (21, oPush (.int 0) 22), (22, oRetI mc ms P)]
set_option maxRecDepth 20000 in
theorem sL_setInitial {p : Program} {l : Launch} {e : Env} {s : State} {m : MethodId} {args : Array Value} {below : List Frame} {meth : Method} {c : Code} {D : va_G} {cA : Nat → ClassId} {ad0 : Nat → Nat} {n0 sz d mc ms : Nat} {P : PO} (hM : FM p l s m args meth c D cA 5 ad0 n0 sz cL_setInitial RL (some .int) (tableOf [(0, 10, 13, 31), (0, 10, 17, 13)]) yL_setInitial.name) : ∀ q ∈ tL_setInitial d mc ms P, Snd (jM p l e s m args below meth c D cA 5 ad0 n0 sz (d + 1) mc ms P) q.1 q.2 := by
  have hF := hM.1
  have hts := hF.2.2.2.2.1
  unfold tL_setInitial
  refine fmS (snd_aloadn hF (k := 3) rfl (by decide +kernel)) ?_
  refine fmS (snd_iconst hF (n := 0) rfl (by decide +kernel)) ?_
  refine fmS (snd_aloadn hF (k := 0) rfl (by decide +kernel)) ?_
  refine fmS (snd_iloadn hF (k := 1) rfl (by decide +kernel)) ?_
  refine fmS (snd_iloadn hF (k := 2) rfl (by decide +kernel)) ?_
  refine fmS (snd_callH hM k_X9_setInitial okX9 qw783 qw784 (hts _ qw785) (hsC ⟨[], ⟨0, 10, 13, 31⟩, [⟨0, 10, 17, 13⟩], rfl, rfl, rfl, by decide, qw739, qw749, (fun _ h => absurd h List.not_mem_nil)⟩ (hsC ⟨[⟨0, 10, 13, 31⟩], ⟨0, 10, 17, 13⟩, [], rfl, rfl, rfl, by decide, qw410, qw418, (List.forall_mem_cons.mpr ⟨⟨by decide, 2, by decide, by decide, by decide, qw739⟩, (fun _ h => absurd h List.not_mem_nil)⟩)⟩ hsN)) (by decide +kernel)) ?_
  refine fmS (snd_i2l hF (by decide +kernel)) ?_
  refine fmS (snd_lastore hF (by decide +kernel)) ?_
  refine fmS (snd_goto hF (off := 11) (by decide) (by decide +kernel)) ?_
  refine fmS (snd_astore hF (by decide) (by decide +kernel)) ?_
  refine fmS (snd_iconst hF (n := 1) rfl (by decide +kernel)) ?_
  refine fmS (snd_retI hM (by decide +kernel)) ?_
  refine fmS (snd_astore hF (by decide) (by decide +kernel)) ?_
  refine fmS (snd_iconst hF (n := 2) rfl (by decide +kernel)) ?_
  refine fmS (snd_retI hM (by decide +kernel)) ?_
  refine fmS (snd_iconst hF (n := 0) rfl (by decide +kernel)) ?_
  refine fmS (snd_retI hM (by decide +kernel)) ?_
  exact fmE
theorem iL_setInitial {d mc ms n : Nat} {av : List Value} {M : PM} {P : PO} (hw : wid av ≤ 5) (hb : ∀ J : KT, (∀ (k : Nat) (stops : Nat → Bool) (pc : Nat) (lv : LV) (st : List Value) (nn : NN) (M : PM), lk (tL_setInitial d mc ms P) pc (wpN (tL_setInitial d mc ms P) stops k J) lv st nn M → J pc lv st nn M) → J 0 (entA 0 av) [] (n, 0, 0) M) : CallOK (d + 1) mc ms yL_setInitial (Cond.codeWith yL_setInitial cL_setInitial 5 (some .int) [(0, 10, 13, 31), (0, 10, 17, 13)]) av n M P := call_introH (own := RL) (by decide) rfl hw (fun _ _ _ _ _ _ _ _ _ _ _ _ _ hM => sL_setInitial hM) hb
def tL_kind (d mc ms : Nat) (P : PO) : List (Nat × OP) := [(0, oAld 2 1), (1, oPush (.int 0) 2), (2, oAld 0 3), (3, oIld 1 4), (4, oCallH d mc ms 1 6 yX9_kind (Cond.code yX9_kind cX9_kind 2 (some .int)) 1 9 7 [(2, 12)]), (7, oIcv (fun x => .long x.toInt64) 8), (8, oSl 9), (9, oGoto 15), (12, oAst 3 13), (13, oPush (.int 1) 14), (14, oRetI mc ms P), (15, oPush (.int 0) 16), (16, oRetI mc ms P)]
set_option maxRecDepth 20000 in
theorem sL_kind {p : Program} {l : Launch} {e : Env} {s : State} {m : MethodId} {args : Array Value} {below : List Frame} {meth : Method} {c : Code} {D : va_G} {cA : Nat → ClassId} {ad0 : Nat → Nat} {n0 sz d mc ms : Nat} {P : PO} (hM : FM p l s m args meth c D cA 4 ad0 n0 sz cL_kind RL (some .int) (tableOf [(0, 9, 12, 31)]) yL_kind.name) : ∀ q ∈ tL_kind d mc ms P, Snd (jM p l e s m args below meth c D cA 4 ad0 n0 sz (d + 1) mc ms P) q.1 q.2 := by
  have hF := hM.1
  have hts := hF.2.2.2.2.1
  unfold tL_kind
  refine fmS (snd_aloadn hF (k := 2) rfl (by decide +kernel)) ?_
  refine fmS (snd_iconst hF (n := 0) rfl (by decide +kernel)) ?_
  refine fmS (snd_aloadn hF (k := 0) rfl (by decide +kernel)) ?_
  refine fmS (snd_iloadn hF (k := 1) rfl (by decide +kernel)) ?_
  refine fmS (snd_callH hM k_X9_kind okX9 qw794 qw795 (hts _ qw796) (hsC ⟨[], ⟨0, 9, 12, 31⟩, [], rfl, rfl, rfl, by decide, qw739, qw749, (fun _ h => absurd h List.not_mem_nil)⟩ hsN) (by decide +kernel)) ?_
  refine fmS (snd_i2l hF (by decide +kernel)) ?_
  refine fmS (snd_lastore hF (by decide +kernel)) ?_
  refine fmS (snd_goto hF (off := 6) (by decide) (by decide +kernel)) ?_
  refine fmS (snd_astoren hF (k := 3) rfl (by decide) (by decide +kernel)) ?_
  refine fmS (snd_iconst hF (n := 1) rfl (by decide +kernel)) ?_
  refine fmS (snd_retI hM (by decide +kernel)) ?_
  refine fmS (snd_iconst hF (n := 0) rfl (by decide +kernel)) ?_
  refine fmS (snd_retI hM (by decide +kernel)) ?_
  exact fmE
theorem iL_kind {d mc ms n : Nat} {av : List Value} {M : PM} {P : PO} (hw : wid av ≤ 4) (hb : ∀ J : KT, (∀ (k : Nat) (stops : Nat → Bool) (pc : Nat) (lv : LV) (st : List Value) (nn : NN) (M : PM), lk (tL_kind d mc ms P) pc (wpN (tL_kind d mc ms P) stops k J) lv st nn M → J pc lv st nn M) → J 0 (entA 0 av) [] (n, 0, 0) M) : CallOK (d + 1) mc ms yL_kind (Cond.codeWith yL_kind cL_kind 4 (some .int) [(0, 9, 12, 31)]) av n M P := call_introH (own := RL) (by decide) rfl hw (fun _ _ _ _ _ _ _ _ _ _ _ _ _ hM => sL_kind hM) hb
def tL_operator (d mc ms : Nat) (P : PO) : List (Nat × OP) := [(0, oAld 2 1), (1, oPush (.int 0) 2), (2, oAld 0 3), (3, oIld 1 4), (4, oCallH d mc ms 2 12 yX9_operator (Cond.code yX9_operator cX9_operator 2 (some .int)) 1 9 7 [(2, 12), (3, 15)]), (7, oIcv (fun x => .long x.toInt64) 8), (8, oSl 9), (9, oGoto 18), (12, oAst 3 13), (13, oPush (.int 1) 14), (14, oRetI mc ms P), (15, oAst 3 16), (16, oPush (.int 2) 17), (17, oRetI mc ms P), (18, oPush (.int 0) 19), (19, oRetI mc ms P)]
set_option maxRecDepth 20000 in
theorem sL_operator {p : Program} {l : Launch} {e : Env} {s : State} {m : MethodId} {args : Array Value} {below : List Frame} {meth : Method} {c : Code} {D : va_G} {cA : Nat → ClassId} {ad0 : Nat → Nat} {n0 sz d mc ms : Nat} {P : PO} (hM : FM p l s m args meth c D cA 4 ad0 n0 sz cL_operator RL (some .int) (tableOf [(0, 9, 12, 31), (0, 9, 15, 49)]) yL_operator.name) : ∀ q ∈ tL_operator d mc ms P, Snd (jM p l e s m args below meth c D cA 4 ad0 n0 sz (d + 1) mc ms P) q.1 q.2 := by
  have hF := hM.1
  have hts := hF.2.2.2.2.1
  unfold tL_operator
  refine fmS (snd_aloadn hF (k := 2) rfl (by decide +kernel)) ?_
  refine fmS (snd_iconst hF (n := 0) rfl (by decide +kernel)) ?_
  refine fmS (snd_aloadn hF (k := 0) rfl (by decide +kernel)) ?_
  refine fmS (snd_iloadn hF (k := 1) rfl (by decide +kernel)) ?_
  refine fmS (snd_callH hM k_X9_operator okX9 qw802 qw803 (hts _ qw804) (hsC ⟨[], ⟨0, 9, 12, 31⟩, [⟨0, 9, 15, 49⟩], rfl, rfl, rfl, by decide, qw739, qw749, (fun _ h => absurd h List.not_mem_nil)⟩ (hsC ⟨[⟨0, 9, 12, 31⟩], ⟨0, 9, 15, 49⟩, [], rfl, rfl, rfl, by decide, qw801, qw812, (List.forall_mem_cons.mpr ⟨⟨by decide, 2, by decide, by decide, by decide, qw739⟩, (fun _ h => absurd h List.not_mem_nil)⟩)⟩ hsN)) (by decide +kernel)) ?_
  refine fmS (snd_i2l hF (by decide +kernel)) ?_
  refine fmS (snd_lastore hF (by decide +kernel)) ?_
  refine fmS (snd_goto hF (off := 9) (by decide) (by decide +kernel)) ?_
  refine fmS (snd_astoren hF (k := 3) rfl (by decide) (by decide +kernel)) ?_
  refine fmS (snd_iconst hF (n := 1) rfl (by decide +kernel)) ?_
  refine fmS (snd_retI hM (by decide +kernel)) ?_
  refine fmS (snd_astoren hF (k := 3) rfl (by decide) (by decide +kernel)) ?_
  refine fmS (snd_iconst hF (n := 2) rfl (by decide +kernel)) ?_
  refine fmS (snd_retI hM (by decide +kernel)) ?_
  refine fmS (snd_iconst hF (n := 0) rfl (by decide +kernel)) ?_
  refine fmS (snd_retI hM (by decide +kernel)) ?_
  exact fmE
theorem iL_operator {d mc ms n : Nat} {av : List Value} {M : PM} {P : PO} (hw : wid av ≤ 4) (hb : ∀ J : KT, (∀ (k : Nat) (stops : Nat → Bool) (pc : Nat) (lv : LV) (st : List Value) (nn : NN) (M : PM), lk (tL_operator d mc ms P) pc (wpN (tL_operator d mc ms P) stops k J) lv st nn M → J pc lv st nn M) → J 0 (entA 0 av) [] (n, 0, 0) M) : CallOK (d + 1) mc ms yL_operator (Cond.codeWith yL_operator cL_operator 4 (some .int) [(0, 9, 12, 31), (0, 9, 15, 49)]) av n M P := call_introH (own := RL) (by decide) rfl hw (fun _ _ _ _ _ _ _ _ _ _ _ _ _ hM => sL_operator hM) hb
def tL_terms (d mc ms : Nat) (P : PO) : List (Nat × OP) := [(0, oAld 2 1), (1, oPush (.int 0) 2), (2, oAld 0 3), (3, oIld 1 4), (4, oCallH d mc ms 2 12 yX9_terms (Cond.code yX9_terms cX9_terms 2 (some .int)) 1 9 7 [(2, 12), (3, 15)]), (7, oIcv (fun x => .long x.toInt64) 8), (8, oSl 9), (9, oGoto 18), (12, oAst 3 13), (13, oPush (.int 1) 14), (14, oRetI mc ms P), (15, oAst 3 16), (16, oPush (.int 2) 17), (17, oRetI mc ms P), (18, oPush (.int 0) 19), (19, oRetI mc ms P)]
set_option maxRecDepth 20000 in
theorem sL_terms {p : Program} {l : Launch} {e : Env} {s : State} {m : MethodId} {args : Array Value} {below : List Frame} {meth : Method} {c : Code} {D : va_G} {cA : Nat → ClassId} {ad0 : Nat → Nat} {n0 sz d mc ms : Nat} {P : PO} (hM : FM p l s m args meth c D cA 4 ad0 n0 sz cL_terms RL (some .int) (tableOf [(0, 9, 12, 31), (0, 9, 15, 49)]) yL_terms.name) : ∀ q ∈ tL_terms d mc ms P, Snd (jM p l e s m args below meth c D cA 4 ad0 n0 sz (d + 1) mc ms P) q.1 q.2 := by
  have hF := hM.1
  have hts := hF.2.2.2.2.1
  unfold tL_terms
  refine fmS (snd_aloadn hF (k := 2) rfl (by decide +kernel)) ?_
  refine fmS (snd_iconst hF (n := 0) rfl (by decide +kernel)) ?_
  refine fmS (snd_aloadn hF (k := 0) rfl (by decide +kernel)) ?_
  refine fmS (snd_iloadn hF (k := 1) rfl (by decide +kernel)) ?_
  refine fmS (snd_callH hM k_X9_terms okX9 qw829 qw830 (hts _ qw831) (hsC ⟨[], ⟨0, 9, 12, 31⟩, [⟨0, 9, 15, 49⟩], rfl, rfl, rfl, by decide, qw739, qw749, (fun _ h => absurd h List.not_mem_nil)⟩ (hsC ⟨[⟨0, 9, 12, 31⟩], ⟨0, 9, 15, 49⟩, [], rfl, rfl, rfl, by decide, qw801, qw812, (List.forall_mem_cons.mpr ⟨⟨by decide, 2, by decide, by decide, by decide, qw739⟩, (fun _ h => absurd h List.not_mem_nil)⟩)⟩ hsN)) (by decide +kernel)) ?_
  refine fmS (snd_i2l hF (by decide +kernel)) ?_
  refine fmS (snd_lastore hF (by decide +kernel)) ?_
  refine fmS (snd_goto hF (off := 9) (by decide) (by decide +kernel)) ?_
  refine fmS (snd_astoren hF (k := 3) rfl (by decide) (by decide +kernel)) ?_
  refine fmS (snd_iconst hF (n := 1) rfl (by decide +kernel)) ?_
  refine fmS (snd_retI hM (by decide +kernel)) ?_
  refine fmS (snd_astoren hF (k := 3) rfl (by decide) (by decide +kernel)) ?_
  refine fmS (snd_iconst hF (n := 2) rfl (by decide +kernel)) ?_
  refine fmS (snd_retI hM (by decide +kernel)) ?_
  refine fmS (snd_iconst hF (n := 0) rfl (by decide +kernel)) ?_
  refine fmS (snd_retI hM (by decide +kernel)) ?_
  exact fmE
theorem iL_terms {d mc ms n : Nat} {av : List Value} {M : PM} {P : PO} (hw : wid av ≤ 4) (hb : ∀ J : KT, (∀ (k : Nat) (stops : Nat → Bool) (pc : Nat) (lv : LV) (st : List Value) (nn : NN) (M : PM), lk (tL_terms d mc ms P) pc (wpN (tL_terms d mc ms P) stops k J) lv st nn M → J pc lv st nn M) → J 0 (entA 0 av) [] (n, 0, 0) M) : CallOK (d + 1) mc ms yL_terms (Cond.codeWith yL_terms cL_terms 4 (some .int) [(0, 9, 12, 31), (0, 9, 15, 49)]) av n M P := call_introH (own := RL) (by decide) rfl hw (fun _ _ _ _ _ _ _ _ _ _ _ _ _ hM => sL_terms hM) hb
def tL_depends (d mc ms : Nat) (P : PO) : List (Nat × OP) := [(0, oAld 2 1), (1, oPush (.int 0) 2), (2, oAld 0 3), (3, oIld 1 4), (4, oCallH d mc ms 1 6 yX9_depends (Cond.code yX9_depends cX9_depends 2 (some .int)) 1 9 7 [(2, 12)]), (7, oIcv (fun x => .long x.toInt64) 8), (8, oSl 9), (9, oGoto 15), (12, oAst 3 13), (13, oPush (.int 1) 14), (14, oRetI mc ms P), (15, oPush (.int 0) 16), (16, oRetI mc ms P)]
set_option maxRecDepth 20000 in
theorem sL_depends {p : Program} {l : Launch} {e : Env} {s : State} {m : MethodId} {args : Array Value} {below : List Frame} {meth : Method} {c : Code} {D : va_G} {cA : Nat → ClassId} {ad0 : Nat → Nat} {n0 sz d mc ms : Nat} {P : PO} (hM : FM p l s m args meth c D cA 4 ad0 n0 sz cL_depends RL (some .int) (tableOf [(0, 9, 12, 31)]) yL_depends.name) : ∀ q ∈ tL_depends d mc ms P, Snd (jM p l e s m args below meth c D cA 4 ad0 n0 sz (d + 1) mc ms P) q.1 q.2 := by
  have hF := hM.1
  have hts := hF.2.2.2.2.1
  unfold tL_depends
  refine fmS (snd_aloadn hF (k := 2) rfl (by decide +kernel)) ?_
  refine fmS (snd_iconst hF (n := 0) rfl (by decide +kernel)) ?_
  refine fmS (snd_aloadn hF (k := 0) rfl (by decide +kernel)) ?_
  refine fmS (snd_iloadn hF (k := 1) rfl (by decide +kernel)) ?_
  refine fmS (snd_callH hM k_X9_depends okX9 qw836 qw837 (hts _ qw838) (hsC ⟨[], ⟨0, 9, 12, 31⟩, [], rfl, rfl, rfl, by decide, qw739, qw749, (fun _ h => absurd h List.not_mem_nil)⟩ hsN) (by decide +kernel)) ?_
  refine fmS (snd_i2l hF (by decide +kernel)) ?_
  refine fmS (snd_lastore hF (by decide +kernel)) ?_
  refine fmS (snd_goto hF (off := 6) (by decide) (by decide +kernel)) ?_
  refine fmS (snd_astoren hF (k := 3) rfl (by decide) (by decide +kernel)) ?_
  refine fmS (snd_iconst hF (n := 1) rfl (by decide +kernel)) ?_
  refine fmS (snd_retI hM (by decide +kernel)) ?_
  refine fmS (snd_iconst hF (n := 0) rfl (by decide +kernel)) ?_
  refine fmS (snd_retI hM (by decide +kernel)) ?_
  exact fmE
theorem iL_depends {d mc ms n : Nat} {av : List Value} {M : PM} {P : PO} (hw : wid av ≤ 4) (hb : ∀ J : KT, (∀ (k : Nat) (stops : Nat → Bool) (pc : Nat) (lv : LV) (st : List Value) (nn : NN) (M : PM), lk (tL_depends d mc ms P) pc (wpN (tL_depends d mc ms P) stops k J) lv st nn M → J pc lv st nn M) → J 0 (entA 0 av) [] (n, 0, 0) M) : CallOK (d + 1) mc ms yL_depends (Cond.codeWith yL_depends cL_depends 4 (some .int) [(0, 9, 12, 31)]) av n M P := call_introH (own := RL) (by decide) rfl hw (fun _ _ _ _ _ _ _ _ _ _ _ _ _ hM => sL_depends hM) hb
def tL_nodes (d mc ms : Nat) (P : PO) : List (Nat × OP) := [(0, oAld 2 1), (1, oPush (.int 0) 2), (2, oAld 0 3), (3, oIld 1 4), (4, oCallH d mc ms 1 6 yX9_nodes (Cond.code yX9_nodes cX9_nodes 2 (some .int)) 1 9 7 [(2, 12)]), (7, oIcv (fun x => .long x.toInt64) 8), (8, oSl 9), (9, oGoto 15), (12, oAst 3 13), (13, oPush (.int 1) 14), (14, oRetI mc ms P), (15, oPush (.int 0) 16), (16, oRetI mc ms P)]
set_option maxRecDepth 20000 in
theorem sL_nodes {p : Program} {l : Launch} {e : Env} {s : State} {m : MethodId} {args : Array Value} {below : List Frame} {meth : Method} {c : Code} {D : va_G} {cA : Nat → ClassId} {ad0 : Nat → Nat} {n0 sz d mc ms : Nat} {P : PO} (hM : FM p l s m args meth c D cA 4 ad0 n0 sz cL_nodes RL (some .int) (tableOf [(0, 9, 12, 31)]) yL_nodes.name) : ∀ q ∈ tL_nodes d mc ms P, Snd (jM p l e s m args below meth c D cA 4 ad0 n0 sz (d + 1) mc ms P) q.1 q.2 := by
  have hF := hM.1
  have hts := hF.2.2.2.2.1
  unfold tL_nodes
  refine fmS (snd_aloadn hF (k := 2) rfl (by decide +kernel)) ?_
  refine fmS (snd_iconst hF (n := 0) rfl (by decide +kernel)) ?_
  refine fmS (snd_aloadn hF (k := 0) rfl (by decide +kernel)) ?_
  refine fmS (snd_iloadn hF (k := 1) rfl (by decide +kernel)) ?_
  refine fmS (snd_callH hM k_X9_nodes okX9 qw843 qw844 (hts _ qw845) (hsC ⟨[], ⟨0, 9, 12, 31⟩, [], rfl, rfl, rfl, by decide, qw739, qw749, (fun _ h => absurd h List.not_mem_nil)⟩ hsN) (by decide +kernel)) ?_
  refine fmS (snd_i2l hF (by decide +kernel)) ?_
  refine fmS (snd_lastore hF (by decide +kernel)) ?_
  refine fmS (snd_goto hF (off := 6) (by decide) (by decide +kernel)) ?_
  refine fmS (snd_astoren hF (k := 3) rfl (by decide) (by decide +kernel)) ?_
  refine fmS (snd_iconst hF (n := 1) rfl (by decide +kernel)) ?_
  refine fmS (snd_retI hM (by decide +kernel)) ?_
  refine fmS (snd_iconst hF (n := 0) rfl (by decide +kernel)) ?_
  refine fmS (snd_retI hM (by decide +kernel)) ?_
  exact fmE
theorem iL_nodes {d mc ms n : Nat} {av : List Value} {M : PM} {P : PO} (hw : wid av ≤ 4) (hb : ∀ J : KT, (∀ (k : Nat) (stops : Nat → Bool) (pc : Nat) (lv : LV) (st : List Value) (nn : NN) (M : PM), lk (tL_nodes d mc ms P) pc (wpN (tL_nodes d mc ms P) stops k J) lv st nn M → J pc lv st nn M) → J 0 (entA 0 av) [] (n, 0, 0) M) : CallOK (d + 1) mc ms yL_nodes (Cond.codeWith yL_nodes cL_nodes 4 (some .int) [(0, 9, 12, 31)]) av n M P := call_introH (own := RL) (by decide) rfl hw (fun _ _ _ _ _ _ _ _ _ _ _ _ _ hM => sL_nodes hM) hb
def tL_height (d mc ms : Nat) (P : PO) : List (Nat × OP) := [(0, oAld 2 1), (1, oPush (.int 0) 2), (2, oAld 0 3), (3, oIld 1 4), (4, oCallH d mc ms 1 6 yX9_height (Cond.code yX9_height cX9_height 2 (some .int)) 1 9 7 [(2, 12)]), (7, oIcv (fun x => .long x.toInt64) 8), (8, oSl 9), (9, oGoto 15), (12, oAst 3 13), (13, oPush (.int 1) 14), (14, oRetI mc ms P), (15, oPush (.int 0) 16), (16, oRetI mc ms P)]
set_option maxRecDepth 20000 in
theorem sL_height {p : Program} {l : Launch} {e : Env} {s : State} {m : MethodId} {args : Array Value} {below : List Frame} {meth : Method} {c : Code} {D : va_G} {cA : Nat → ClassId} {ad0 : Nat → Nat} {n0 sz d mc ms : Nat} {P : PO} (hM : FM p l s m args meth c D cA 4 ad0 n0 sz cL_height RL (some .int) (tableOf [(0, 9, 12, 31)]) yL_height.name) : ∀ q ∈ tL_height d mc ms P, Snd (jM p l e s m args below meth c D cA 4 ad0 n0 sz (d + 1) mc ms P) q.1 q.2 := by
  have hF := hM.1
  have hts := hF.2.2.2.2.1
  unfold tL_height
  refine fmS (snd_aloadn hF (k := 2) rfl (by decide +kernel)) ?_
  refine fmS (snd_iconst hF (n := 0) rfl (by decide +kernel)) ?_
  refine fmS (snd_aloadn hF (k := 0) rfl (by decide +kernel)) ?_
  refine fmS (snd_iloadn hF (k := 1) rfl (by decide +kernel)) ?_
  refine fmS (snd_callH hM k_X9_height okX9 qw850 qw851 (hts _ qw852) (hsC ⟨[], ⟨0, 9, 12, 31⟩, [], rfl, rfl, rfl, by decide, qw739, qw749, (fun _ h => absurd h List.not_mem_nil)⟩ hsN) (by decide +kernel)) ?_
  refine fmS (snd_i2l hF (by decide +kernel)) ?_
  refine fmS (snd_lastore hF (by decide +kernel)) ?_
  refine fmS (snd_goto hF (off := 6) (by decide) (by decide +kernel)) ?_
  refine fmS (snd_astoren hF (k := 3) rfl (by decide) (by decide +kernel)) ?_
  refine fmS (snd_iconst hF (n := 1) rfl (by decide +kernel)) ?_
  refine fmS (snd_retI hM (by decide +kernel)) ?_
  refine fmS (snd_iconst hF (n := 0) rfl (by decide +kernel)) ?_
  refine fmS (snd_retI hM (by decide +kernel)) ?_
  exact fmE
theorem iL_height {d mc ms n : Nat} {av : List Value} {M : PM} {P : PO} (hw : wid av ≤ 4) (hb : ∀ J : KT, (∀ (k : Nat) (stops : Nat → Bool) (pc : Nat) (lv : LV) (st : List Value) (nn : NN) (M : PM), lk (tL_height d mc ms P) pc (wpN (tL_height d mc ms P) stops k J) lv st nn M → J pc lv st nn M) → J 0 (entA 0 av) [] (n, 0, 0) M) : CallOK (d + 1) mc ms yL_height (Cond.codeWith yL_height cL_height 4 (some .int) [(0, 9, 12, 31)]) av n M P := call_introH (own := RL) (by decide) rfl hw (fun _ _ _ _ _ _ _ _ _ _ _ _ _ hM => sL_height hM) hb
def tL_open (d mc ms : Nat) (P : PO) : List (Nat × OP) := [(0, oAld 2 1), (1, oPush (.int 0) 2), (2, oAld 0 3), (3, oIld 1 4), (4, oCallH d mc ms 1 6 yX9_open (Cond.code yX9_open cX9_open 2 (some .int)) 1 9 7 [(2, 12)]), (7, oIcv (fun x => .long x.toInt64) 8), (8, oSl 9), (9, oGoto 15), (12, oAst 3 13), (13, oPush (.int 1) 14), (14, oRetI mc ms P), (15, oPush (.int 0) 16), (16, oRetI mc ms P)]
set_option maxRecDepth 20000 in
theorem sL_open {p : Program} {l : Launch} {e : Env} {s : State} {m : MethodId} {args : Array Value} {below : List Frame} {meth : Method} {c : Code} {D : va_G} {cA : Nat → ClassId} {ad0 : Nat → Nat} {n0 sz d mc ms : Nat} {P : PO} (hM : FM p l s m args meth c D cA 4 ad0 n0 sz cL_open RL (some .int) (tableOf [(0, 9, 12, 31)]) yL_open.name) : ∀ q ∈ tL_open d mc ms P, Snd (jM p l e s m args below meth c D cA 4 ad0 n0 sz (d + 1) mc ms P) q.1 q.2 := by
  have hF := hM.1
  have hts := hF.2.2.2.2.1
  unfold tL_open
  refine fmS (snd_aloadn hF (k := 2) rfl (by decide +kernel)) ?_
  refine fmS (snd_iconst hF (n := 0) rfl (by decide +kernel)) ?_
  refine fmS (snd_aloadn hF (k := 0) rfl (by decide +kernel)) ?_
  refine fmS (snd_iloadn hF (k := 1) rfl (by decide +kernel)) ?_
  refine fmS (snd_callH hM k_X9_open okX9 qw864 qw865 (hts _ qw866) (hsC ⟨[], ⟨0, 9, 12, 31⟩, [], rfl, rfl, rfl, by decide, qw739, qw749, (fun _ h => absurd h List.not_mem_nil)⟩ hsN) (by decide +kernel)) ?_
  refine fmS (snd_i2l hF (by decide +kernel)) ?_
  refine fmS (snd_lastore hF (by decide +kernel)) ?_
  refine fmS (snd_goto hF (off := 6) (by decide) (by decide +kernel)) ?_
  refine fmS (snd_astoren hF (k := 3) rfl (by decide) (by decide +kernel)) ?_
  refine fmS (snd_iconst hF (n := 1) rfl (by decide +kernel)) ?_
  refine fmS (snd_retI hM (by decide +kernel)) ?_
  refine fmS (snd_iconst hF (n := 0) rfl (by decide +kernel)) ?_
  refine fmS (snd_retI hM (by decide +kernel)) ?_
  exact fmE
theorem iL_open {d mc ms n : Nat} {av : List Value} {M : PM} {P : PO} (hw : wid av ≤ 4) (hb : ∀ J : KT, (∀ (k : Nat) (stops : Nat → Bool) (pc : Nat) (lv : LV) (st : List Value) (nn : NN) (M : PM), lk (tL_open d mc ms P) pc (wpN (tL_open d mc ms P) stops k J) lv st nn M → J pc lv st nn M) → J 0 (entA 0 av) [] (n, 0, 0) M) : CallOK (d + 1) mc ms yL_open (Cond.codeWith yL_open cL_open 4 (some .int) [(0, 9, 12, 31)]) av n M P := call_introH (own := RL) (by decide) rfl hw (fun _ _ _ _ _ _ _ _ _ _ _ _ _ hM => sL_open hM) hb
def tL_hasNext (d mc ms : Nat) (P : PO) : List (Nat × OP) := [(0, oAld 1 1), (1, oPush (.int 0) 2), (2, oAld 0 3), (3, oCallH d mc ms 1 6 yX9_hasNext (Cond.code yX9_hasNext cX9_hasNext 1 (some .boolean)) 0 9 6 [(1, 18)]), (6, oIf (fun x => x = 0) 13 9), (9, oPush (.long 1) 10), (10, oGoto 14), (13, oPush (.long 0) 14), (14, oSl 15), (15, oGoto 21), (18, oAst 2 19), (19, oPush (.int 1) 20), (20, oRetI mc ms P), (21, oPush (.int 0) 22), (22, oRetI mc ms P)]
set_option maxRecDepth 20000 in
theorem sL_hasNext {p : Program} {l : Launch} {e : Env} {s : State} {m : MethodId} {args : Array Value} {below : List Frame} {meth : Method} {c : Code} {D : va_G} {cA : Nat → ClassId} {ad0 : Nat → Nat} {n0 sz d mc ms : Nat} {P : PO} (hM : FM p l s m args meth c D cA 3 ad0 n0 sz cL_hasNext RL (some .int) (tableOf [(0, 15, 18, 15)]) yL_hasNext.name) : ∀ q ∈ tL_hasNext d mc ms P, Snd (jM p l e s m args below meth c D cA 3 ad0 n0 sz (d + 1) mc ms P) q.1 q.2 := by
  have hF := hM.1
  have hts := hF.2.2.2.2.1
  unfold tL_hasNext
  refine fmS (snd_aloadn hF (k := 1) rfl (by decide +kernel)) ?_
  refine fmS (snd_iconst hF (n := 0) rfl (by decide +kernel)) ?_
  refine fmS (snd_aloadn hF (k := 0) rfl (by decide +kernel)) ?_
  refine fmS (snd_callH hM k_X9_hasNext okX9 qw871 qw872 (hts _ qw873) (hsC ⟨[], ⟨0, 15, 18, 15⟩, [], rfl, rfl, rfl, by decide, qw411, qw488, (fun _ h => absurd h List.not_mem_nil)⟩ hsN) (by decide +kernel)) ?_
  refine fmS (snd_if_eq hF (off := 7) (by decide) (by decide +kernel)) ?_
  refine fmS (snd_lconst hF (n := 1) (by decide +kernel) (by decide +kernel)) ?_
  refine fmS (snd_goto hF (off := 4) (by decide) (by decide +kernel)) ?_
  refine fmS (snd_lconst hF (n := 0) (by decide +kernel) (by decide +kernel)) ?_
  refine fmS (snd_lastore hF (by decide +kernel)) ?_
  refine fmS (snd_goto hF (off := 6) (by decide) (by decide +kernel)) ?_
  refine fmS (snd_astoren hF (k := 2) rfl (by decide) (by decide +kernel)) ?_
  refine fmS (snd_iconst hF (n := 1) rfl (by decide +kernel)) ?_
  refine fmS (snd_retI hM (by decide +kernel)) ?_
  refine fmS (snd_iconst hF (n := 0) rfl (by decide +kernel)) ?_
  refine fmS (snd_retI hM (by decide +kernel)) ?_
  exact fmE
theorem iL_hasNext {d mc ms n : Nat} {av : List Value} {M : PM} {P : PO} (hw : wid av ≤ 3) (hb : ∀ J : KT, (∀ (k : Nat) (stops : Nat → Bool) (pc : Nat) (lv : LV) (st : List Value) (nn : NN) (M : PM), lk (tL_hasNext d mc ms P) pc (wpN (tL_hasNext d mc ms P) stops k J) lv st nn M → J pc lv st nn M) → J 0 (entA 0 av) [] (n, 0, 0) M) : CallOK (d + 1) mc ms yL_hasNext (Cond.codeWith yL_hasNext cL_hasNext 3 (some .int) [(0, 15, 18, 15)]) av n M P := call_introH (own := RL) (by decide) rfl hw (fun _ _ _ _ _ _ _ _ _ _ _ _ _ hM => sL_hasNext hM) hb
def tL_next (d mc ms : Nat) (P : PO) : List (Nat × OP) := [(0, oAld 1 1), (1, oPush (.int 0) 2), (2, oAld 0 3), (3, oCallH d mc ms 2 12 yX9_next (Cond.code yX9_next cX9_next 2 (some .int)) 0 9 6 [(1, 11), (4, 14)]), (6, oIcv (fun x => .long x.toInt64) 7), (7, oSl 8), (8, oGoto 17), (11, oAst 2 12), (12, oPush (.int 1) 13), (13, oRetI mc ms P), (14, oAst 2 15), (15, oPush (.int 2) 16), (16, oRetI mc ms P), (17, oPush (.int 0) 18), (18, oRetI mc ms P)]
set_option maxRecDepth 20000 in
theorem sL_next {p : Program} {l : Launch} {e : Env} {s : State} {m : MethodId} {args : Array Value} {below : List Frame} {meth : Method} {c : Code} {D : va_G} {cA : Nat → ClassId} {ad0 : Nat → Nat} {n0 sz d mc ms : Nat} {P : PO} (hM : FM p l s m args meth c D cA 3 ad0 n0 sz cL_next RL (some .int) (tableOf [(0, 8, 11, 15), (0, 8, 14, 73)]) yL_next.name) : ∀ q ∈ tL_next d mc ms P, Snd (jM p l e s m args below meth c D cA 3 ad0 n0 sz (d + 1) mc ms P) q.1 q.2 := by
  have hF := hM.1
  have hts := hF.2.2.2.2.1
  unfold tL_next
  refine fmS (snd_aloadn hF (k := 1) rfl (by decide +kernel)) ?_
  refine fmS (snd_iconst hF (n := 0) rfl (by decide +kernel)) ?_
  refine fmS (snd_aloadn hF (k := 0) rfl (by decide +kernel)) ?_
  refine fmS (snd_callH hM k_X9_next okX9 qw884 qw885 (hts _ qw886) (hsC ⟨[], ⟨0, 8, 11, 15⟩, [⟨0, 8, 14, 73⟩], rfl, rfl, rfl, by decide, qw411, qw488, (fun _ h => absurd h List.not_mem_nil)⟩ (hsC ⟨[⟨0, 8, 11, 15⟩], ⟨0, 8, 14, 73⟩, [], rfl, rfl, rfl, by decide, qw883, qw890, (List.forall_mem_cons.mpr ⟨⟨by decide, 1, by decide, by decide, by decide, qw411⟩, (fun _ h => absurd h List.not_mem_nil)⟩)⟩ hsN)) (by decide +kernel)) ?_
  refine fmS (snd_i2l hF (by decide +kernel)) ?_
  refine fmS (snd_lastore hF (by decide +kernel)) ?_
  refine fmS (snd_goto hF (off := 9) (by decide) (by decide +kernel)) ?_
  refine fmS (snd_astoren hF (k := 2) rfl (by decide) (by decide +kernel)) ?_
  refine fmS (snd_iconst hF (n := 1) rfl (by decide +kernel)) ?_
  refine fmS (snd_retI hM (by decide +kernel)) ?_
  refine fmS (snd_astoren hF (k := 2) rfl (by decide) (by decide +kernel)) ?_
  refine fmS (snd_iconst hF (n := 2) rfl (by decide +kernel)) ?_
  refine fmS (snd_retI hM (by decide +kernel)) ?_
  refine fmS (snd_iconst hF (n := 0) rfl (by decide +kernel)) ?_
  refine fmS (snd_retI hM (by decide +kernel)) ?_
  exact fmE
theorem iL_next {d mc ms n : Nat} {av : List Value} {M : PM} {P : PO} (hw : wid av ≤ 3) (hb : ∀ J : KT, (∀ (k : Nat) (stops : Nat → Bool) (pc : Nat) (lv : LV) (st : List Value) (nn : NN) (M : PM), lk (tL_next d mc ms P) pc (wpN (tL_next d mc ms P) stops k J) lv st nn M → J pc lv st nn M) → J 0 (entA 0 av) [] (n, 0, 0) M) : CallOK (d + 1) mc ms yL_next (Cond.codeWith yL_next cL_next 3 (some .int) [(0, 8, 11, 15), (0, 8, 14, 73)]) av n M P := call_introH (own := RL) (by decide) rfl hw (fun _ _ _ _ _ _ _ _ _ _ _ _ _ hM => sL_next hM) hb
def tL_isExact (d mc ms : Nat) (P : PO) : List (Nat × OP) := [(0, oAld 2 1), (1, oPush (.int 0) 2), (2, oAld 0 3), (3, oIld 1 4), (4, oCallH d mc ms 1 6 yX9_isExact (Cond.code yX9_isExact cX9_isExact 4 (some .boolean)) 1 9 7 [(2, 19)]), (7, oIf (fun x => x = 0) 14 10), (10, oPush (.long 1) 11), (11, oGoto 15), (14, oPush (.long 0) 15), (15, oSl 16), (16, oGoto 22), (19, oAst 3 20), (20, oPush (.int 1) 21), (21, oRetI mc ms P), (22, oPush (.int 0) 23), (23, oRetI mc ms P)]
set_option maxRecDepth 20000 in
theorem sL_isExact {p : Program} {l : Launch} {e : Env} {s : State} {m : MethodId} {args : Array Value} {below : List Frame} {meth : Method} {c : Code} {D : va_G} {cA : Nat → ClassId} {ad0 : Nat → Nat} {n0 sz d mc ms : Nat} {P : PO} (hM : FM p l s m args meth c D cA 4 ad0 n0 sz cL_isExact RL (some .int) (tableOf [(0, 16, 19, 31)]) yL_isExact.name) : ∀ q ∈ tL_isExact d mc ms P, Snd (jM p l e s m args below meth c D cA 4 ad0 n0 sz (d + 1) mc ms P) q.1 q.2 := by
  have hF := hM.1
  have hts := hF.2.2.2.2.1
  unfold tL_isExact
  refine fmS (snd_aloadn hF (k := 2) rfl (by decide +kernel)) ?_
  refine fmS (snd_iconst hF (n := 0) rfl (by decide +kernel)) ?_
  refine fmS (snd_aloadn hF (k := 0) rfl (by decide +kernel)) ?_
  refine fmS (snd_iloadn hF (k := 1) rfl (by decide +kernel)) ?_
  refine fmS (snd_callH hM k_X9_isExact okX9 qw907 qw908 (hts _ qw909) (hsC ⟨[], ⟨0, 16, 19, 31⟩, [], rfl, rfl, rfl, by decide, qw739, qw749, (fun _ h => absurd h List.not_mem_nil)⟩ hsN) (by decide +kernel)) ?_
  refine fmS (snd_if_eq hF (off := 7) (by decide) (by decide +kernel)) ?_
  refine fmS (snd_lconst hF (n := 1) (by decide +kernel) (by decide +kernel)) ?_
  refine fmS (snd_goto hF (off := 4) (by decide) (by decide +kernel)) ?_
  refine fmS (snd_lconst hF (n := 0) (by decide +kernel) (by decide +kernel)) ?_
  refine fmS (snd_lastore hF (by decide +kernel)) ?_
  refine fmS (snd_goto hF (off := 6) (by decide) (by decide +kernel)) ?_
  refine fmS (snd_astoren hF (k := 3) rfl (by decide) (by decide +kernel)) ?_
  refine fmS (snd_iconst hF (n := 1) rfl (by decide +kernel)) ?_
  refine fmS (snd_retI hM (by decide +kernel)) ?_
  refine fmS (snd_iconst hF (n := 0) rfl (by decide +kernel)) ?_
  refine fmS (snd_retI hM (by decide +kernel)) ?_
  exact fmE
theorem iL_isExact {d mc ms n : Nat} {av : List Value} {M : PM} {P : PO} (hw : wid av ≤ 4) (hb : ∀ J : KT, (∀ (k : Nat) (stops : Nat → Bool) (pc : Nat) (lv : LV) (st : List Value) (nn : NN) (M : PM), lk (tL_isExact d mc ms P) pc (wpN (tL_isExact d mc ms P) stops k J) lv st nn M → J pc lv st nn M) → J 0 (entA 0 av) [] (n, 0, 0) M) : CallOK (d + 1) mc ms yL_isExact (Cond.codeWith yL_isExact cL_isExact 4 (some .int) [(0, 16, 19, 31)]) av n M P := call_introH (own := RL) (by decide) rfl hw (fun _ _ _ _ _ _ _ _ _ _ _ _ _ hM => sL_isExact hM) hb
def tL_execute (d mc ms : Nat) (P : PO) : List (Nat × OP) := [(0, oAld 3 1), (1, oPush (.int 0) 2), (2, oAld 0 3), (3, oIld 1 4), (4, oIld 2 5), (5, oCallH d mc ms 3 18 yX9_execute (Cond.code yX9_execute cX9_execute 4 (some .int)) 2 9 8 [(0, 13), (3, 17), (1, 21)]), (8, oIcv (fun x => .long x.toInt64) 9), (9, oSl 10), (10, oGoto 25), (13, oAst 4 15), (15, oPush (.int 1) 16), (16, oRetI mc ms P), (17, oAst 4 19), (19, oPush (.int 2) 20), (20, oRetI mc ms P), (21, oAst 4 23), (23, oPush (.int 3) 24), (24, oRetI mc ms P), (25, oPush (.int 0) 26), (26, oRetI mc ms P)]
set_option maxRecDepth 20000 in
theorem sL_execute {p : Program} {l : Launch} {e : Env} {s : State} {m : MethodId} {args : Array Value} {below : List Frame} {meth : Method} {c : Code} {D : va_G} {cA : Nat → ClassId} {ad0 : Nat → Nat} {n0 sz d mc ms : Nat} {P : PO} (hM : FM p l s m args meth c D cA 5 ad0 n0 sz cL_execute RL (some .int) (tableOf [(0, 10, 13, 13), (0, 10, 17, 49), (0, 10, 21, 15)]) yL_execute.name) : ∀ q ∈ tL_execute d mc ms P, Snd (jM p l e s m args below meth c D cA 5 ad0 n0 sz (d + 1) mc ms P) q.1 q.2 := by
  have hF := hM.1
  have hts := hF.2.2.2.2.1
  unfold tL_execute
  refine fmS (snd_aloadn hF (k := 3) rfl (by decide +kernel)) ?_
  refine fmS (snd_iconst hF (n := 0) rfl (by decide +kernel)) ?_
  refine fmS (snd_aloadn hF (k := 0) rfl (by decide +kernel)) ?_
  refine fmS (snd_iloadn hF (k := 1) rfl (by decide +kernel)) ?_
  refine fmS (snd_iloadn hF (k := 2) rfl (by decide +kernel)) ?_
  refine fmS (snd_callH hM k_X9_execute okX9 qw914 qw915 (hts _ qw916) (hsC ⟨[], ⟨0, 10, 13, 13⟩, [⟨0, 10, 17, 49⟩, ⟨0, 10, 21, 15⟩], rfl, rfl, rfl, by decide, qw410, qw418, (fun _ h => absurd h List.not_mem_nil)⟩ (hsC ⟨[⟨0, 10, 13, 13⟩], ⟨0, 10, 17, 49⟩, [⟨0, 10, 21, 15⟩], rfl, rfl, rfl, by decide, qw801, qw812, (List.forall_mem_cons.mpr ⟨⟨by decide, 0, by decide, by decide, by decide, qw410⟩, (fun _ h => absurd h List.not_mem_nil)⟩)⟩ (hsC ⟨[⟨0, 10, 13, 13⟩, ⟨0, 10, 17, 49⟩], ⟨0, 10, 21, 15⟩, [], rfl, rfl, rfl, by decide, qw411, qw488, (List.forall_mem_cons.mpr ⟨⟨by decide, 0, by decide, by decide, by decide, qw410⟩, (List.forall_mem_cons.mpr ⟨⟨by decide, 3, by decide, by decide, by decide, qw801⟩, (fun _ h => absurd h List.not_mem_nil)⟩)⟩)⟩ hsN))) (by decide +kernel)) ?_
  refine fmS (snd_i2l hF (by decide +kernel)) ?_
  refine fmS (snd_lastore hF (by decide +kernel)) ?_
  refine fmS (snd_goto hF (off := 15) (by decide) (by decide +kernel)) ?_
  refine fmS (snd_astore hF (by decide) (by decide +kernel)) ?_
  refine fmS (snd_iconst hF (n := 1) rfl (by decide +kernel)) ?_
  refine fmS (snd_retI hM (by decide +kernel)) ?_
  refine fmS (snd_astore hF (by decide) (by decide +kernel)) ?_
  refine fmS (snd_iconst hF (n := 2) rfl (by decide +kernel)) ?_
  refine fmS (snd_retI hM (by decide +kernel)) ?_
  refine fmS (snd_astore hF (by decide) (by decide +kernel)) ?_
  refine fmS (snd_iconst hF (n := 3) rfl (by decide +kernel)) ?_
  refine fmS (snd_retI hM (by decide +kernel)) ?_
  refine fmS (snd_iconst hF (n := 0) rfl (by decide +kernel)) ?_
  refine fmS (snd_retI hM (by decide +kernel)) ?_
  exact fmE
theorem iL_execute {d mc ms n : Nat} {av : List Value} {M : PM} {P : PO} (hw : wid av ≤ 5) (hb : ∀ J : KT, (∀ (k : Nat) (stops : Nat → Bool) (pc : Nat) (lv : LV) (st : List Value) (nn : NN) (M : PM), lk (tL_execute d mc ms P) pc (wpN (tL_execute d mc ms P) stops k J) lv st nn M → J pc lv st nn M) → J 0 (entA 0 av) [] (n, 0, 0) M) : CallOK (d + 1) mc ms yL_execute (Cond.codeWith yL_execute cL_execute 5 (some .int) [(0, 10, 13, 13), (0, 10, 17, 49), (0, 10, 21, 15)]) av n M P := call_introH (own := RL) (by decide) rfl hw (fun _ _ _ _ _ _ _ _ _ _ _ _ _ hM => sL_execute hM) hb
def tL_result (d mc ms : Nat) (P : PO) : List (Nat × OP) := [(0, oAld 2 1), (1, oPush (.int 0) 2), (2, oAld 0 3), (3, oIld 1 4), (4, oCallH d mc ms 2 12 yX9_result (Cond.code yX9_result cX9_result 2 (some .int)) 1 9 7 [(2, 12), (1, 15)]), (7, oIcv (fun x => .long x.toInt64) 8), (8, oSl 9), (9, oGoto 18), (12, oAst 3 13), (13, oPush (.int 1) 14), (14, oRetI mc ms P), (15, oAst 3 16), (16, oPush (.int 2) 17), (17, oRetI mc ms P), (18, oPush (.int 0) 19), (19, oRetI mc ms P)]
set_option maxRecDepth 20000 in
theorem sL_result {p : Program} {l : Launch} {e : Env} {s : State} {m : MethodId} {args : Array Value} {below : List Frame} {meth : Method} {c : Code} {D : va_G} {cA : Nat → ClassId} {ad0 : Nat → Nat} {n0 sz d mc ms : Nat} {P : PO} (hM : FM p l s m args meth c D cA 4 ad0 n0 sz cL_result RL (some .int) (tableOf [(0, 9, 12, 31), (0, 9, 15, 15)]) yL_result.name) : ∀ q ∈ tL_result d mc ms P, Snd (jM p l e s m args below meth c D cA 4 ad0 n0 sz (d + 1) mc ms P) q.1 q.2 := by
  have hF := hM.1
  have hts := hF.2.2.2.2.1
  unfold tL_result
  refine fmS (snd_aloadn hF (k := 2) rfl (by decide +kernel)) ?_
  refine fmS (snd_iconst hF (n := 0) rfl (by decide +kernel)) ?_
  refine fmS (snd_aloadn hF (k := 0) rfl (by decide +kernel)) ?_
  refine fmS (snd_iloadn hF (k := 1) rfl (by decide +kernel)) ?_
  refine fmS (snd_callH hM k_X9_result okX9 qw1050 qw1051 (hts _ qw1052) (hsC ⟨[], ⟨0, 9, 12, 31⟩, [⟨0, 9, 15, 15⟩], rfl, rfl, rfl, by decide, qw739, qw749, (fun _ h => absurd h List.not_mem_nil)⟩ (hsC ⟨[⟨0, 9, 12, 31⟩], ⟨0, 9, 15, 15⟩, [], rfl, rfl, rfl, by decide, qw411, qw488, (List.forall_mem_cons.mpr ⟨⟨by decide, 2, by decide, by decide, by decide, qw739⟩, (fun _ h => absurd h List.not_mem_nil)⟩)⟩ hsN)) (by decide +kernel)) ?_
  refine fmS (snd_i2l hF (by decide +kernel)) ?_
  refine fmS (snd_lastore hF (by decide +kernel)) ?_
  refine fmS (snd_goto hF (off := 9) (by decide) (by decide +kernel)) ?_
  refine fmS (snd_astoren hF (k := 3) rfl (by decide) (by decide +kernel)) ?_
  refine fmS (snd_iconst hF (n := 1) rfl (by decide +kernel)) ?_
  refine fmS (snd_retI hM (by decide +kernel)) ?_
  refine fmS (snd_astoren hF (k := 3) rfl (by decide) (by decide +kernel)) ?_
  refine fmS (snd_iconst hF (n := 2) rfl (by decide +kernel)) ?_
  refine fmS (snd_retI hM (by decide +kernel)) ?_
  refine fmS (snd_iconst hF (n := 0) rfl (by decide +kernel)) ?_
  refine fmS (snd_retI hM (by decide +kernel)) ?_
  exact fmE
theorem iL_result {d mc ms n : Nat} {av : List Value} {M : PM} {P : PO} (hw : wid av ≤ 4) (hb : ∀ J : KT, (∀ (k : Nat) (stops : Nat → Bool) (pc : Nat) (lv : LV) (st : List Value) (nn : NN) (M : PM), lk (tL_result d mc ms P) pc (wpN (tL_result d mc ms P) stops k J) lv st nn M → J pc lv st nn M) → J 0 (entA 0 av) [] (n, 0, 0) M) : CallOK (d + 1) mc ms yL_result (Cond.codeWith yL_result cL_result 4 (some .int) [(0, 9, 12, 31), (0, 9, 15, 15)]) av n M P := call_introH (own := RL) (by decide) rfl hw (fun _ _ _ _ _ _ _ _ _ _ _ _ _ hM => sL_result hM) hb
def tL_resultFloat (d mc ms : Nat) (P : PO) : List (Nat × OP) := [(0, oAld 2 1), (1, oPush (.int 0) 2), (2, oAld 0 3), (3, oIld 1 4), (4, oCallH d mc ms 2 12 yX9_resultFloat (Cond.code yX9_resultFloat cX9_resultFloat 2 (some .float)) 1 9 7 [(2, 12), (1, 15)]), (7, oF2d 8), (8, oSd 9), (9, oGoto 18), (12, oAst 3 13), (13, oPush (.int 1) 14), (14, oRetI mc ms P), (15, oAst 3 16), (16, oPush (.int 2) 17), (17, oRetI mc ms P), (18, oPush (.int 0) 19), (19, oRetI mc ms P)]
set_option maxRecDepth 20000 in
theorem sL_resultFloat {p : Program} {l : Launch} {e : Env} {s : State} {m : MethodId} {args : Array Value} {below : List Frame} {meth : Method} {c : Code} {D : va_G} {cA : Nat → ClassId} {ad0 : Nat → Nat} {n0 sz d mc ms : Nat} {P : PO} (hM : FM p l s m args meth c D cA 4 ad0 n0 sz cL_resultFloat RL (some .int) (tableOf [(0, 9, 12, 31), (0, 9, 15, 15)]) yL_resultFloat.name) : ∀ q ∈ tL_resultFloat d mc ms P, Snd (jM p l e s m args below meth c D cA 4 ad0 n0 sz (d + 1) mc ms P) q.1 q.2 := by
  have hF := hM.1
  have hts := hF.2.2.2.2.1
  unfold tL_resultFloat
  refine fmS (snd_aloadn hF (k := 2) rfl (by decide +kernel)) ?_
  refine fmS (snd_iconst hF (n := 0) rfl (by decide +kernel)) ?_
  refine fmS (snd_aloadn hF (k := 0) rfl (by decide +kernel)) ?_
  refine fmS (snd_iloadn hF (k := 1) rfl (by decide +kernel)) ?_
  refine fmS (snd_callH hM k_X9_resultFloat okX9 qw1058 qw1059 (hts _ qw1060) (hsC ⟨[], ⟨0, 9, 12, 31⟩, [⟨0, 9, 15, 15⟩], rfl, rfl, rfl, by decide, qw739, qw749, (fun _ h => absurd h List.not_mem_nil)⟩ (hsC ⟨[⟨0, 9, 12, 31⟩], ⟨0, 9, 15, 15⟩, [], rfl, rfl, rfl, by decide, qw411, qw488, (List.forall_mem_cons.mpr ⟨⟨by decide, 2, by decide, by decide, by decide, qw739⟩, (fun _ h => absurd h List.not_mem_nil)⟩)⟩ hsN)) (by decide +kernel)) ?_
  refine fmS (snd_f2d hF (by decide +kernel)) ?_
  refine fmS (snd_dastore hF (by decide +kernel)) ?_
  refine fmS (snd_goto hF (off := 9) (by decide) (by decide +kernel)) ?_
  refine fmS (snd_astoren hF (k := 3) rfl (by decide) (by decide +kernel)) ?_
  refine fmS (snd_iconst hF (n := 1) rfl (by decide +kernel)) ?_
  refine fmS (snd_retI hM (by decide +kernel)) ?_
  refine fmS (snd_astoren hF (k := 3) rfl (by decide) (by decide +kernel)) ?_
  refine fmS (snd_iconst hF (n := 2) rfl (by decide +kernel)) ?_
  refine fmS (snd_retI hM (by decide +kernel)) ?_
  refine fmS (snd_iconst hF (n := 0) rfl (by decide +kernel)) ?_
  refine fmS (snd_retI hM (by decide +kernel)) ?_
  exact fmE
theorem iL_resultFloat {d mc ms n : Nat} {av : List Value} {M : PM} {P : PO} (hw : wid av ≤ 4) (hb : ∀ J : KT, (∀ (k : Nat) (stops : Nat → Bool) (pc : Nat) (lv : LV) (st : List Value) (nn : NN) (M : PM), lk (tL_resultFloat d mc ms P) pc (wpN (tL_resultFloat d mc ms P) stops k J) lv st nn M → J pc lv st nn M) → J 0 (entA 0 av) [] (n, 0, 0) M) : CallOK (d + 1) mc ms yL_resultFloat (Cond.codeWith yL_resultFloat cL_resultFloat 4 (some .int) [(0, 9, 12, 31), (0, 9, 15, 15)]) av n M P := call_introH (own := RL) (by decide) rfl hw (fun _ _ _ _ _ _ _ _ _ _ _ _ _ hM => sL_resultFloat hM) hb
def tL_difference (d mc ms : Nat) (P : PO) : List (Nat × OP) := [(0, oAld 2 1), (1, oPush (.int 0) 2), (2, oAld 0 3), (3, oIld 1 4), (4, oCallH d mc ms 3 18 yX9_difference (Cond.code yX9_difference cX9_difference 5 (some .double)) 1 9 7 [(2, 11), (1, 14), (3, 17)]), (7, oSd 8), (8, oGoto 20), (11, oAst 3 12), (12, oPush (.int 1) 13), (13, oRetI mc ms P), (14, oAst 3 15), (15, oPush (.int 2) 16), (16, oRetI mc ms P), (17, oAst 3 18), (18, oPush (.int 3) 19), (19, oRetI mc ms P), (20, oPush (.int 0) 21), (21, oRetI mc ms P)]
set_option maxRecDepth 20000 in
theorem sL_difference {p : Program} {l : Launch} {e : Env} {s : State} {m : MethodId} {args : Array Value} {below : List Frame} {meth : Method} {c : Code} {D : va_G} {cA : Nat → ClassId} {ad0 : Nat → Nat} {n0 sz d mc ms : Nat} {P : PO} (hM : FM p l s m args meth c D cA 4 ad0 n0 sz cL_difference RL (some .int) (tableOf [(0, 8, 11, 31), (0, 8, 14, 15), (0, 8, 17, 49)]) yL_difference.name) : ∀ q ∈ tL_difference d mc ms P, Snd (jM p l e s m args below meth c D cA 4 ad0 n0 sz (d + 1) mc ms P) q.1 q.2 := by
  have hF := hM.1
  have hts := hF.2.2.2.2.1
  unfold tL_difference
  refine fmS (snd_aloadn hF (k := 2) rfl (by decide +kernel)) ?_
  refine fmS (snd_iconst hF (n := 0) rfl (by decide +kernel)) ?_
  refine fmS (snd_aloadn hF (k := 0) rfl (by decide +kernel)) ?_
  refine fmS (snd_iloadn hF (k := 1) rfl (by decide +kernel)) ?_
  refine fmS (snd_callH hM k_X9_difference okX9 qw1066 qw1067 (hts _ qw1068) (hsC ⟨[], ⟨0, 8, 11, 31⟩, [⟨0, 8, 14, 15⟩, ⟨0, 8, 17, 49⟩], rfl, rfl, rfl, by decide, qw739, qw749, (fun _ h => absurd h List.not_mem_nil)⟩ (hsC ⟨[⟨0, 8, 11, 31⟩], ⟨0, 8, 14, 15⟩, [⟨0, 8, 17, 49⟩], rfl, rfl, rfl, by decide, qw411, qw488, (List.forall_mem_cons.mpr ⟨⟨by decide, 2, by decide, by decide, by decide, qw739⟩, (fun _ h => absurd h List.not_mem_nil)⟩)⟩ (hsC ⟨[⟨0, 8, 11, 31⟩, ⟨0, 8, 14, 15⟩], ⟨0, 8, 17, 49⟩, [], rfl, rfl, rfl, by decide, qw801, qw812, (List.forall_mem_cons.mpr ⟨⟨by decide, 2, by decide, by decide, by decide, qw739⟩, (List.forall_mem_cons.mpr ⟨⟨by decide, 1, by decide, by decide, by decide, qw411⟩, (fun _ h => absurd h List.not_mem_nil)⟩)⟩)⟩ hsN))) (by decide +kernel)) ?_
  refine fmS (snd_dastore hF (by decide +kernel)) ?_
  refine fmS (snd_goto hF (off := 12) (by decide) (by decide +kernel)) ?_
  refine fmS (snd_astoren hF (k := 3) rfl (by decide) (by decide +kernel)) ?_
  refine fmS (snd_iconst hF (n := 1) rfl (by decide +kernel)) ?_
  refine fmS (snd_retI hM (by decide +kernel)) ?_
  refine fmS (snd_astoren hF (k := 3) rfl (by decide) (by decide +kernel)) ?_
  refine fmS (snd_iconst hF (n := 2) rfl (by decide +kernel)) ?_
  refine fmS (snd_retI hM (by decide +kernel)) ?_
  refine fmS (snd_astoren hF (k := 3) rfl (by decide) (by decide +kernel)) ?_
  refine fmS (snd_iconst hF (n := 3) rfl (by decide +kernel)) ?_
  refine fmS (snd_retI hM (by decide +kernel)) ?_
  refine fmS (snd_iconst hF (n := 0) rfl (by decide +kernel)) ?_
  refine fmS (snd_retI hM (by decide +kernel)) ?_
  exact fmE
theorem iL_difference {d mc ms n : Nat} {av : List Value} {M : PM} {P : PO} (hw : wid av ≤ 4) (hb : ∀ J : KT, (∀ (k : Nat) (stops : Nat → Bool) (pc : Nat) (lv : LV) (st : List Value) (nn : NN) (M : PM), lk (tL_difference d mc ms P) pc (wpN (tL_difference d mc ms P) stops k J) lv st nn M → J pc lv st nn M) → J 0 (entA 0 av) [] (n, 0, 0) M) : CallOK (d + 1) mc ms yL_difference (Cond.codeWith yL_difference cL_difference 4 (some .int) [(0, 8, 11, 31), (0, 8, 14, 15), (0, 8, 17, 49)]) av n M P := call_introH (own := RL) (by decide) rfl hw (fun _ _ _ _ _ _ _ _ _ _ _ _ _ hM => sL_difference hM) hb
def tL_cost (d mc ms : Nat) (P : PO) : List (Nat × OP) := [(0, oAld 3 1), (1, oPush (.int 0) 2), (2, oAld 0 3), (3, oIld 1 4), (4, oIld 2 5), (5, oCallH d mc ms 2 12 yX9_cost (Cond.code yX9_cost cX9_cost 3 (some .int)) 2 9 8 [(0, 13), (1, 17)]), (8, oIcv (fun x => .long x.toInt64) 9), (9, oSl 10), (10, oGoto 21), (13, oAst 4 15), (15, oPush (.int 1) 16), (16, oRetI mc ms P), (17, oAst 4 19), (19, oPush (.int 2) 20), (20, oRetI mc ms P), (21, oPush (.int 0) 22), (22, oRetI mc ms P)]
set_option maxRecDepth 20000 in
theorem sL_cost {p : Program} {l : Launch} {e : Env} {s : State} {m : MethodId} {args : Array Value} {below : List Frame} {meth : Method} {c : Code} {D : va_G} {cA : Nat → ClassId} {ad0 : Nat → Nat} {n0 sz d mc ms : Nat} {P : PO} (hM : FM p l s m args meth c D cA 5 ad0 n0 sz cL_cost RL (some .int) (tableOf [(0, 10, 13, 13), (0, 10, 17, 15)]) yL_cost.name) : ∀ q ∈ tL_cost d mc ms P, Snd (jM p l e s m args below meth c D cA 5 ad0 n0 sz (d + 1) mc ms P) q.1 q.2 := by
  have hF := hM.1
  have hts := hF.2.2.2.2.1
  unfold tL_cost
  refine fmS (snd_aloadn hF (k := 3) rfl (by decide +kernel)) ?_
  refine fmS (snd_iconst hF (n := 0) rfl (by decide +kernel)) ?_
  refine fmS (snd_aloadn hF (k := 0) rfl (by decide +kernel)) ?_
  refine fmS (snd_iloadn hF (k := 1) rfl (by decide +kernel)) ?_
  refine fmS (snd_iloadn hF (k := 2) rfl (by decide +kernel)) ?_
  refine fmS (snd_callH hM k_X9_cost okX9 qw1076 qw1077 (hts _ qw1078) (hsC ⟨[], ⟨0, 10, 13, 13⟩, [⟨0, 10, 17, 15⟩], rfl, rfl, rfl, by decide, qw410, qw418, (fun _ h => absurd h List.not_mem_nil)⟩ (hsC ⟨[⟨0, 10, 13, 13⟩], ⟨0, 10, 17, 15⟩, [], rfl, rfl, rfl, by decide, qw411, qw488, (List.forall_mem_cons.mpr ⟨⟨by decide, 0, by decide, by decide, by decide, qw410⟩, (fun _ h => absurd h List.not_mem_nil)⟩)⟩ hsN)) (by decide +kernel)) ?_
  refine fmS (snd_i2l hF (by decide +kernel)) ?_
  refine fmS (snd_lastore hF (by decide +kernel)) ?_
  refine fmS (snd_goto hF (off := 11) (by decide) (by decide +kernel)) ?_
  refine fmS (snd_astore hF (by decide) (by decide +kernel)) ?_
  refine fmS (snd_iconst hF (n := 1) rfl (by decide +kernel)) ?_
  refine fmS (snd_retI hM (by decide +kernel)) ?_
  refine fmS (snd_astore hF (by decide) (by decide +kernel)) ?_
  refine fmS (snd_iconst hF (n := 2) rfl (by decide +kernel)) ?_
  refine fmS (snd_retI hM (by decide +kernel)) ?_
  refine fmS (snd_iconst hF (n := 0) rfl (by decide +kernel)) ?_
  refine fmS (snd_retI hM (by decide +kernel)) ?_
  exact fmE
theorem iL_cost {d mc ms n : Nat} {av : List Value} {M : PM} {P : PO} (hw : wid av ≤ 5) (hb : ∀ J : KT, (∀ (k : Nat) (stops : Nat → Bool) (pc : Nat) (lv : LV) (st : List Value) (nn : NN) (M : PM), lk (tL_cost d mc ms P) pc (wpN (tL_cost d mc ms P) stops k J) lv st nn M → J pc lv st nn M) → J 0 (entA 0 av) [] (n, 0, 0) M) : CallOK (d + 1) mc ms yL_cost (Cond.codeWith yL_cost cL_cost 5 (some .int) [(0, 10, 13, 13), (0, 10, 17, 15)]) av n M P := call_introH (own := RL) (by decide) rfl hw (fun _ _ _ _ _ _ _ _ _ _ _ _ _ hM => sL_cost hM) hb
def tL_restore (d mc ms : Nat) (P : PO) : List (Nat × OP) := [(0, oAld 0 1), (1, oCallH d mc ms 1 6 yX9_restore (Cond.code yX9_restore cX9_restore 1 none) 0 9 4 [(1, 7)]), (4, oGoto 10), (7, oAst 1 8), (8, oPush (.int 1) 9), (9, oRetI mc ms P), (10, oPush (.int 0) 11), (11, oRetI mc ms P)]
set_option maxRecDepth 20000 in
theorem sL_restore {p : Program} {l : Launch} {e : Env} {s : State} {m : MethodId} {args : Array Value} {below : List Frame} {meth : Method} {c : Code} {D : va_G} {cA : Nat → ClassId} {ad0 : Nat → Nat} {n0 sz d mc ms : Nat} {P : PO} (hM : FM p l s m args meth c D cA 2 ad0 n0 sz cL_restore RL (some .int) (tableOf [(0, 4, 7, 15)]) yL_restore.name) : ∀ q ∈ tL_restore d mc ms P, Snd (jM p l e s m args below meth c D cA 2 ad0 n0 sz (d + 1) mc ms P) q.1 q.2 := by
  have hF := hM.1
  have hts := hF.2.2.2.2.1
  unfold tL_restore
  refine fmS (snd_aloadn hF (k := 0) rfl (by decide +kernel)) ?_
  refine fmS (snd_callH hM k_X9_restore okX9 qw1083 qw1084 (hts _ qw1085) (hsC ⟨[], ⟨0, 4, 7, 15⟩, [], rfl, rfl, rfl, by decide, qw411, qw488, (fun _ h => absurd h List.not_mem_nil)⟩ hsN) (by decide +kernel)) ?_
  refine fmS (snd_goto hF (off := 6) (by decide) (by decide +kernel)) ?_
  refine fmS (snd_astoren hF (k := 1) rfl (by decide) (by decide +kernel)) ?_
  refine fmS (snd_iconst hF (n := 1) rfl (by decide +kernel)) ?_
  refine fmS (snd_retI hM (by decide +kernel)) ?_
  refine fmS (snd_iconst hF (n := 0) rfl (by decide +kernel)) ?_
  refine fmS (snd_retI hM (by decide +kernel)) ?_
  exact fmE
theorem iL_restore {d mc ms n : Nat} {av : List Value} {M : PM} {P : PO} (hw : wid av ≤ 2) (hb : ∀ J : KT, (∀ (k : Nat) (stops : Nat → Bool) (pc : Nat) (lv : LV) (st : List Value) (nn : NN) (M : PM), lk (tL_restore d mc ms P) pc (wpN (tL_restore d mc ms P) stops k J) lv st nn M → J pc lv st nn M) → J 0 (entA 0 av) [] (n, 0, 0) M) : CallOK (d + 1) mc ms yL_restore (Cond.codeWith yL_restore cL_restore 2 (some .int) [(0, 4, 7, 15)]) av n M P := call_introH (own := RL) (by decide) rfl hw (fun _ _ _ _ _ _ _ _ _ _ _ _ _ hM => sL_restore hM) hb
