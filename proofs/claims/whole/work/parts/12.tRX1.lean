def tX1_copyFrom (d mc ms : Nat) (P : PO) : List (Nat × OP) := [(0, oAld 0 1), (1, oAld 1 2), (2, oGi 1 0 5), (5, oPi 1 0 8), (8, oAld 0 9), (9, oAld 1 10), (10, oGi 1 1 13), (13, oPi 1 1 16), (16, oPush (.int 0) 17), (17, oIst 2 18), (18, oIld 2 19), (19, oPush (.int 3) 20), (20, oIc (fun x y => y ≤ x) 48 23), (23, oAld 1 24), (24, oGr 1 2 27), (27, oIld 2 28), (28, oAr 106 29), (29, oPush (.int 0) 30), (30, oAld 0 31), (31, oGr 1 2 34), (34, oIld 2 35), (35, oAr 106 36), (36, oPush (.int 0) 37), (37, oPush (.int 16) 39), (39, oCopy 42), (42, oInc 2 1 45), (45, oGoto 18), (48, oAld 1 49), (49, oGr 1 3 52), (52, oPush (.int 0) 53), (53, oAld 0 54), (54, oGr 1 3 57), (57, oPush (.int 0) 58), (58, oPush (.int 8) 60), (60, oCopy 63), (63, oRetV mc ms P)]
set_option maxRecDepth 20000 in
theorem sX1_copyFrom {p : Program} {l : Launch} {e : Env} {s : State} {m : MethodId} {args : Array Value} {below : List Frame} {meth : Method} {c : Code} {D : va_G} {cA : Nat → ClassId} {ad0 : Nat → Nat} {n0 sz d mc ms : Nat} {P : PO} (hM : FM p l s m args meth c D cA 3 ad0 n0 sz cX1_copyFrom RX1 none [] yX1_copyFrom.name) : ∀ q ∈ tX1_copyFrom d mc ms P, Snd (jM p l e s m args below meth c D cA 3 ad0 n0 sz (d + 1) mc ms P) q.1 q.2 := by
  have hF := hM.1
  have hts := hF.2.2.2.2.1
  unfold tX1_copyFrom
  refine fmS (snd_aloadn hF (k := 0) rfl (by decide +kernel)) ?_
  refine fmS (snd_aloadn hF (k := 1) rfl (by decide +kernel)) ?_
  refine fmS (snd_geti hF okX1 (k := 0) (by decide) qw187 rfl rfl (by decide +kernel)) ?_
  refine fmS (snd_puti hF okX1 (k := 0) (by decide) qw187 rfl rfl rfl rfl (by decide +kernel)) ?_
  refine fmS (snd_aloadn hF (k := 0) rfl (by decide +kernel)) ?_
  refine fmS (snd_aloadn hF (k := 1) rfl (by decide +kernel)) ?_
  refine fmS (snd_geti hF okX1 (k := 1) (by decide) qw189 rfl rfl (by decide +kernel)) ?_
  refine fmS (snd_puti hF okX1 (k := 1) (by decide) qw189 rfl rfl rfl rfl (by decide +kernel)) ?_
  refine fmS (snd_iconst hF (n := 0) rfl (by decide +kernel)) ?_
  refine fmS (snd_istoren hF (k := 2) rfl (by decide) (by decide +kernel)) ?_
  refine fmS (snd_iloadn hF (k := 2) rfl (by decide +kernel)) ?_
  refine fmS (snd_iconst hF (n := 3) rfl (by decide +kernel)) ?_
  refine fmS (snd_icmp_ge hF (off := 28) (by decide) (by decide +kernel)) ?_
  refine fmS (snd_aloadn hF (k := 1) rfl (by decide +kernel)) ?_
  refine fmS (snd_getr hF okX1 (k := 2) (by decide) qw192 rfl rfl (by decide +kernel)) ?_
  refine fmS (snd_iloadn hF (k := 2) rfl (by decide +kernel)) ?_
  refine fmS (snd_aaload106 hF (by decide +kernel)) ?_
  refine fmS (snd_iconst hF (n := 0) rfl (by decide +kernel)) ?_
  refine fmS (snd_aloadn hF (k := 0) rfl (by decide +kernel)) ?_
  refine fmS (snd_getr hF okX1 (k := 2) (by decide) qw192 rfl rfl (by decide +kernel)) ?_
  refine fmS (snd_iloadn hF (k := 2) rfl (by decide +kernel)) ?_
  refine fmS (snd_aaload106 hF (by decide +kernel)) ?_
  refine fmS (snd_iconst hF (n := 0) rfl (by decide +kernel)) ?_
  refine fmS (snd_bipush hF (n := 16) (by decide +kernel) (by decide +kernel)) ?_
  refine fmS (snd_copy hM qw404 qw406 qw405 qw92 (by decide +kernel)) ?_
  refine fmS (snd_iinc hF (n := 1) (by decide +kernel) (by decide) (by decide +kernel)) ?_
  refine fmS (snd_goto hF (off := (-27)) (by decide) (by decide +kernel)) ?_
  refine fmS (snd_aloadn hF (k := 1) rfl (by decide +kernel)) ?_
  refine fmS (snd_getr hF okX1 (k := 3) (by decide) qw195 rfl rfl (by decide +kernel)) ?_
  refine fmS (snd_iconst hF (n := 0) rfl (by decide +kernel)) ?_
  refine fmS (snd_aloadn hF (k := 0) rfl (by decide +kernel)) ?_
  refine fmS (snd_getr hF okX1 (k := 3) (by decide) qw195 rfl rfl (by decide +kernel)) ?_
  refine fmS (snd_iconst hF (n := 0) rfl (by decide +kernel)) ?_
  refine fmS (snd_bipush hF (n := 8) (by decide +kernel) (by decide +kernel)) ?_
  refine fmS (snd_copy hM qw404 qw406 qw405 qw92 (by decide +kernel)) ?_
  refine fmS (snd_retV hM (by decide +kernel)) ?_
  exact fmE
theorem iX1_copyFrom {d mc ms n : Nat} {av : List Value} {M : PM} {P : PO} (hw : wid av ≤ 3) (hb : ∀ J : KT, (∀ (k : Nat) (stops : Nat → Bool) (pc : Nat) (lv : LV) (st : List Value) (nn : NN) (M : PM), lk (tX1_copyFrom d mc ms P) pc (wpN (tX1_copyFrom d mc ms P) stops k J) lv st nn M → J pc lv st nn M) → J 0 (entA 0 av) [] (n, 0, 0) M) : CallOK (d + 1) mc ms yX1_copyFrom (Cond.code yX1_copyFrom cX1_copyFrom 3 none) av n M P := call_intro (own := RX1) (by decide) rfl hw (fun _ _ _ _ _ _ _ _ _ _ _ _ _ hM => sX1_copyFrom hM) hb
