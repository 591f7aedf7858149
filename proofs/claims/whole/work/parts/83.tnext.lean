def tX9_next (d mc ms : Nat) (P : PO) : List (Nat × OP) := [(0, oAld 0 1), (1, oCallV d mc ms P 1 6 yX9_checkCursor (Cond.code yX9_checkCursor cX9_checkCursor 1 none) 0 9 4), (4, oAld 0 5), (5, oGi 9 12 8), (8, oAld 0 9), (9, oGr 9 8 12), (12, oGr 6 7 15), (15, oAld 0 16), (16, oGi 9 11 19), (19, oAi 100 20), (20, oIc (fun x y => x < y) 33 23), (23, oThrow mc ms P 4), (33, oAld 0 34), (34, oGr 9 8 37), (37, oGr 6 6 40), (40, oAld 0 41), (41, oGi 9 11 44), (44, oAr 106 45), (45, oAld 0 46), (46, oGi 9 12 49), (49, oAi 100 50), (50, oIst 1 51), (51, oAld 0 52), (52, oDup 53), (53, oGi 9 12 56), (56, oPush (.int 1) 57), (57, oI2 (fun x y => x + y) 58), (58, oPi 9 12 61), (61, oIld 1 62), (62, oRetI mc ms P)]
set_option maxRecDepth 20000 in
theorem sX9_next {p : Program} {l : Launch} {e : Env} {s : State} {m : MethodId} {args : Array Value} {below : List Frame} {meth : Method} {c : Code} {D : va_G} {cA : Nat → ClassId} {ad0 : Nat → Nat} {n0 sz d mc ms : Nat} {P : PO} (hd : 6 ≤ d) (hM : FM p l s m args meth c D cA 2 ad0 n0 sz cX9_next RX9 (some .int) [] yX9_next.name) : ∀ q ∈ tX9_next d mc ms P, Snd (jM p l e s m args below meth c D cA 2 ad0 n0 sz (d + 1) mc ms P) q.1 q.2 := by
  have hF := hM.1
  have hts := hF.2.2.2.2.1
  unfold tX9_next
  refine fmS (snd_aloadn hF (k := 0) rfl (by decide +kernel)) ?_
  refine fmS (snd_callV hM k_X9_checkCursor okX9 qw875 qw877 (hts _ qw30) (by decide +kernel)) ?_
  refine fmS (snd_aloadn hF (k := 0) rfl (by decide +kernel)) ?_
  refine fmS (snd_geti hF okX9 (k := 12) (by decide) qw339 rfl rfl (by decide +kernel)) ?_
  refine fmS (snd_aloadn hF (k := 0) rfl (by decide +kernel)) ?_
  refine fmS (snd_getr hF okX9 (k := 8) (by decide) qw335 rfl rfl (by decide +kernel)) ?_
  refine fmS (snd_getrN hF okX6 (k := 7) (by decide) qw276 rfl rfl (by decide +kernel)) ?_
  refine fmS (snd_aloadn hF (k := 0) rfl (by decide +kernel)) ?_
  refine fmS (snd_geti hF okX9 (k := 11) (by decide) qw338 rfl rfl (by decide +kernel)) ?_
  refine fmS (snd_iaload hF (by decide +kernel)) ?_
  refine fmS (snd_icmp_lt hF (off := 13) (by decide) (by decide +kernel)) ?_
  refine fmS (snd_throwN hM (text := "there is no further node") (by omega) (by decide +kernel) (by decide +kernel) (by decide +kernel) (by decide +kernel) (by decide +kernel) (by decide +kernel)) ?_
  refine fmS (snd_aloadn hF (k := 0) rfl (by decide +kernel)) ?_
  refine fmS (snd_getr hF okX9 (k := 8) (by decide) qw335 rfl rfl (by decide +kernel)) ?_
  refine fmS (snd_getrN hF okX6 (k := 6) (by decide) qw274 rfl rfl (by decide +kernel)) ?_
  refine fmS (snd_aloadn hF (k := 0) rfl (by decide +kernel)) ?_
  refine fmS (snd_geti hF okX9 (k := 11) (by decide) qw338 rfl rfl (by decide +kernel)) ?_
  refine fmS (snd_aaload106 hF (by decide +kernel)) ?_
  refine fmS (snd_aloadn hF (k := 0) rfl (by decide +kernel)) ?_
  refine fmS (snd_geti hF okX9 (k := 12) (by decide) qw339 rfl rfl (by decide +kernel)) ?_
  refine fmS (snd_iaload hF (by decide +kernel)) ?_
  refine fmS (snd_istoren hF (k := 1) rfl (by decide) (by decide +kernel)) ?_
  refine fmS (snd_aloadn hF (k := 0) rfl (by decide +kernel)) ?_
  refine fmS (snd_dup hF (by decide +kernel)) ?_
  refine fmS (snd_geti hF okX9 (k := 12) (by decide) qw339 rfl rfl (by decide +kernel)) ?_
  refine fmS (snd_iconst hF (n := 1) rfl (by decide +kernel)) ?_
  refine fmS (snd_iadd hF (by decide +kernel)) ?_
  refine fmS (snd_puti hF okX9 (k := 12) (by decide) qw339 rfl rfl rfl rfl (by decide +kernel)) ?_
  refine fmS (snd_iloadn hF (k := 1) rfl (by decide +kernel)) ?_
  refine fmS (snd_retI hM (by decide +kernel)) ?_
  exact fmE
theorem iX9_next {d mc ms n : Nat} {av : List Value} {M : PM} {P : PO} (hd : 6 ≤ d) (hw : wid av ≤ 2) (hb : ∀ J : KT, (∀ (k : Nat) (stops : Nat → Bool) (pc : Nat) (lv : LV) (st : List Value) (nn : NN) (M : PM), lk (tX9_next d mc ms P) pc (wpN (tX9_next d mc ms P) stops k J) lv st nn M → J pc lv st nn M) → J 0 (entA 0 av) [] (n, 0, 0) M) : CallOK (d + 1) mc ms yX9_next (Cond.code yX9_next cX9_next 2 (some .int)) av n M P := call_intro (own := RX9) (by decide) rfl hw (fun _ _ _ _ _ _ _ _ _ _ _ _ _ hM => sX9_next hd hM) hb
section
variable {d mc ms : Nat} {P : PO}
theorem lX9_next_0 : lk (tX9_next d mc ms P) 0 = oAld 0 1 := rfl
theorem lX9_next_1 : lk (tX9_next d mc ms P) 1 = oCallV d mc ms P 1 6 yX9_checkCursor (Cond.code yX9_checkCursor cX9_checkCursor 1 none) 0 9 4 := rfl
theorem lX9_next_4 : lk (tX9_next d mc ms P) 4 = oAld 0 5 := rfl
theorem lX9_next_5 : lk (tX9_next d mc ms P) 5 = oGi 9 12 8 := rfl
theorem lX9_next_8 : lk (tX9_next d mc ms P) 8 = oAld 0 9 := rfl
theorem lX9_next_9 : lk (tX9_next d mc ms P) 9 = oGr 9 8 12 := rfl
theorem lX9_next_12 : lk (tX9_next d mc ms P) 12 = oGr 6 7 15 := rfl
theorem lX9_next_15 : lk (tX9_next d mc ms P) 15 = oAld 0 16 := rfl
theorem lX9_next_16 : lk (tX9_next d mc ms P) 16 = oGi 9 11 19 := rfl
theorem lX9_next_19 : lk (tX9_next d mc ms P) 19 = oAi 100 20 := rfl
theorem lX9_next_20 : lk (tX9_next d mc ms P) 20 = oIc (fun x y => x < y) 33 23 := rfl
theorem lX9_next_23 : lk (tX9_next d mc ms P) 23 = oThrow mc ms P 4 := rfl
theorem lX9_next_33 : lk (tX9_next d mc ms P) 33 = oAld 0 34 := rfl
theorem lX9_next_34 : lk (tX9_next d mc ms P) 34 = oGr 9 8 37 := rfl
theorem lX9_next_37 : lk (tX9_next d mc ms P) 37 = oGr 6 6 40 := rfl
theorem lX9_next_40 : lk (tX9_next d mc ms P) 40 = oAld 0 41 := rfl
theorem lX9_next_41 : lk (tX9_next d mc ms P) 41 = oGi 9 11 44 := rfl
theorem lX9_next_44 : lk (tX9_next d mc ms P) 44 = oAr 106 45 := rfl
theorem lX9_next_45 : lk (tX9_next d mc ms P) 45 = oAld 0 46 := rfl
theorem lX9_next_46 : lk (tX9_next d mc ms P) 46 = oGi 9 12 49 := rfl
theorem lX9_next_49 : lk (tX9_next d mc ms P) 49 = oAi 100 50 := rfl
theorem lX9_next_50 : lk (tX9_next d mc ms P) 50 = oIst 1 51 := rfl
theorem lX9_next_51 : lk (tX9_next d mc ms P) 51 = oAld 0 52 := rfl
theorem lX9_next_52 : lk (tX9_next d mc ms P) 52 = oDup 53 := rfl
theorem lX9_next_53 : lk (tX9_next d mc ms P) 53 = oGi 9 12 56 := rfl
theorem lX9_next_56 : lk (tX9_next d mc ms P) 56 = oPush (.int 1) 57 := rfl
theorem lX9_next_57 : lk (tX9_next d mc ms P) 57 = oI2 (fun x y => x + y) 58 := rfl
theorem lX9_next_58 : lk (tX9_next d mc ms P) 58 = oPi 9 12 61 := rfl
theorem lX9_next_61 : lk (tX9_next d mc ms P) 61 = oIld 1 62 := rfl
theorem lX9_next_62 : lk (tX9_next d mc ms P) 62 = oRetI mc ms P := rfl
end
