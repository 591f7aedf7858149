def tX9_init (d mc ms : Nat) (P : PO) : List (Nat × OP) := [(0, oAld 0 1), (1, oObj 4), (4, oAld 0 5), (5, oNew mc ms 7 8 8), (8, oDup 9), (9, oCallI d mc ms 4 400 yX7_init (Cond.code yX7_init cX7_init 1 none) 0 12), (12, oPr 9 0 15), (15, oAld 0 16), (16, oNew mc ms 3 1 19), (19, oDup 20), (20, oCallI d mc ms 1 200 yX3_init (Cond.code yX3_init cX3_init 1 none) 0 23), (23, oPr 9 1 26), (26, oAld 0 27), (27, oNew mc ms 0 3 30), (30, oDup 31), (31, oCallI d mc ms 1 200 yX0_init (Cond.code yX0_init cX0_init 1 none) 0 34), (34, oPr 9 2 37), (37, oAld 0 38), (38, oPush (.int 3) 39), (39, oNewA mc ms 108 42), (42, oPr 9 3 45), (45, oAld 0 46), (46, oNew mc ms 1 4 49), (49, oDup 50), (50, oCallI d mc ms 5 59 yX1_init (Cond.code yX1_init cX1_init 1 none) 0 53), (53, oPr 9 4 56), (56, oAld 0 57), (57, oNew mc ms 1 4 60), (60, oDup 61), (61, oCallI d mc ms 5 59 yX1_init (Cond.code yX1_init cX1_init 1 none) 0 64), (64, oPr 9 5 67), (67, oAld 0 68), (68, oNew mc ms 4 5 71), (71, oDup 72), (72, oAld 0 73), (73, oGr 9 4 76), (76, oCallI d mc ms 20 362 yX4_init (Cond.code yX4_init cX4_init 2 none) 1 79), (79, oPr 9 6 82), (82, oAld 0 83), (83, oNew mc ms 2 5 86), (86, oDup 87), (87, oAld 0 88), (88, oGr 9 4 91), (91, oCallI d mc ms 20 362 yX2_init (Cond.code yX2_init cX2_init 2 none) 1 94), (94, oPr 9 7 97), (97, oAld 0 98), (98, oPush .null 99), (99, oPr 9 9 102), (102, oAld 0 103), (103, oPush (.int (-1)) 104), (104, oPi 9 10 107), (107, oAld 0 108), (108, oPush (.int (-1)) 109), (109, oPi 9 11 112), (112, oAld 0 113), (113, oPush (.int 0) 114), (114, oPi 9 12 117), (117, oAld 0 118), (118, oPush (.int (-1)) 119), (119, oPi 9 13 122), (122, oPush (.int 0) 123), (123, oIst 1 124), (124, oIld 1 125), (125, oPush (.int 3) 126), (126, oIc (fun x y => y ≤ x) 148 129), (129, oAld 0 130), (130, oGr 9 3 133), (133, oIld 1 134), (134, oNew mc ms 6 16 137), (137, oDup 138), (138, oCallI d mc ms 19 1972 yX6_init (Cond.code yX6_init cX6_init 2 none) 0 141), (141, oSr 108 142), (142, oInc 1 1 145), (145, oGoto 124), (148, oAld 0 149), (149, oAld 0 150), (150, oGr 9 3 153), (153, oPush (.int 0) 154), (154, oAr 108 155), (155, oPr 9 8 158), (158, oRetV mc ms P)]
set_option maxRecDepth 20000 in
theorem sX9_init {p : Program} {l : Launch} {e : Env} {s : State} {m : MethodId} {args : Array Value} {below : List Frame} {meth : Method} {c : Code} {D : va_G} {cA : Nat → ClassId} {ad0 : Nat → Nat} {n0 sz d mc ms : Nat} {P : PO} (hM : FM p l s m args meth c D cA 2 ad0 n0 sz cX9_init RX9 none [] yX9_init.name) : ∀ q ∈ tX9_init d mc ms P, Snd (jM p l e s m args below meth c D cA 2 ad0 n0 sz (d + 1) mc ms P) q.1 q.2 := by
  have hF := hM.1
  have hts := hF.2.2.2.2.1
  unfold tX9_init
  refine fmS (snd_aloadn hF (k := 0) rfl (by decide +kernel)) ?_
  refine fmS (snd_obj hF (show Rk d mc ms (rmD (d + 1) mc ms) from ⟨Nat.le_refl _, Nat.le_refl _, Nat.le_refl _, Nat.le_refl _⟩) qw105 qw106 qw107 (by decide +kernel)) ?_
  refine fmS (snd_aloadn hF (k := 0) rfl (by decide +kernel)) ?_
  refine fmS (snd_new hF okX7 (Nat.le_refl _) (Nat.le_refl _) qw108 qw109 qw77 (by decide +kernel) (by decide +kernel)) ?_
  refine fmS (snd_dup hF (by decide +kernel)) ?_
  refine fmS (snd_callIN hF hM.2.1 hM.2.2.1 (show Rk d mc ms (rmD (d + 1) mc ms) from ⟨Nat.le_refl _, Nat.le_refl _, Nat.le_refl _, Nat.le_refl _⟩) k_X7_init rfl qw111 qw110 (by decide +kernel)) ?_
  refine fmS (snd_putrF hF okX9 (k := 0) (by decide) qw327 rfl rfl rfl (ref_ok rfl) hM.2.2.2.2.2.2 rfl (by decide +kernel)) ?_
  refine fmS (snd_aloadn hF (k := 0) rfl (by decide +kernel)) ?_
  refine fmS (snd_new hF okX3 (Nat.le_refl _) (Nat.le_refl _) qw148 qw149 qw79 (by decide +kernel) (by decide +kernel)) ?_
  refine fmS (snd_dup hF (by decide +kernel)) ?_
  refine fmS (snd_callIN hF hM.2.1 hM.2.2.1 (show Rk d mc ms (rmD (d + 1) mc ms) from ⟨Nat.le_refl _, Nat.le_refl _, Nat.le_refl _, Nat.le_refl _⟩) k_X3_init rfl qw151 qw150 (by decide +kernel)) ?_
  refine fmS (snd_putrF hF okX9 (k := 1) (by decide) qw328 rfl rfl rfl (ref_ok rfl) hM.2.2.2.2.2.2 rfl (by decide +kernel)) ?_
  refine fmS (snd_aloadn hF (k := 0) rfl (by decide +kernel)) ?_
  refine fmS (snd_new hF okX0 (Nat.le_refl _) (Nat.le_refl _) qw161 qw162 qw80 (by decide +kernel) (by decide +kernel)) ?_
  refine fmS (snd_dup hF (by decide +kernel)) ?_
  refine fmS (snd_callIN hF hM.2.1 hM.2.2.1 (show Rk d mc ms (rmD (d + 1) mc ms) from ⟨Nat.le_refl _, Nat.le_refl _, Nat.le_refl _, Nat.le_refl _⟩) k_X0_init rfl qw164 qw163 (by decide +kernel)) ?_
  refine fmS (snd_putrF hF okX9 (k := 2) (by decide) qw329 rfl rfl rfl (ref_ok rfl) hM.2.2.2.2.2.2 rfl (by decide +kernel)) ?_
  refine fmS (snd_aloadn hF (k := 0) rfl (by decide +kernel)) ?_
  refine fmS (snd_iconst hF (n := 3) rfl (by decide +kernel)) ?_
  refine fmS (snd_newR hF (idx := 30) (Nat.le_refl _) (Nat.le_refl _) qw177 qw178 (by decide +kernel)) ?_
  refine fmS (snd_putrF hF okX9 (k := 3) (by decide) qw330 rfl rfl rfl (ref_ok rfl) hM.2.2.2.2.2.2 rfl (by decide +kernel)) ?_
  refine fmS (snd_aloadn hF (k := 0) rfl (by decide +kernel)) ?_
  refine fmS (snd_new hF okX1 (Nat.le_refl _) (Nat.le_refl _) qw179 qw180 qw81 (by decide +kernel) (by decide +kernel)) ?_
  refine fmS (snd_dup hF (by decide +kernel)) ?_
  refine fmS (snd_callIN hF hM.2.1 hM.2.2.1 (show Rk d mc ms (rmD (d + 1) mc ms) from ⟨Nat.le_refl _, Nat.le_refl _, Nat.le_refl _, Nat.le_refl _⟩) k_X1_init rfl qw182 qw181 (by decide +kernel)) ?_
  refine fmS (snd_putrF hF okX9 (k := 4) (by decide) qw331 rfl rfl rfl (ref_ok rfl) hM.2.2.2.2.2.2 rfl (by decide +kernel)) ?_
  refine fmS (snd_aloadn hF (k := 0) rfl (by decide +kernel)) ?_
  refine fmS (snd_new hF okX1 (Nat.le_refl _) (Nat.le_refl _) qw179 qw180 qw81 (by decide +kernel) (by decide +kernel)) ?_
  refine fmS (snd_dup hF (by decide +kernel)) ?_
  refine fmS (snd_callIN hF hM.2.1 hM.2.2.1 (show Rk d mc ms (rmD (d + 1) mc ms) from ⟨Nat.le_refl _, Nat.le_refl _, Nat.le_refl _, Nat.le_refl _⟩) k_X1_init rfl qw182 qw181 (by decide +kernel)) ?_
  refine fmS (snd_putrF hF okX9 (k := 5) (by decide) qw332 rfl rfl rfl (ref_ok rfl) hM.2.2.2.2.2.2 rfl (by decide +kernel)) ?_
  refine fmS (snd_aloadn hF (k := 0) rfl (by decide +kernel)) ?_
  refine fmS (snd_new hF okX4 (Nat.le_refl _) (Nat.le_refl _) qw207 qw208 qw83 (by decide +kernel) (by decide +kernel)) ?_
  refine fmS (snd_dup hF (by decide +kernel)) ?_
  refine fmS (snd_aloadn hF (k := 0) rfl (by decide +kernel)) ?_
  refine fmS (snd_getr hF okX9 (k := 4) (by decide) qw331 rfl rfl (by decide +kernel)) ?_
  refine fmS (snd_callIN hF hM.2.1 hM.2.2.1 (show Rk d mc ms (rmD (d + 1) mc ms) from ⟨Nat.le_refl _, Nat.le_refl _, Nat.le_refl _, Nat.le_refl _⟩) k_X4_init rfl qw210 qw209 (by decide +kernel)) ?_
  refine fmS (snd_putrF hF okX9 (k := 6) (by decide) qw333 rfl rfl rfl (ref_ok rfl) hM.2.2.2.2.2.2 rfl (by decide +kernel)) ?_
  refine fmS (snd_aloadn hF (k := 0) rfl (by decide +kernel)) ?_
  refine fmS (snd_new hF okX2 (Nat.le_refl _) (Nat.le_refl _) qw234 qw235 qw84 (by decide +kernel) (by decide +kernel)) ?_
  refine fmS (snd_dup hF (by decide +kernel)) ?_
  refine fmS (snd_aloadn hF (k := 0) rfl (by decide +kernel)) ?_
  refine fmS (snd_getr hF okX9 (k := 4) (by decide) qw331 rfl rfl (by decide +kernel)) ?_
  refine fmS (snd_callIN hF hM.2.1 hM.2.2.1 (show Rk d mc ms (rmD (d + 1) mc ms) from ⟨Nat.le_refl _, Nat.le_refl _, Nat.le_refl _, Nat.le_refl _⟩) k_X2_init rfl qw237 qw236 (by decide +kernel)) ?_
  refine fmS (snd_putrF hF okX9 (k := 7) (by decide) qw334 rfl rfl rfl (ref_ok rfl) hM.2.2.2.2.2.2 rfl (by decide +kernel)) ?_
  refine fmS (snd_aloadn hF (k := 0) rfl (by decide +kernel)) ?_
  refine fmS (snd_null hF (by decide +kernel)) ?_
  refine fmS (snd_putr hF okX9 (k := 9) (by decide) qw336 rfl rfl rfl (ref_ok rfl) (by decide +kernel)) ?_
  refine fmS (snd_aloadn hF (k := 0) rfl (by decide +kernel)) ?_
  refine fmS (snd_iconst hF (n := (-1)) rfl (by decide +kernel)) ?_
  refine fmS (snd_puti hF okX9 (k := 10) (by decide) qw337 rfl rfl rfl rfl (by decide +kernel)) ?_
  refine fmS (snd_aloadn hF (k := 0) rfl (by decide +kernel)) ?_
  refine fmS (snd_iconst hF (n := (-1)) rfl (by decide +kernel)) ?_
  refine fmS (snd_puti hF okX9 (k := 11) (by decide) qw338 rfl rfl rfl rfl (by decide +kernel)) ?_
  refine fmS (snd_aloadn hF (k := 0) rfl (by decide +kernel)) ?_
  refine fmS (snd_iconst hF (n := 0) rfl (by decide +kernel)) ?_
  refine fmS (snd_puti hF okX9 (k := 12) (by decide) qw339 rfl rfl rfl rfl (by decide +kernel)) ?_
  refine fmS (snd_aloadn hF (k := 0) rfl (by decide +kernel)) ?_
  refine fmS (snd_iconst hF (n := (-1)) rfl (by decide +kernel)) ?_
  refine fmS (snd_puti hF okX9 (k := 13) (by decide) qw340 rfl rfl rfl rfl (by decide +kernel)) ?_
  refine fmS (snd_iconst hF (n := 0) rfl (by decide +kernel)) ?_
  refine fmS (snd_istoren hF (k := 1) rfl (by decide) (by decide +kernel)) ?_
  refine fmS (snd_iloadn hF (k := 1) rfl (by decide +kernel)) ?_
  refine fmS (snd_iconst hF (n := 3) rfl (by decide +kernel)) ?_
  refine fmS (snd_icmp_ge hF (off := 22) (by decide) (by decide +kernel)) ?_
  refine fmS (snd_aloadn hF (k := 0) rfl (by decide +kernel)) ?_
  refine fmS (snd_getr hF okX9 (k := 3) (by decide) qw330 rfl rfl (by decide +kernel)) ?_
  refine fmS (snd_iloadn hF (k := 1) rfl (by decide +kernel)) ?_
  refine fmS (snd_new hF okX6 (Nat.le_refl _) (Nat.le_refl _) qw177 qw254 qw85 (by decide +kernel) (by decide +kernel)) ?_
  refine fmS (snd_dup hF (by decide +kernel)) ?_
  refine fmS (snd_callIN hF hM.2.1 hM.2.2.1 (show Rk d mc ms (rmD (d + 1) mc ms) from ⟨Nat.le_refl _, Nat.le_refl _, Nat.le_refl _, Nat.le_refl _⟩) k_X6_init rfl qw256 qw255 (by decide +kernel)) ?_
  refine fmS (snd_astore_r hF (by decide +kernel)) ?_
  refine fmS (snd_iinc hF (n := 1) (by decide +kernel) (by decide) (by decide +kernel)) ?_
  refine fmS (snd_goto hF (off := (-21)) (by decide) (by decide +kernel)) ?_
  refine fmS (snd_aloadn hF (k := 0) rfl (by decide +kernel)) ?_
  refine fmS (snd_aloadn hF (k := 0) rfl (by decide +kernel)) ?_
  refine fmS (snd_getr hF okX9 (k := 3) (by decide) qw330 rfl rfl (by decide +kernel)) ?_
  refine fmS (snd_iconst hF (n := 0) rfl (by decide +kernel)) ?_
  refine fmS (snd_aaload108 hF (by decide +kernel)) ?_
  refine fmS (snd_putr hF okX9 (k := 8) (by decide) qw335 rfl rfl rfl (ref_ok rfl) (by decide +kernel)) ?_
  refine fmS (snd_retV hM (by decide +kernel)) ?_
  exact fmE
theorem iX9_init {d mc ms n : Nat} {av : List Value} {M : PM} {P : PO} (hw : wid av ≤ 2) (hb : ∀ J : KT, (∀ (k : Nat) (stops : Nat → Bool) (pc : Nat) (lv : LV) (st : List Value) (nn : NN) (M : PM), lk (tX9_init d mc ms P) pc (wpN (tX9_init d mc ms P) stops k J) lv st nn M → J pc lv st nn M) → J 0 (entA 0 av) [] (n, 0, 0) M) : CallOK (d + 1) mc ms yX9_init (Cond.code yX9_init cX9_init 2 none) av n M P := call_intro (own := RX9) (by decide) rfl hw (fun _ _ _ _ _ _ _ _ _ _ _ _ _ hM => sX9_init hM) hb
def tX10_init (d mc ms : Nat) (P : PO) : List (Nat × OP) := [(0, oAld 0 1), (1, oObj 4), (4, oAld 0 5), (5, oPush (.int 875) 8), (8, oNewA mc ms 100 10), (10, oPr 10 1 13), (13, oAld 0 14), (14, oPush (.int 875) 17), (17, oNewA mc ms 100 19), (19, oPr 10 2 22), (22, oAld 0 23), (23, oPush (.int 875) 26), (26, oNewA mc ms 100 28), (28, oPr 10 4 31), (31, oAld 0 32), (32, oPush (.int 100) 34), (34, oNewA mc ms 100 36), (36, oPr 10 5 39), (39, oAld 0 40), (40, oPush (.int (-1)) 41), (41, oPi 10 8 44), (44, oAld 0 45), (45, oPush (.int 200) 48), (48, oNewA mc ms 100 50), (50, oPr 10 11 53), (53, oAld 0 54), (54, oPush (.int 200) 57), (57, oNewA mc ms 100 59), (59, oPr 10 12 62), (62, oAld 0 63), (63, oPush (.int 200) 66), (66, oNewA mc ms 100 68), (68, oPr 10 13 71), (71, oAld 0 72), (72, oPush (.int 200) 75), (75, oNewA mc ms 100 77), (77, oPr 10 14 80), (80, oAld 0 81), (81, oPush (.int 100) 83), (83, oNewA mc ms 100 85), (85, oPr 10 16 88), (88, oAld 0 89), (89, oPush (.int 100) 91), (91, oNewA mc ms 100 93), (93, oPr 10 17 96), (96, oAld 0 97), (97, oPush (.int 200) 100), (100, oNewA mc ms 100 102), (102, oPr 10 18 105), (105, oAld 0 106), (106, oPush (.int 1600) 109), (109, oNewA mc ms 100 111), (111, oPr 10 20 114), (114, oAld 0 115), (115, oPush (.int 8) 117), (117, oNewA mc ms 100 119), (119, oPr 10 21 122), (122, oAld 0 123), (123, oPush (.int 200) 126), (126, oNewA mc ms 100 128), (128, oPr 10 22 131), (131, oAld 0 132), (132, oPush (.int 8) 134), (134, oNewA mc ms 100 136), (136, oPr 10 25 139), (139, oAld 0 140), (140, oPush (.int 8) 142), (142, oNewA mc ms 104 144), (144, oPr 10 26 147), (147, oAld 0 148), (148, oPush (.int 16) 150), (150, oNewA mc ms 100 152), (152, oPr 10 27 155), (155, oAld 0 156), (156, oPush (.int 16) 158), (158, oNewA mc ms 104 160), (160, oPr 10 28 163), (163, oAld 0 164), (164, oPush (.int (-1)) 165), (165, oPi 10 29 168), (168, oAld 0 169), (169, oPush (.int 8) 171), (171, oNewA mc ms 100 173), (173, oPr 10 30 176), (176, oAld 0 177), (177, oPush (.int 8) 179), (179, oNewA mc ms 104 181), (181, oPr 10 31 184), (184, oAld 0 185), (185, oPush (.int 8) 187), (187, oNewA mc ms 100 189), (189, oPr 10 32 192), (192, oAld 0 193), (193, oPush (.int 8) 195), (195, oNewA mc ms 104 197), (197, oPr 10 33 200), (200, oAld 0 201), (201, oPush (.int (-1)) 202), (202, oPi 10 34 205), (205, oAld 0 206), (206, oCallV d mc ms P 0 0 yX10_ends (Cond.code yX10_ends cX10_ends 7 (some .boolean)) 0 10 209), (209, oPop 210), (210, oRetV mc ms P)]
set_option maxRecDepth 20000 in
theorem sX10_init {p : Program} {l : Launch} {e : Env} {s : State} {m : MethodId} {args : Array Value} {below : List Frame} {meth : Method} {c : Code} {D : va_G} {cA : Nat → ClassId} {ad0 : Nat → Nat} {n0 sz d mc ms : Nat} {P : PO} (hM : FM p l s m args meth c D cA 1 ad0 n0 sz cX10_init RX10 none [] yX10_init.name) : ∀ q ∈ tX10_init d mc ms P, Snd (jM p l e s m args below meth c D cA 1 ad0 n0 sz (d + 1) mc ms P) q.1 q.2 := by
  have hF := hM.1
  have hts := hF.2.2.2.2.1
  unfold tX10_init
  refine fmS (snd_aloadn hF (k := 0) rfl (by decide +kernel)) ?_
  refine fmS (snd_obj hF (show Rk d mc ms (rmD (d + 1) mc ms) from ⟨Nat.le_refl _, Nat.le_refl _, Nat.le_refl _, Nat.le_refl _⟩) qw1093 qw106 qw107 (by decide +kernel)) ?_
  refine fmS (snd_aloadn hF (k := 0) rfl (by decide +kernel)) ?_
  refine fmS (snd_sipush hF (n := 875) (by decide +kernel) (by decide +kernel)) ?_
  refine fmS (snd_newA100 hF (Nat.le_refl _) (Nat.le_refl _) qw147 (by decide +kernel)) ?_
  refine fmS (snd_putrF hF okX10 (k := 1) (by decide) qw1105 rfl rfl rfl (ref_ok rfl) hM.2.2.2.2.2.2 rfl (by decide +kernel)) ?_
  refine fmS (snd_aloadn hF (k := 0) rfl (by decide +kernel)) ?_
  refine fmS (snd_sipush hF (n := 875) (by decide +kernel) (by decide +kernel)) ?_
  refine fmS (snd_newA100 hF (Nat.le_refl _) (Nat.le_refl _) qw147 (by decide +kernel)) ?_
  refine fmS (snd_putrF hF okX10 (k := 2) (by decide) qw1106 rfl rfl rfl (ref_ok rfl) hM.2.2.2.2.2.2 rfl (by decide +kernel)) ?_
  refine fmS (snd_aloadn hF (k := 0) rfl (by decide +kernel)) ?_
  refine fmS (snd_sipush hF (n := 875) (by decide +kernel) (by decide +kernel)) ?_
  refine fmS (snd_newA100 hF (Nat.le_refl _) (Nat.le_refl _) qw147 (by decide +kernel)) ?_
  refine fmS (snd_putrF hF okX10 (k := 4) (by decide) qw1108 rfl rfl rfl (ref_ok rfl) hM.2.2.2.2.2.2 rfl (by decide +kernel)) ?_
  refine fmS (snd_aloadn hF (k := 0) rfl (by decide +kernel)) ?_
  refine fmS (snd_bipush hF (n := 100) (by decide +kernel) (by decide +kernel)) ?_
  refine fmS (snd_newA100 hF (Nat.le_refl _) (Nat.le_refl _) qw147 (by decide +kernel)) ?_
  refine fmS (snd_putrF hF okX10 (k := 5) (by decide) qw1109 rfl rfl rfl (ref_ok rfl) hM.2.2.2.2.2.2 rfl (by decide +kernel)) ?_
  refine fmS (snd_aloadn hF (k := 0) rfl (by decide +kernel)) ?_
  refine fmS (snd_iconst hF (n := (-1)) rfl (by decide +kernel)) ?_
  refine fmS (snd_puti hF okX10 (k := 8) (by decide) qw1112 rfl rfl rfl rfl (by decide +kernel)) ?_
  refine fmS (snd_aloadn hF (k := 0) rfl (by decide +kernel)) ?_
  refine fmS (snd_sipush hF (n := 200) (by decide +kernel) (by decide +kernel)) ?_
  refine fmS (snd_newA100 hF (Nat.le_refl _) (Nat.le_refl _) qw147 (by decide +kernel)) ?_
  refine fmS (snd_putrF hF okX10 (k := 11) (by decide) qw1115 rfl rfl rfl (ref_ok rfl) hM.2.2.2.2.2.2 rfl (by decide +kernel)) ?_
  refine fmS (snd_aloadn hF (k := 0) rfl (by decide +kernel)) ?_
  refine fmS (snd_sipush hF (n := 200) (by decide +kernel) (by decide +kernel)) ?_
  refine fmS (snd_newA100 hF (Nat.le_refl _) (Nat.le_refl _) qw147 (by decide +kernel)) ?_
  refine fmS (snd_putrF hF okX10 (k := 12) (by decide) qw1116 rfl rfl rfl (ref_ok rfl) hM.2.2.2.2.2.2 rfl (by decide +kernel)) ?_
  refine fmS (snd_aloadn hF (k := 0) rfl (by decide +kernel)) ?_
  refine fmS (snd_sipush hF (n := 200) (by decide +kernel) (by decide +kernel)) ?_
  refine fmS (snd_newA100 hF (Nat.le_refl _) (Nat.le_refl _) qw147 (by decide +kernel)) ?_
  refine fmS (snd_putrF hF okX10 (k := 13) (by decide) qw1117 rfl rfl rfl (ref_ok rfl) hM.2.2.2.2.2.2 rfl (by decide +kernel)) ?_
  refine fmS (snd_aloadn hF (k := 0) rfl (by decide +kernel)) ?_
  refine fmS (snd_sipush hF (n := 200) (by decide +kernel) (by decide +kernel)) ?_
  refine fmS (snd_newA100 hF (Nat.le_refl _) (Nat.le_refl _) qw147 (by decide +kernel)) ?_
  refine fmS (snd_putrF hF okX10 (k := 14) (by decide) qw1118 rfl rfl rfl (ref_ok rfl) hM.2.2.2.2.2.2 rfl (by decide +kernel)) ?_
  refine fmS (snd_aloadn hF (k := 0) rfl (by decide +kernel)) ?_
  refine fmS (snd_bipush hF (n := 100) (by decide +kernel) (by decide +kernel)) ?_
  refine fmS (snd_newA100 hF (Nat.le_refl _) (Nat.le_refl _) qw147 (by decide +kernel)) ?_
  refine fmS (snd_putrF hF okX10 (k := 16) (by decide) qw1120 rfl rfl rfl (ref_ok rfl) hM.2.2.2.2.2.2 rfl (by decide +kernel)) ?_
  refine fmS (snd_aloadn hF (k := 0) rfl (by decide +kernel)) ?_
  refine fmS (snd_bipush hF (n := 100) (by decide +kernel) (by decide +kernel)) ?_
  refine fmS (snd_newA100 hF (Nat.le_refl _) (Nat.le_refl _) qw147 (by decide +kernel)) ?_
  refine fmS (snd_putrF hF okX10 (k := 17) (by decide) qw1121 rfl rfl rfl (ref_ok rfl) hM.2.2.2.2.2.2 rfl (by decide +kernel)) ?_
  refine fmS (snd_aloadn hF (k := 0) rfl (by decide +kernel)) ?_
  refine fmS (snd_sipush hF (n := 200) (by decide +kernel) (by decide +kernel)) ?_
  refine fmS (snd_newA100 hF (Nat.le_refl _) (Nat.le_refl _) qw147 (by decide +kernel)) ?_
  refine fmS (snd_putrF hF okX10 (k := 18) (by decide) qw1122 rfl rfl rfl (ref_ok rfl) hM.2.2.2.2.2.2 rfl (by decide +kernel)) ?_
  refine fmS (snd_aloadn hF (k := 0) rfl (by decide +kernel)) ?_
  refine fmS (snd_sipush hF (n := 1600) (by decide +kernel) (by decide +kernel)) ?_
  refine fmS (snd_newA100 hF (Nat.le_refl _) (Nat.le_refl _) qw147 (by decide +kernel)) ?_
  refine fmS (snd_putrF hF okX10 (k := 20) (by decide) qw1124 rfl rfl rfl (ref_ok rfl) hM.2.2.2.2.2.2 rfl (by decide +kernel)) ?_
  refine fmS (snd_aloadn hF (k := 0) rfl (by decide +kernel)) ?_
  refine fmS (snd_bipush hF (n := 8) (by decide +kernel) (by decide +kernel)) ?_
  refine fmS (snd_newA100 hF (Nat.le_refl _) (Nat.le_refl _) qw147 (by decide +kernel)) ?_
  refine fmS (snd_putrF hF okX10 (k := 21) (by decide) qw1125 rfl rfl rfl (ref_ok rfl) hM.2.2.2.2.2.2 rfl (by decide +kernel)) ?_
  refine fmS (snd_aloadn hF (k := 0) rfl (by decide +kernel)) ?_
  refine fmS (snd_sipush hF (n := 200) (by decide +kernel) (by decide +kernel)) ?_
  refine fmS (snd_newA100 hF (Nat.le_refl _) (Nat.le_refl _) qw147 (by decide +kernel)) ?_
  refine fmS (snd_putrF hF okX10 (k := 22) (by decide) qw1126 rfl rfl rfl (ref_ok rfl) hM.2.2.2.2.2.2 rfl (by decide +kernel)) ?_
  refine fmS (snd_aloadn hF (k := 0) rfl (by decide +kernel)) ?_
  refine fmS (snd_bipush hF (n := 8) (by decide +kernel) (by decide +kernel)) ?_
  refine fmS (snd_newA100 hF (Nat.le_refl _) (Nat.le_refl _) qw147 (by decide +kernel)) ?_
  refine fmS (snd_putrF hF okX10 (k := 25) (by decide) qw1129 rfl rfl rfl (ref_ok rfl) hM.2.2.2.2.2.2 rfl (by decide +kernel)) ?_
  refine fmS (snd_aloadn hF (k := 0) rfl (by decide +kernel)) ?_
  refine fmS (snd_bipush hF (n := 8) (by decide +kernel) (by decide +kernel)) ?_
  refine fmS (snd_newA104 hF (Nat.le_refl _) (Nat.le_refl _) qw253 (by decide +kernel)) ?_
  refine fmS (snd_putrF hF okX10 (k := 26) (by decide) qw1130 rfl rfl rfl (ref_ok rfl) hM.2.2.2.2.2.2 rfl (by decide +kernel)) ?_
  refine fmS (snd_aloadn hF (k := 0) rfl (by decide +kernel)) ?_
  refine fmS (snd_bipush hF (n := 16) (by decide +kernel) (by decide +kernel)) ?_
  refine fmS (snd_newA100 hF (Nat.le_refl _) (Nat.le_refl _) qw147 (by decide +kernel)) ?_
  refine fmS (snd_putrF hF okX10 (k := 27) (by decide) qw1131 rfl rfl rfl (ref_ok rfl) hM.2.2.2.2.2.2 rfl (by decide +kernel)) ?_
  refine fmS (snd_aloadn hF (k := 0) rfl (by decide +kernel)) ?_
  refine fmS (snd_bipush hF (n := 16) (by decide +kernel) (by decide +kernel)) ?_
  refine fmS (snd_newA104 hF (Nat.le_refl _) (Nat.le_refl _) qw253 (by decide +kernel)) ?_
  refine fmS (snd_putrF hF okX10 (k := 28) (by decide) qw1132 rfl rfl rfl (ref_ok rfl) hM.2.2.2.2.2.2 rfl (by decide +kernel)) ?_
  refine fmS (snd_aloadn hF (k := 0) rfl (by decide +kernel)) ?_
  refine fmS (snd_iconst hF (n := (-1)) rfl (by decide +kernel)) ?_
  refine fmS (snd_puti hF okX10 (k := 29) (by decide) qw1133 rfl rfl rfl rfl (by decide +kernel)) ?_
  refine fmS (snd_aloadn hF (k := 0) rfl (by decide +kernel)) ?_
  refine fmS (snd_bipush hF (n := 8) (by decide +kernel) (by decide +kernel)) ?_
  refine fmS (snd_newA100 hF (Nat.le_refl _) (Nat.le_refl _) qw147 (by decide +kernel)) ?_
  refine fmS (snd_putrF hF okX10 (k := 30) (by decide) qw1134 rfl rfl rfl (ref_ok rfl) hM.2.2.2.2.2.2 rfl (by decide +kernel)) ?_
  refine fmS (snd_aloadn hF (k := 0) rfl (by decide +kernel)) ?_
  refine fmS (snd_bipush hF (n := 8) (by decide +kernel) (by decide +kernel)) ?_
  refine fmS (snd_newA104 hF (Nat.le_refl _) (Nat.le_refl _) qw253 (by decide +kernel)) ?_
  refine fmS (snd_putrF hF okX10 (k := 31) (by decide) qw1135 rfl rfl rfl (ref_ok rfl) hM.2.2.2.2.2.2 rfl (by decide +kernel)) ?_
  refine fmS (snd_aloadn hF (k := 0) rfl (by decide +kernel)) ?_
  refine fmS (snd_bipush hF (n := 8) (by decide +kernel) (by decide +kernel)) ?_
  refine fmS (snd_newA100 hF (Nat.le_refl _) (Nat.le_refl _) qw147 (by decide +kernel)) ?_
  refine fmS (snd_putrF hF okX10 (k := 32) (by decide) qw1136 rfl rfl rfl (ref_ok rfl) hM.2.2.2.2.2.2 rfl (by decide +kernel)) ?_
  refine fmS (snd_aloadn hF (k := 0) rfl (by decide +kernel)) ?_
  refine fmS (snd_bipush hF (n := 8) (by decide +kernel) (by decide +kernel)) ?_
  refine fmS (snd_newA104 hF (Nat.le_refl _) (Nat.le_refl _) qw253 (by decide +kernel)) ?_
  refine fmS (snd_putrF hF okX10 (k := 33) (by decide) qw1137 rfl rfl rfl (ref_ok rfl) hM.2.2.2.2.2.2 rfl (by decide +kernel)) ?_
  refine fmS (snd_aloadn hF (k := 0) rfl (by decide +kernel)) ?_
  refine fmS (snd_iconst hF (n := (-1)) rfl (by decide +kernel)) ?_
  refine fmS (snd_puti hF okX10 (k := 34) (by decide) qw1138 rfl rfl rfl rfl (by decide +kernel)) ?_
  refine fmS (snd_aloadn hF (k := 0) rfl (by decide +kernel)) ?_
  refine fmS (snd_callV hM k_X10_ends okX10 qw1094 qw1096 (hts _ qw34) (by decide +kernel)) ?_
  refine fmS (snd_pop hF (by decide +kernel)) ?_
  refine fmS (snd_retV hM (by decide +kernel)) ?_
  exact fmE
theorem iX10_init {d mc ms n : Nat} {av : List Value} {M : PM} {P : PO} (hw : wid av ≤ 1) (hb : ∀ J : KT, (∀ (k : Nat) (stops : Nat → Bool) (pc : Nat) (lv : LV) (st : List Value) (nn : NN) (M : PM), lk (tX10_init d mc ms P) pc (wpN (tX10_init d mc ms P) stops k J) lv st nn M → J pc lv st nn M) → J 0 (entA 0 av) [] (n, 0, 0) M) : CallOK (d + 1) mc ms yX10_init (Cond.code yX10_init cX10_init 1 none) av n M P := call_intro (own := RX10) (by decide) rfl hw (fun _ _ _ _ _ _ _ _ _ _ _ _ _ hM => sX10_init hM) hb
def tX0_init (d mc ms : Nat) (P : PO) : List (Nat × OP) := [(0, oAld 0 1), (1, oCallI d mc ms 0 0 yX8_init (Cond.code yX8_init cX8_init 1 none) 0 4), (4, oAld 0 5), (5, oPush (.int 200) 8), (8, oNewA mc ms 100 10), (10, oPr 0 0 13), (13, oAld 0 14), (14, oPush (.int 100) 16), (16, oPi 0 1 19), (19, oAld 0 20), (20, oPush (.int 300) 23), (23, oPi 0 2 26), (26, oRetV mc ms P)]
set_option maxRecDepth 20000 in
theorem sX0_init {p : Program} {l : Launch} {e : Env} {s : State} {m : MethodId} {args : Array Value} {below : List Frame} {meth : Method} {c : Code} {D : va_G} {cA : Nat → ClassId} {ad0 : Nat → Nat} {n0 sz d mc ms : Nat} {P : PO} (hM : FM p l s m args meth c D cA 1 ad0 n0 sz cX0_init RX0 none [] yX0_init.name) : ∀ q ∈ tX0_init d mc ms P, Snd (jM p l e s m args below meth c D cA 1 ad0 n0 sz (d + 1) mc ms P) q.1 q.2 := by
  have hF := hM.1
  have hts := hF.2.2.2.2.1
  unfold tX0_init
  refine fmS (snd_aloadn hF (k := 0) rfl (by decide +kernel)) ?_
  refine fmS (snd_callIN hF hM.2.1 hM.2.2.1 (show Rk d mc ms (rmD (d + 1) mc ms) from ⟨Nat.le_refl _, Nat.le_refl _, Nat.le_refl _, Nat.le_refl _⟩) k_X8_init rfl qw154 qw166 (by decide +kernel)) ?_
  refine fmS (snd_aloadn hF (k := 0) rfl (by decide +kernel)) ?_
  refine fmS (snd_sipush hF (n := 200) (by decide +kernel) (by decide +kernel)) ?_
  refine fmS (snd_newA100 hF (Nat.le_refl _) (Nat.le_refl _) qw147 (by decide +kernel)) ?_
  refine fmS (snd_putrF hF okX0 (k := 0) (by decide) qw167 rfl rfl rfl (ref_ok rfl) hM.2.2.2.2.2.2 rfl (by decide +kernel)) ?_
  refine fmS (snd_aloadn hF (k := 0) rfl (by decide +kernel)) ?_
  refine fmS (snd_bipush hF (n := 100) (by decide +kernel) (by decide +kernel)) ?_
  refine fmS (snd_puti hF okX0 (k := 1) (by decide) qw168 rfl rfl rfl rfl (by decide +kernel)) ?_
  refine fmS (snd_aloadn hF (k := 0) rfl (by decide +kernel)) ?_
  refine fmS (snd_sipush hF (n := 300) (by decide +kernel) (by decide +kernel)) ?_
  refine fmS (snd_puti hF okX0 (k := 2) (by decide) qw169 rfl rfl rfl rfl (by decide +kernel)) ?_
  refine fmS (snd_retV hM (by decide +kernel)) ?_
  exact fmE
theorem iX0_init {d mc ms n : Nat} {av : List Value} {M : PM} {P : PO} (hw : wid av ≤ 1) (hb : ∀ J : KT, (∀ (k : Nat) (stops : Nat → Bool) (pc : Nat) (lv : LV) (st : List Value) (nn : NN) (M : PM), lk (tX0_init d mc ms P) pc (wpN (tX0_init d mc ms P) stops k J) lv st nn M → J pc lv st nn M) → J 0 (entA 0 av) [] (n, 0, 0) M) : CallOK (d + 1) mc ms yX0_init (Cond.code yX0_init cX0_init 1 none) av n M P := call_intro (own := RX0) (by decide) rfl hw (fun _ _ _ _ _ _ _ _ _ _ _ _ _ hM => sX0_init hM) hb
def tX1_init (d mc ms : Nat) (P : PO) : List (Nat × OP) := [(0, oAld 0 1), (1, oObj 4), (4, oAld 0 5), (5, oPush (.int 0) 6), (6, oPi 1 0 9), (9, oAld 0 10), (10, oPush (.int 0) 11), (11, oPi 1 1 14), (14, oAld 0 15), (15, oPush (.int 3) 16), (16, oPush (.int 16) 18), (18, oNewG mc ms 106 100 22), (22, oPr 1 2 25), (25, oAld 0 26), (26, oPush (.int 8) 28), (28, oNewA mc ms 100 30), (30, oPr 1 3 33), (33, oRetV mc ms P)]
set_option maxRecDepth 20000 in
theorem sX1_init {p : Program} {l : Launch} {e : Env} {s : State} {m : MethodId} {args : Array Value} {below : List Frame} {meth : Method} {c : Code} {D : va_G} {cA : Nat → ClassId} {ad0 : Nat → Nat} {n0 sz d mc ms : Nat} {P : PO} (hM : FM p l s m args meth c D cA 1 ad0 n0 sz cX1_init RX1 none [] yX1_init.name) : ∀ q ∈ tX1_init d mc ms P, Snd (jM p l e s m args below meth c D cA 1 ad0 n0 sz (d + 1) mc ms P) q.1 q.2 := by
  have hF := hM.1
  have hts := hF.2.2.2.2.1
  unfold tX1_init
  refine fmS (snd_aloadn hF (k := 0) rfl (by decide +kernel)) ?_
  refine fmS (snd_obj hF (show Rk d mc ms (rmD (d + 1) mc ms) from ⟨Nat.le_refl _, Nat.le_refl _, Nat.le_refl _, Nat.le_refl _⟩) qw184 qw106 qw107 (by decide +kernel)) ?_
  refine fmS (snd_aloadn hF (k := 0) rfl (by decide +kernel)) ?_
  refine fmS (snd_iconst hF (n := 0) rfl (by decide +kernel)) ?_
  refine fmS (snd_puti hF okX1 (k := 0) (by decide) qw187 rfl rfl rfl rfl (by decide +kernel)) ?_
  refine fmS (snd_aloadn hF (k := 0) rfl (by decide +kernel)) ?_
  refine fmS (snd_iconst hF (n := 0) rfl (by decide +kernel)) ?_
  refine fmS (snd_puti hF okX1 (k := 1) (by decide) qw189 rfl rfl rfl rfl (by decide +kernel)) ?_
  refine fmS (snd_aloadn hF (k := 0) rfl (by decide +kernel)) ?_
  refine fmS (snd_iconst hF (n := 3) rfl (by decide +kernel)) ?_
  refine fmS (snd_bipush hF (n := 16) (by decide +kernel) (by decide +kernel)) ?_
  refine fmS (snd_newG106 hF (idx := 18) (Nat.le_refl _) (Nat.le_refl _) qw185 qw186 qw147 (by decide +kernel)) ?_
  refine fmS (snd_putrF hF okX1 (k := 2) (by decide) qw192 rfl rfl rfl (ref_ok rfl) hM.2.2.2.2.2.2 rfl (by decide +kernel)) ?_
  refine fmS (snd_aloadn hF (k := 0) rfl (by decide +kernel)) ?_
  refine fmS (snd_bipush hF (n := 8) (by decide +kernel) (by decide +kernel)) ?_
  refine fmS (snd_newA100 hF (Nat.le_refl _) (Nat.le_refl _) qw147 (by decide +kernel)) ?_
  refine fmS (snd_putrF hF okX1 (k := 3) (by decide) qw195 rfl rfl rfl (ref_ok rfl) hM.2.2.2.2.2.2 rfl (by decide +kernel)) ?_
  refine fmS (snd_retV hM (by decide +kernel)) ?_
  exact fmE
theorem iX1_init {d mc ms n : Nat} {av : List Value} {M : PM} {P : PO} (hw : wid av ≤ 1) (hb : ∀ J : KT, (∀ (k : Nat) (stops : Nat → Bool) (pc : Nat) (lv : LV) (st : List Value) (nn : NN) (M : PM), lk (tX1_init d mc ms P) pc (wpN (tX1_init d mc ms P) stops k J) lv st nn M → J pc lv st nn M) → J 0 (entA 0 av) [] (n, 0, 0) M) : CallOK (d + 1) mc ms yX1_init (Cond.code yX1_init cX1_init 1 none) av n M P := call_intro (own := RX1) (by decide) rfl hw (fun _ _ _ _ _ _ _ _ _ _ _ _ _ hM => sX1_init hM) hb
def tX2_init (d mc ms : Nat) (P : PO) : List (Nat × OP) := [(0, oAld 0 1), (1, oAld 1 2), (2, oCallI d mc ms 0 0 yX5_init (Cond.code yX5_init cX5_init 2 none) 1 5), (5, oAld 0 6), (6, oPush (.int 18) 8), (8, oPush (.int 8) 10), (10, oNewG mc ms 107 104 14), (14, oPr 2 3 17), (17, oAld 0 18), (18, oPush (.int 200) 21), (21, oNewA mc ms 104 23), (23, oPr 2 4 26), (26, oRetV mc ms P)]
set_option maxRecDepth 20000 in
theorem sX2_init {p : Program} {l : Launch} {e : Env} {s : State} {m : MethodId} {args : Array Value} {below : List Frame} {meth : Method} {c : Code} {D : va_G} {cA : Nat → ClassId} {ad0 : Nat → Nat} {n0 sz d mc ms : Nat} {P : PO} (hM : FM p l s m args meth c D cA 2 ad0 n0 sz cX2_init RX2 none [] yX2_init.name) : ∀ q ∈ tX2_init d mc ms P, Snd (jM p l e s m args below meth c D cA 2 ad0 n0 sz (d + 1) mc ms P) q.1 q.2 := by
  have hF := hM.1
  have hts := hF.2.2.2.2.1
  unfold tX2_init
  refine fmS (snd_aloadn hF (k := 0) rfl (by decide +kernel)) ?_
  refine fmS (snd_aloadn hF (k := 1) rfl (by decide +kernel)) ?_
  refine fmS (snd_callIN hF hM.2.1 hM.2.2.1 (show Rk d mc ms (rmD (d + 1) mc ms) from ⟨Nat.le_refl _, Nat.le_refl _, Nat.le_refl _, Nat.le_refl _⟩) k_X5_init rfl qw213 qw239 (by decide +kernel)) ?_
  refine fmS (snd_aloadn hF (k := 0) rfl (by decide +kernel)) ?_
  refine fmS (snd_bipush hF (n := 18) (by decide +kernel) (by decide +kernel)) ?_
  refine fmS (snd_bipush hF (n := 8) (by decide +kernel) (by decide +kernel)) ?_
  refine fmS (snd_newG107 hF (idx := 9) (Nat.le_refl _) (Nat.le_refl _) qw240 qw241 qw253 (by decide +kernel)) ?_
  refine fmS (snd_putrF hF okX2 (k := 3) (by decide) qw242 rfl rfl rfl (ref_ok rfl) hM.2.2.2.2.2.2 rfl (by decide +kernel)) ?_
  refine fmS (snd_aloadn hF (k := 0) rfl (by decide +kernel)) ?_
  refine fmS (snd_sipush hF (n := 200) (by decide +kernel) (by decide +kernel)) ?_
  refine fmS (snd_newA104 hF (Nat.le_refl _) (Nat.le_refl _) qw253 (by decide +kernel)) ?_
  refine fmS (snd_putrF hF okX2 (k := 4) (by decide) qw244 rfl rfl rfl (ref_ok rfl) hM.2.2.2.2.2.2 rfl (by decide +kernel)) ?_
  refine fmS (snd_retV hM (by decide +kernel)) ?_
  exact fmE
theorem iX2_init {d mc ms n : Nat} {av : List Value} {M : PM} {P : PO} (hw : wid av ≤ 2) (hb : ∀ J : KT, (∀ (k : Nat) (stops : Nat → Bool) (pc : Nat) (lv : LV) (st : List Value) (nn : NN) (M : PM), lk (tX2_init d mc ms P) pc (wpN (tX2_init d mc ms P) stops k J) lv st nn M → J pc lv st nn M) → J 0 (entA 0 av) [] (n, 0, 0) M) : CallOK (d + 1) mc ms yX2_init (Cond.code yX2_init cX2_init 2 none) av n M P := call_intro (own := RX2) (by decide) rfl hw (fun _ _ _ _ _ _ _ _ _ _ _ _ _ hM => sX2_init hM) hb
def tX3_init (d mc ms : Nat) (P : PO) : List (Nat × OP) := [(0, oAld 0 1), (1, oCallI d mc ms 0 0 yX8_init (Cond.code yX8_init cX8_init 1 none) 0 4), (4, oAld 0 5), (5, oPush (.int 200) 8), (8, oNewA mc ms 100 10), (10, oPr 3 0 13), (13, oRetV mc ms P)]
set_option maxRecDepth 20000 in
theorem sX3_init {p : Program} {l : Launch} {e : Env} {s : State} {m : MethodId} {args : Array Value} {below : List Frame} {meth : Method} {c : Code} {D : va_G} {cA : Nat → ClassId} {ad0 : Nat → Nat} {n0 sz d mc ms : Nat} {P : PO} (hM : FM p l s m args meth c D cA 1 ad0 n0 sz cX3_init RX3 none [] yX3_init.name) : ∀ q ∈ tX3_init d mc ms P, Snd (jM p l e s m args below meth c D cA 1 ad0 n0 sz (d + 1) mc ms P) q.1 q.2 := by
  have hF := hM.1
  have hts := hF.2.2.2.2.1
  unfold tX3_init
  refine fmS (snd_aloadn hF (k := 0) rfl (by decide +kernel)) ?_
  refine fmS (snd_callIN hF hM.2.1 hM.2.2.1 (show Rk d mc ms (rmD (d + 1) mc ms) from ⟨Nat.le_refl _, Nat.le_refl _, Nat.le_refl _, Nat.le_refl _⟩) k_X8_init rfl qw154 qw153 (by decide +kernel)) ?_
  refine fmS (snd_aloadn hF (k := 0) rfl (by decide +kernel)) ?_
  refine fmS (snd_sipush hF (n := 200) (by decide +kernel) (by decide +kernel)) ?_
  refine fmS (snd_newA100 hF (Nat.le_refl _) (Nat.le_refl _) qw147 (by decide +kernel)) ?_
  refine fmS (snd_putrF hF okX3 (k := 0) (by decide) qw157 rfl rfl rfl (ref_ok rfl) hM.2.2.2.2.2.2 rfl (by decide +kernel)) ?_
  refine fmS (snd_retV hM (by decide +kernel)) ?_
  exact fmE
theorem iX3_init {d mc ms n : Nat} {av : List Value} {M : PM} {P : PO} (hw : wid av ≤ 1) (hb : ∀ J : KT, (∀ (k : Nat) (stops : Nat → Bool) (pc : Nat) (lv : LV) (st : List Value) (nn : NN) (M : PM), lk (tX3_init d mc ms P) pc (wpN (tX3_init d mc ms P) stops k J) lv st nn M → J pc lv st nn M) → J 0 (entA 0 av) [] (n, 0, 0) M) : CallOK (d + 1) mc ms yX3_init (Cond.code yX3_init cX3_init 1 none) av n M P := call_intro (own := RX3) (by decide) rfl hw (fun _ _ _ _ _ _ _ _ _ _ _ _ _ hM => sX3_init hM) hb
def tX4_init (d mc ms : Nat) (P : PO) : List (Nat × OP) := [(0, oAld 0 1), (1, oAld 1 2), (2, oCallI d mc ms 0 0 yX5_init (Cond.code yX5_init cX5_init 2 none) 1 5), (5, oAld 0 6), (6, oPush (.int 18) 8), (8, oPush (.int 8) 10), (10, oNewG mc ms 106 100 14), (14, oPr 4 3 17), (17, oAld 0 18), (18, oPush (.int 200) 21), (21, oNewA mc ms 100 23), (23, oPr 4 4 26), (26, oRetV mc ms P)]
set_option maxRecDepth 20000 in
theorem sX4_init {p : Program} {l : Launch} {e : Env} {s : State} {m : MethodId} {args : Array Value} {below : List Frame} {meth : Method} {c : Code} {D : va_G} {cA : Nat → ClassId} {ad0 : Nat → Nat} {n0 sz d mc ms : Nat} {P : PO} (hM : FM p l s m args meth c D cA 2 ad0 n0 sz cX4_init RX4 none [] yX4_init.name) : ∀ q ∈ tX4_init d mc ms P, Snd (jM p l e s m args below meth c D cA 2 ad0 n0 sz (d + 1) mc ms P) q.1 q.2 := by
  have hF := hM.1
  have hts := hF.2.2.2.2.1
  unfold tX4_init
  refine fmS (snd_aloadn hF (k := 0) rfl (by decide +kernel)) ?_
  refine fmS (snd_aloadn hF (k := 1) rfl (by decide +kernel)) ?_
  refine fmS (snd_callIN hF hM.2.1 hM.2.2.1 (show Rk d mc ms (rmD (d + 1) mc ms) from ⟨Nat.le_refl _, Nat.le_refl _, Nat.le_refl _, Nat.le_refl _⟩) k_X5_init rfl qw213 qw212 (by decide +kernel)) ?_
  refine fmS (snd_aloadn hF (k := 0) rfl (by decide +kernel)) ?_
  refine fmS (snd_bipush hF (n := 18) (by decide +kernel) (by decide +kernel)) ?_
  refine fmS (snd_bipush hF (n := 8) (by decide +kernel) (by decide +kernel)) ?_
  refine fmS (snd_newG106 hF (idx := 9) (Nat.le_refl _) (Nat.le_refl _) qw216 qw186 qw147 (by decide +kernel)) ?_
  refine fmS (snd_putrF hF okX4 (k := 3) (by decide) qw217 rfl rfl rfl (ref_ok rfl) hM.2.2.2.2.2.2 rfl (by decide +kernel)) ?_
  refine fmS (snd_aloadn hF (k := 0) rfl (by decide +kernel)) ?_
  refine fmS (snd_sipush hF (n := 200) (by decide +kernel) (by decide +kernel)) ?_
  refine fmS (snd_newA100 hF (Nat.le_refl _) (Nat.le_refl _) qw147 (by decide +kernel)) ?_
  refine fmS (snd_putrF hF okX4 (k := 4) (by decide) qw219 rfl rfl rfl (ref_ok rfl) hM.2.2.2.2.2.2 rfl (by decide +kernel)) ?_
  refine fmS (snd_retV hM (by decide +kernel)) ?_
  exact fmE
theorem iX4_init {d mc ms n : Nat} {av : List Value} {M : PM} {P : PO} (hw : wid av ≤ 2) (hb : ∀ J : KT, (∀ (k : Nat) (stops : Nat → Bool) (pc : Nat) (lv : LV) (st : List Value) (nn : NN) (M : PM), lk (tX4_init d mc ms P) pc (wpN (tX4_init d mc ms P) stops k J) lv st nn M → J pc lv st nn M) → J 0 (entA 0 av) [] (n, 0, 0) M) : CallOK (d + 1) mc ms yX4_init (Cond.code yX4_init cX4_init 2 none) av n M P := call_intro (own := RX4) (by decide) rfl hw (fun _ _ _ _ _ _ _ _ _ _ _ _ _ hM => sX4_init hM) hb
def tX5_init (d mc ms : Nat) (P : PO) : List (Nat × OP) := [(0, oAld 0 1), (1, oCallI d mc ms 0 0 yX8_init (Cond.code yX8_init cX8_init 1 none) 0 4), (4, oAld 0 5), (5, oPush (.int 16) 7), (7, oPi2 2 4 1 10), (10, oAld 0 11), (11, oPush (.int 0) 12), (12, oPi2 2 4 2 15), (15, oAld 0 16), (16, oAld 1 17), (17, oPr2 2 4 0 20), (20, oRetV mc ms P)]
set_option maxRecDepth 20000 in
theorem sX5_init {p : Program} {l : Launch} {e : Env} {s : State} {m : MethodId} {args : Array Value} {below : List Frame} {meth : Method} {c : Code} {D : va_G} {cA : Nat → ClassId} {ad0 : Nat → Nat} {n0 sz d mc ms : Nat} {P : PO} (hM : FM p l s m args meth c D cA 2 ad0 n0 sz cX5_init RX5 none [] yX5_init.name) : ∀ q ∈ tX5_init d mc ms P, Snd (jM p l e s m args below meth c D cA 2 ad0 n0 sz (d + 1) mc ms P) q.1 q.2 := by
  have hF := hM.1
  have hts := hF.2.2.2.2.1
  unfold tX5_init
  refine fmS (snd_aloadn hF (k := 0) rfl (by decide +kernel)) ?_
  refine fmS (snd_callIN hF hM.2.1 hM.2.2.1 (show Rk d mc ms (rmD (d + 1) mc ms) from ⟨Nat.le_refl _, Nat.le_refl _, Nat.le_refl _, Nat.le_refl _⟩) k_X8_init rfl qw154 qw215 (by decide +kernel)) ?_
  refine fmS (snd_aloadn hF (k := 0) rfl (by decide +kernel)) ?_
  refine fmS (snd_bipush hF (n := 16) (by decide +kernel) (by decide +kernel)) ?_
  refine fmS (snd_puti2 hF okX2 okX4 (k := 1) (by decide) (by decide) qw221 rfl rfl rfl rfl rfl rfl rfl (by decide +kernel)) ?_
  refine fmS (snd_aloadn hF (k := 0) rfl (by decide +kernel)) ?_
  refine fmS (snd_iconst hF (n := 0) rfl (by decide +kernel)) ?_
  refine fmS (snd_puti2 hF okX2 okX4 (k := 2) (by decide) (by decide) qw222 rfl rfl rfl rfl rfl rfl rfl (by decide +kernel)) ?_
  refine fmS (snd_aloadn hF (k := 0) rfl (by decide +kernel)) ?_
  refine fmS (snd_aloadn hF (k := 1) rfl (by decide +kernel)) ?_
  refine fmS (snd_putrF2 hF okX2 okX4 (k := 0) (by decide) (by decide) qw220 rfl rfl rfl rfl rfl (ref_ok rfl) (ref_ok rfl) hM.2.2.2.2.2.2 rfl (by decide +kernel)) ?_
  refine fmS (snd_retV hM (by decide +kernel)) ?_
  exact fmE
theorem iX5_init {d mc ms n : Nat} {av : List Value} {M : PM} {P : PO} (hw : wid av ≤ 2) (hb : ∀ J : KT, (∀ (k : Nat) (stops : Nat → Bool) (pc : Nat) (lv : LV) (st : List Value) (nn : NN) (M : PM), lk (tX5_init d mc ms P) pc (wpN (tX5_init d mc ms P) stops k J) lv st nn M → J pc lv st nn M) → J 0 (entA 0 av) [] (n, 0, 0) M) : CallOK (d + 1) mc ms yX5_init (Cond.code yX5_init cX5_init 2 none) av n M P := call_intro (own := RX5) (by decide) rfl hw (fun _ _ _ _ _ _ _ _ _ _ _ _ _ hM => sX5_init hM) hb
def tX6_init (d mc ms : Nat) (P : PO) : List (Nat × OP) := [(0, oAld 0 1), (1, oObj 4), (4, oAld 0 5), (5, oPush (.int 100) 7), (7, oNewA mc ms 100 9), (9, oPr 6 0 12), (12, oAld 0 13), (13, oPush (.int 8) 15), (15, oNewA mc ms 100 17), (17, oPr 6 1 20), (20, oAld 0 21), (21, oPush (.int 8) 23), (23, oNewA mc ms 100 25), (25, oPr 6 2 28), (28, oAld 0 29), (29, oPush (.int 0) 30), (30, oPi 6 3 33), (33, oAld 0 34), (34, oPush (.int 0) 35), (35, oPi 6 4 38), (38, oAld 0 39), (39, oPush (.int 0) 40), (40, oPz 6 5 43), (43, oAld 0 44), (44, oPush (.int 8) 46), (46, oPush (.int 200) 49), (49, oNewG mc ms 106 100 53), (53, oPr 6 6 56), (56, oAld 0 57), (57, oPush (.int 8) 59), (59, oNewA mc ms 100 61), (61, oPr 6 7 64), (64, oAld 0 65), (65, oPush (.int 200) 68), (68, oNewA mc ms 100 70), (70, oPr 6 8 73), (73, oAld 0 74), (74, oPush (.int 8) 76), (76, oNewA mc ms 103 78), (78, oPr 6 9 81), (81, oAld 0 82), (82, oPush (.int 8) 84), (84, oNewA mc ms 100 86), (86, oPr 6 10 89), (89, oAld 0 90), (90, oPush (.int 8) 92), (92, oNewA mc ms 100 94), (94, oPr 6 11 97), (97, oAld 0 98), (98, oPush (.int 8) 100), (100, oNewA mc ms 100 102), (102, oPr 6 12 105), (105, oAld 0 106), (106, oPush (.int 8) 108), (108, oNewA mc ms 100 110), (110, oPr 6 13 113), (113, oAld 0 114), (114, oPush (.int 0) 115), (115, oPi 6 14 118), (118, oAld 0 119), (119, oPush (.int 1) 120), (120, oPz 6 15 123), (123, oPush (.int 0) 124), (124, oIst 1 125), (125, oIld 1 126), (126, oPush (.int 8) 128), (128, oIc (fun x y => y ≤ x) 165 131), (131, oAld 0 132), (132, oGr 6 6 135), (135, oIld 1 136), (136, oAr 106 137), (137, oPush (.int 0) 138), (138, oPush (.int 100) 140), (140, oIld 1 141), (141, oI2 (fun x y => x + y) 142), (142, oSi 100 (fun x => x) 143), (143, oAld 0 144), (144, oGr 6 7 147), (147, oIld 1 148), (148, oPush (.int 1) 149), (149, oSi 100 (fun x => x) 150), (150, oAld 0 151), (151, oGr 6 10 154), (154, oIld 1 155), (155, oPush (.int 1) 156), (156, oIld 1 157), (157, oI2 (fun x y => x <<< (y &&& 31)) 158), (158, oSi 100 (fun x => x) 159), (159, oInc 1 1 162), (162, oGoto 125), (165, oRetV mc ms P)]
set_option maxRecDepth 20000 in
theorem sX6_init {p : Program} {l : Launch} {e : Env} {s : State} {m : MethodId} {args : Array Value} {below : List Frame} {meth : Method} {c : Code} {D : va_G} {cA : Nat → ClassId} {ad0 : Nat → Nat} {n0 sz d mc ms : Nat} {P : PO} (hM : FM p l s m args meth c D cA 2 ad0 n0 sz cX6_init RX6 none [] yX6_init.name) : ∀ q ∈ tX6_init d mc ms P, Snd (jM p l e s m args below meth c D cA 2 ad0 n0 sz (d + 1) mc ms P) q.1 q.2 := by
  have hF := hM.1
  have hts := hF.2.2.2.2.1
  unfold tX6_init
  refine fmS (snd_aloadn hF (k := 0) rfl (by decide +kernel)) ?_
  refine fmS (snd_obj hF (show Rk d mc ms (rmD (d + 1) mc ms) from ⟨Nat.le_refl _, Nat.le_refl _, Nat.le_refl _, Nat.le_refl _⟩) qw258 qw106 qw107 (by decide +kernel)) ?_
  refine fmS (snd_aloadn hF (k := 0) rfl (by decide +kernel)) ?_
  refine fmS (snd_bipush hF (n := 100) (by decide +kernel) (by decide +kernel)) ?_
  refine fmS (snd_newA100 hF (Nat.le_refl _) (Nat.le_refl _) qw147 (by decide +kernel)) ?_
  refine fmS (snd_putrF hF okX6 (k := 0) (by decide) qw260 rfl rfl rfl (ref_ok rfl) hM.2.2.2.2.2.2 rfl (by decide +kernel)) ?_
  refine fmS (snd_aloadn hF (k := 0) rfl (by decide +kernel)) ?_
  refine fmS (snd_bipush hF (n := 8) (by decide +kernel) (by decide +kernel)) ?_
  refine fmS (snd_newA100 hF (Nat.le_refl _) (Nat.le_refl _) qw147 (by decide +kernel)) ?_
  refine fmS (snd_putrF hF okX6 (k := 1) (by decide) qw262 rfl rfl rfl (ref_ok rfl) hM.2.2.2.2.2.2 rfl (by decide +kernel)) ?_
  refine fmS (snd_aloadn hF (k := 0) rfl (by decide +kernel)) ?_
  refine fmS (snd_bipush hF (n := 8) (by decide +kernel) (by decide +kernel)) ?_
  refine fmS (snd_newA100 hF (Nat.le_refl _) (Nat.le_refl _) qw147 (by decide +kernel)) ?_
  refine fmS (snd_putrF hF okX6 (k := 2) (by decide) qw264 rfl rfl rfl (ref_ok rfl) hM.2.2.2.2.2.2 rfl (by decide +kernel)) ?_
  refine fmS (snd_aloadn hF (k := 0) rfl (by decide +kernel)) ?_
  refine fmS (snd_iconst hF (n := 0) rfl (by decide +kernel)) ?_
  refine fmS (snd_puti hF okX6 (k := 3) (by decide) qw266 rfl rfl rfl rfl (by decide +kernel)) ?_
  refine fmS (snd_aloadn hF (k := 0) rfl (by decide +kernel)) ?_
  refine fmS (snd_iconst hF (n := 0) rfl (by decide +kernel)) ?_
  refine fmS (snd_puti hF okX6 (k := 4) (by decide) qw269 rfl rfl rfl rfl (by decide +kernel)) ?_
  refine fmS (snd_aloadn hF (k := 0) rfl (by decide +kernel)) ?_
  refine fmS (snd_iconst hF (n := 0) rfl (by decide +kernel)) ?_
  refine fmS (snd_putz hF okX6 (k := 5) (by decide) qw271 rfl rfl rfl rfl (by decide +kernel)) ?_
  refine fmS (snd_aloadn hF (k := 0) rfl (by decide +kernel)) ?_
  refine fmS (snd_bipush hF (n := 8) (by decide +kernel) (by decide +kernel)) ?_
  refine fmS (snd_sipush hF (n := 200) (by decide +kernel) (by decide +kernel)) ?_
  refine fmS (snd_newG106 hF (idx := 32) (Nat.le_refl _) (Nat.le_refl _) qw259 qw186 qw147 (by decide +kernel)) ?_
  refine fmS (snd_putrF hF okX6 (k := 6) (by decide) qw273 rfl rfl rfl (ref_ok rfl) hM.2.2.2.2.2.2 rfl (by decide +kernel)) ?_
  refine fmS (snd_aloadn hF (k := 0) rfl (by decide +kernel)) ?_
  refine fmS (snd_bipush hF (n := 8) (by decide +kernel) (by decide +kernel)) ?_
  refine fmS (snd_newA100 hF (Nat.le_refl _) (Nat.le_refl _) qw147 (by decide +kernel)) ?_
  refine fmS (snd_putrF hF okX6 (k := 7) (by decide) qw275 rfl rfl rfl (ref_ok rfl) hM.2.2.2.2.2.2 rfl (by decide +kernel)) ?_
  refine fmS (snd_aloadn hF (k := 0) rfl (by decide +kernel)) ?_
  refine fmS (snd_sipush hF (n := 200) (by decide +kernel) (by decide +kernel)) ?_
  refine fmS (snd_newA100 hF (Nat.le_refl _) (Nat.le_refl _) qw147 (by decide +kernel)) ?_
  refine fmS (snd_putrF hF okX6 (k := 8) (by decide) qw277 rfl rfl rfl (ref_ok rfl) hM.2.2.2.2.2.2 rfl (by decide +kernel)) ?_
  refine fmS (snd_aloadn hF (k := 0) rfl (by decide +kernel)) ?_
  refine fmS (snd_bipush hF (n := 8) (by decide +kernel) (by decide +kernel)) ?_
  refine fmS (snd_newA103 hF (Nat.le_refl _) (Nat.le_refl _) qw326 (by decide +kernel)) ?_
  refine fmS (snd_putrF hF okX6 (k := 9) (by decide) qw278 rfl rfl rfl (ref_ok rfl) hM.2.2.2.2.2.2 rfl (by decide +kernel)) ?_
  refine fmS (snd_aloadn hF (k := 0) rfl (by decide +kernel)) ?_
  refine fmS (snd_bipush hF (n := 8) (by decide +kernel) (by decide +kernel)) ?_
  refine fmS (snd_newA100 hF (Nat.le_refl _) (Nat.le_refl _) qw147 (by decide +kernel)) ?_
  refine fmS (snd_putrF hF okX6 (k := 10) (by decide) qw279 rfl rfl rfl (ref_ok rfl) hM.2.2.2.2.2.2 rfl (by decide +kernel)) ?_
  refine fmS (snd_aloadn hF (k := 0) rfl (by decide +kernel)) ?_
  refine fmS (snd_bipush hF (n := 8) (by decide +kernel) (by decide +kernel)) ?_
  refine fmS (snd_newA100 hF (Nat.le_refl _) (Nat.le_refl _) qw147 (by decide +kernel)) ?_
  refine fmS (snd_putrF hF okX6 (k := 11) (by decide) qw281 rfl rfl rfl (ref_ok rfl) hM.2.2.2.2.2.2 rfl (by decide +kernel)) ?_
  refine fmS (snd_aloadn hF (k := 0) rfl (by decide +kernel)) ?_
  refine fmS (snd_bipush hF (n := 8) (by decide +kernel) (by decide +kernel)) ?_
  refine fmS (snd_newA100 hF (Nat.le_refl _) (Nat.le_refl _) qw147 (by decide +kernel)) ?_
  refine fmS (snd_putrF hF okX6 (k := 12) (by decide) qw284 rfl rfl rfl (ref_ok rfl) hM.2.2.2.2.2.2 rfl (by decide +kernel)) ?_
  refine fmS (snd_aloadn hF (k := 0) rfl (by decide +kernel)) ?_
  refine fmS (snd_bipush hF (n := 8) (by decide +kernel) (by decide +kernel)) ?_
  refine fmS (snd_newA100 hF (Nat.le_refl _) (Nat.le_refl _) qw147 (by decide +kernel)) ?_
  refine fmS (snd_putrF hF okX6 (k := 13) (by decide) qw287 rfl rfl rfl (ref_ok rfl) hM.2.2.2.2.2.2 rfl (by decide +kernel)) ?_
  refine fmS (snd_aloadn hF (k := 0) rfl (by decide +kernel)) ?_
  refine fmS (snd_iconst hF (n := 0) rfl (by decide +kernel)) ?_
  refine fmS (snd_puti hF okX6 (k := 14) (by decide) qw289 rfl rfl rfl rfl (by decide +kernel)) ?_
  refine fmS (snd_aloadn hF (k := 0) rfl (by decide +kernel)) ?_
  refine fmS (snd_iconst hF (n := 1) rfl (by decide +kernel)) ?_
  refine fmS (snd_putz hF okX6 (k := 15) (by decide) qw291 rfl rfl rfl rfl (by decide +kernel)) ?_
  refine fmS (snd_iconst hF (n := 0) rfl (by decide +kernel)) ?_
  refine fmS (snd_istoren hF (k := 1) rfl (by decide) (by decide +kernel)) ?_
  refine fmS (snd_iloadn hF (k := 1) rfl (by decide +kernel)) ?_
  refine fmS (snd_bipush hF (n := 8) (by decide +kernel) (by decide +kernel)) ?_
  refine fmS (snd_icmp_ge hF (off := 37) (by decide) (by decide +kernel)) ?_
  refine fmS (snd_aloadn hF (k := 0) rfl (by decide +kernel)) ?_
  refine fmS (snd_getr hF okX6 (k := 6) (by decide) qw273 rfl rfl (by decide +kernel)) ?_
  refine fmS (snd_iloadn hF (k := 1) rfl (by decide +kernel)) ?_
  refine fmS (snd_aaload106 hF (by decide +kernel)) ?_
  refine fmS (snd_iconst hF (n := 0) rfl (by decide +kernel)) ?_
  refine fmS (snd_bipush hF (n := 100) (by decide +kernel) (by decide +kernel)) ?_
  refine fmS (snd_iloadn hF (k := 1) rfl (by decide +kernel)) ?_
  refine fmS (snd_iadd hF (by decide +kernel)) ?_
  refine fmS (snd_iastore hF (by decide +kernel)) ?_
  refine fmS (snd_aloadn hF (k := 0) rfl (by decide +kernel)) ?_
  refine fmS (snd_getr hF okX6 (k := 7) (by decide) qw275 rfl rfl (by decide +kernel)) ?_
  refine fmS (snd_iloadn hF (k := 1) rfl (by decide +kernel)) ?_
  refine fmS (snd_iconst hF (n := 1) rfl (by decide +kernel)) ?_
  refine fmS (snd_iastore hF (by decide +kernel)) ?_
  refine fmS (snd_aloadn hF (k := 0) rfl (by decide +kernel)) ?_
  refine fmS (snd_getr hF okX6 (k := 10) (by decide) qw279 rfl rfl (by decide +kernel)) ?_
  refine fmS (snd_iloadn hF (k := 1) rfl (by decide +kernel)) ?_
  refine fmS (snd_iconst hF (n := 1) rfl (by decide +kernel)) ?_
  refine fmS (snd_iloadn hF (k := 1) rfl (by decide +kernel)) ?_
  refine fmS (snd_ishl hF (by decide +kernel)) ?_
  refine fmS (snd_iastore hF (by decide +kernel)) ?_
  refine fmS (snd_iinc hF (n := 1) (by decide +kernel) (by decide) (by decide +kernel)) ?_
  refine fmS (snd_goto hF (off := (-37)) (by decide) (by decide +kernel)) ?_
  refine fmS (snd_retV hM (by decide +kernel)) ?_
  exact fmE
theorem iX6_init {d mc ms n : Nat} {av : List Value} {M : PM} {P : PO} (hw : wid av ≤ 2) (hb : ∀ J : KT, (∀ (k : Nat) (stops : Nat → Bool) (pc : Nat) (lv : LV) (st : List Value) (nn : NN) (M : PM), lk (tX6_init d mc ms P) pc (wpN (tX6_init d mc ms P) stops k J) lv st nn M → J pc lv st nn M) → J 0 (entA 0 av) [] (n, 0, 0) M) : CallOK (d + 1) mc ms yX6_init (Cond.code yX6_init cX6_init 2 none) av n M P := call_intro (own := RX6) (by decide) rfl hw (fun _ _ _ _ _ _ _ _ _ _ _ _ _ hM => sX6_init hM) hb
def tX7_init (d mc ms : Nat) (P : PO) : List (Nat × OP) := [(0, oAld 0 1), (1, oObj 4), (4, oAld 0 5), (5, oPush (.int 100) 7), (7, oNewA mc ms 102 9), (9, oPr 7 0 12), (12, oAld 0 13), (13, oPush (.int 0) 14), (14, oPi 7 1 17), (17, oAld 0 18), (18, oPush (.int 0) 19), (19, oPi 7 2 22), (22, oAld 0 23), (23, oPush (.int 100) 25), (25, oNewA mc ms 100 27), (27, oPr 7 3 30), (30, oAld 0 31), (31, oPush (.int 0) 32), (32, oPi 7 4 35), (35, oAld 0 36), (36, oPush (.int 100) 38), (38, oNewA mc ms 100 40), (40, oPr 7 5 43), (43, oAld 0 44), (44, oPush (.int 100) 46), (46, oNewA mc ms 100 48), (48, oPr 7 6 51), (51, oAld 0 52), (52, oPush (.int 0) 53), (53, oPi 7 7 56), (56, oRetV mc ms P)]
set_option maxRecDepth 20000 in
theorem sX7_init {p : Program} {l : Launch} {e : Env} {s : State} {m : MethodId} {args : Array Value} {below : List Frame} {meth : Method} {c : Code} {D : va_G} {cA : Nat → ClassId} {ad0 : Nat → Nat} {n0 sz d mc ms : Nat} {P : PO} (hM : FM p l s m args meth c D cA 1 ad0 n0 sz cX7_init RX7 none [] yX7_init.name) : ∀ q ∈ tX7_init d mc ms P, Snd (jM p l e s m args below meth c D cA 1 ad0 n0 sz (d + 1) mc ms P) q.1 q.2 := by
  have hF := hM.1
  have hts := hF.2.2.2.2.1
  unfold tX7_init
  refine fmS (snd_aloadn hF (k := 0) rfl (by decide +kernel)) ?_
  refine fmS (snd_obj hF (show Rk d mc ms (rmD (d + 1) mc ms) from ⟨Nat.le_refl _, Nat.le_refl _, Nat.le_refl _, Nat.le_refl _⟩) qw113 qw106 qw107 (by decide +kernel)) ?_
  refine fmS (snd_aloadn hF (k := 0) rfl (by decide +kernel)) ?_
  refine fmS (snd_bipush hF (n := 100) (by decide +kernel) (by decide +kernel)) ?_
  refine fmS (snd_newA102 hF (Nat.le_refl _) (Nat.le_refl _) qw146 (by decide +kernel)) ?_
  refine fmS (snd_putrF hF okX7 (k := 0) (by decide) qw114 rfl rfl rfl (ref_ok rfl) hM.2.2.2.2.2.2 rfl (by decide +kernel)) ?_
  refine fmS (snd_aloadn hF (k := 0) rfl (by decide +kernel)) ?_
  refine fmS (snd_iconst hF (n := 0) rfl (by decide +kernel)) ?_
  refine fmS (snd_puti hF okX7 (k := 1) (by decide) qw115 rfl rfl rfl rfl (by decide +kernel)) ?_
  refine fmS (snd_aloadn hF (k := 0) rfl (by decide +kernel)) ?_
  refine fmS (snd_iconst hF (n := 0) rfl (by decide +kernel)) ?_
  refine fmS (snd_puti hF okX7 (k := 2) (by decide) qw117 rfl rfl rfl rfl (by decide +kernel)) ?_
  refine fmS (snd_aloadn hF (k := 0) rfl (by decide +kernel)) ?_
  refine fmS (snd_bipush hF (n := 100) (by decide +kernel) (by decide +kernel)) ?_
  refine fmS (snd_newA100 hF (Nat.le_refl _) (Nat.le_refl _) qw147 (by decide +kernel)) ?_
  refine fmS (snd_putrF hF okX7 (k := 3) (by decide) qw119 rfl rfl rfl (ref_ok rfl) hM.2.2.2.2.2.2 rfl (by decide +kernel)) ?_
  refine fmS (snd_aloadn hF (k := 0) rfl (by decide +kernel)) ?_
  refine fmS (snd_iconst hF (n := 0) rfl (by decide +kernel)) ?_
  refine fmS (snd_puti hF okX7 (k := 4) (by decide) qw121 rfl rfl rfl rfl (by decide +kernel)) ?_
  refine fmS (snd_aloadn hF (k := 0) rfl (by decide +kernel)) ?_
  refine fmS (snd_bipush hF (n := 100) (by decide +kernel) (by decide +kernel)) ?_
  refine fmS (snd_newA100 hF (Nat.le_refl _) (Nat.le_refl _) qw147 (by decide +kernel)) ?_
  refine fmS (snd_putrF hF okX7 (k := 5) (by decide) qw123 rfl rfl rfl (ref_ok rfl) hM.2.2.2.2.2.2 rfl (by decide +kernel)) ?_
  refine fmS (snd_aloadn hF (k := 0) rfl (by decide +kernel)) ?_
  refine fmS (snd_bipush hF (n := 100) (by decide +kernel) (by decide +kernel)) ?_
  refine fmS (snd_newA100 hF (Nat.le_refl _) (Nat.le_refl _) qw147 (by decide +kernel)) ?_
  refine fmS (snd_putrF hF okX7 (k := 6) (by decide) qw125 rfl rfl rfl (ref_ok rfl) hM.2.2.2.2.2.2 rfl (by decide +kernel)) ?_
  refine fmS (snd_aloadn hF (k := 0) rfl (by decide +kernel)) ?_
  refine fmS (snd_iconst hF (n := 0) rfl (by decide +kernel)) ?_
  refine fmS (snd_puti hF okX7 (k := 7) (by decide) qw127 rfl rfl rfl rfl (by decide +kernel)) ?_
  refine fmS (snd_retV hM (by decide +kernel)) ?_
  exact fmE
theorem iX7_init {d mc ms n : Nat} {av : List Value} {M : PM} {P : PO} (hw : wid av ≤ 1) (hb : ∀ J : KT, (∀ (k : Nat) (stops : Nat → Bool) (pc : Nat) (lv : LV) (st : List Value) (nn : NN) (M : PM), lk (tX7_init d mc ms P) pc (wpN (tX7_init d mc ms P) stops k J) lv st nn M → J pc lv st nn M) → J 0 (entA 0 av) [] (n, 0, 0) M) : CallOK (d + 1) mc ms yX7_init (Cond.code yX7_init cX7_init 1 none) av n M P := call_intro (own := RX7) (by decide) rfl hw (fun _ _ _ _ _ _ _ _ _ _ _ _ _ hM => sX7_init hM) hb
def tX8_init (d mc ms : Nat) (P : PO) : List (Nat × OP) := [(0, oAld 0 1), (1, oObj 4), (4, oRetV mc ms P)]
set_option maxRecDepth 20000 in
theorem sX8_init {p : Program} {l : Launch} {e : Env} {s : State} {m : MethodId} {args : Array Value} {below : List Frame} {meth : Method} {c : Code} {D : va_G} {cA : Nat → ClassId} {ad0 : Nat → Nat} {n0 sz d mc ms : Nat} {P : PO} (hM : FM p l s m args meth c D cA 1 ad0 n0 sz cX8_init RX8 none [] yX8_init.name) : ∀ q ∈ tX8_init d mc ms P, Snd (jM p l e s m args below meth c D cA 1 ad0 n0 sz (d + 1) mc ms P) q.1 q.2 := by
  have hF := hM.1
  have hts := hF.2.2.2.2.1
  unfold tX8_init
  refine fmS (snd_aloadn hF (k := 0) rfl (by decide +kernel)) ?_
  refine fmS (snd_obj hF (show Rk d mc ms (rmD (d + 1) mc ms) from ⟨Nat.le_refl _, Nat.le_refl _, Nat.le_refl _, Nat.le_refl _⟩) qw156 qw106 qw107 (by decide +kernel)) ?_
  refine fmS (snd_retV hM (by decide +kernel)) ?_
  exact fmE
theorem iX8_init {d mc ms n : Nat} {av : List Value} {M : PM} {P : PO} (hw : wid av ≤ 1) (hb : ∀ J : KT, (∀ (k : Nat) (stops : Nat → Bool) (pc : Nat) (lv : LV) (st : List Value) (nn : NN) (M : PM), lk (tX8_init d mc ms P) pc (wpN (tX8_init d mc ms P) stops k J) lv st nn M → J pc lv st nn M) → J 0 (entA 0 av) [] (n, 0, 0) M) : CallOK (d + 1) mc ms yX8_init (Cond.code yX8_init cX8_init 1 none) av n M P := call_intro (own := RX8) (by decide) rfl hw (fun _ _ _ _ _ _ _ _ _ _ _ _ _ hM => sX8_init hM) hb
section
variable {d mc ms : Nat} {P : PO}
theorem lX9_init_0 : lk (tX9_init d mc ms P) 0 = oAld 0 1 := rfl
theorem lX9_init_1 : lk (tX9_init d mc ms P) 1 = oObj 4 := rfl
theorem lX9_init_4 : lk (tX9_init d mc ms P) 4 = oAld 0 5 := rfl
theorem lX9_init_5 : lk (tX9_init d mc ms P) 5 = oNew mc ms 7 8 8 := rfl
theorem lX9_init_8 : lk (tX9_init d mc ms P) 8 = oDup 9 := rfl
theorem lX9_init_9 : lk (tX9_init d mc ms P) 9 = oCallI d mc ms 4 400 yX7_init (Cond.code yX7_init cX7_init 1 none) 0 12 := rfl
theorem lX9_init_12 : lk (tX9_init d mc ms P) 12 = oPr 9 0 15 := rfl
theorem lX9_init_15 : lk (tX9_init d mc ms P) 15 = oAld 0 16 := rfl
theorem lX9_init_16 : lk (tX9_init d mc ms P) 16 = oNew mc ms 3 1 19 := rfl
theorem lX9_init_19 : lk (tX9_init d mc ms P) 19 = oDup 20 := rfl
theorem lX9_init_20 : lk (tX9_init d mc ms P) 20 = oCallI d mc ms 1 200 yX3_init (Cond.code yX3_init cX3_init 1 none) 0 23 := rfl
theorem lX9_init_23 : lk (tX9_init d mc ms P) 23 = oPr 9 1 26 := rfl
theorem lX9_init_26 : lk (tX9_init d mc ms P) 26 = oAld 0 27 := rfl
theorem lX9_init_27 : lk (tX9_init d mc ms P) 27 = oNew mc ms 0 3 30 := rfl
theorem lX9_init_30 : lk (tX9_init d mc ms P) 30 = oDup 31 := rfl
theorem lX9_init_31 : lk (tX9_init d mc ms P) 31 = oCallI d mc ms 1 200 yX0_init (Cond.code yX0_init cX0_init 1 none) 0 34 := rfl
theorem lX9_init_34 : lk (tX9_init d mc ms P) 34 = oPr 9 2 37 := rfl
theorem lX9_init_37 : lk (tX9_init d mc ms P) 37 = oAld 0 38 := rfl
theorem lX9_init_38 : lk (tX9_init d mc ms P) 38 = oPush (.int 3) 39 := rfl
theorem lX9_init_39 : lk (tX9_init d mc ms P) 39 = oNewA mc ms 108 42 := rfl
theorem lX9_init_42 : lk (tX9_init d mc ms P) 42 = oPr 9 3 45 := rfl
theorem lX9_init_45 : lk (tX9_init d mc ms P) 45 = oAld 0 46 := rfl
theorem lX9_init_46 : lk (tX9_init d mc ms P) 46 = oNew mc ms 1 4 49 := rfl
theorem lX9_init_49 : lk (tX9_init d mc ms P) 49 = oDup 50 := rfl
theorem lX9_init_50 : lk (tX9_init d mc ms P) 50 = oCallI d mc ms 5 59 yX1_init (Cond.code yX1_init cX1_init 1 none) 0 53 := rfl
theorem lX9_init_53 : lk (tX9_init d mc ms P) 53 = oPr 9 4 56 := rfl
theorem lX9_init_56 : lk (tX9_init d mc ms P) 56 = oAld 0 57 := rfl
theorem lX9_init_57 : lk (tX9_init d mc ms P) 57 = oNew mc ms 1 4 60 := rfl
theorem lX9_init_60 : lk (tX9_init d mc ms P) 60 = oDup 61 := rfl
theorem lX9_init_61 : lk (tX9_init d mc ms P) 61 = oCallI d mc ms 5 59 yX1_init (Cond.code yX1_init cX1_init 1 none) 0 64 := rfl
theorem lX9_init_64 : lk (tX9_init d mc ms P) 64 = oPr 9 5 67 := rfl
theorem lX9_init_67 : lk (tX9_init d mc ms P) 67 = oAld 0 68 := rfl
theorem lX9_init_68 : lk (tX9_init d mc ms P) 68 = oNew mc ms 4 5 71 := rfl
theorem lX9_init_71 : lk (tX9_init d mc ms P) 71 = oDup 72 := rfl
theorem lX9_init_72 : lk (tX9_init d mc ms P) 72 = oAld 0 73 := rfl
theorem lX9_init_73 : lk (tX9_init d mc ms P) 73 = oGr 9 4 76 := rfl
theorem lX9_init_76 : lk (tX9_init d mc ms P) 76 = oCallI d mc ms 20 362 yX4_init (Cond.code yX4_init cX4_init 2 none) 1 79 := rfl
theorem lX9_init_79 : lk (tX9_init d mc ms P) 79 = oPr 9 6 82 := rfl
theorem lX9_init_82 : lk (tX9_init d mc ms P) 82 = oAld 0 83 := rfl
theorem lX9_init_83 : lk (tX9_init d mc ms P) 83 = oNew mc ms 2 5 86 := rfl
theorem lX9_init_86 : lk (tX9_init d mc ms P) 86 = oDup 87 := rfl
theorem lX9_init_87 : lk (tX9_init d mc ms P) 87 = oAld 0 88 := rfl
theorem lX9_init_88 : lk (tX9_init d mc ms P) 88 = oGr 9 4 91 := rfl
theorem lX9_init_91 : lk (tX9_init d mc ms P) 91 = oCallI d mc ms 20 362 yX2_init (Cond.code yX2_init cX2_init 2 none) 1 94 := rfl
theorem lX9_init_94 : lk (tX9_init d mc ms P) 94 = oPr 9 7 97 := rfl
theorem lX9_init_97 : lk (tX9_init d mc ms P) 97 = oAld 0 98 := rfl
theorem lX9_init_98 : lk (tX9_init d mc ms P) 98 = oPush .null 99 := rfl
theorem lX9_init_99 : lk (tX9_init d mc ms P) 99 = oPr 9 9 102 := rfl
theorem lX9_init_102 : lk (tX9_init d mc ms P) 102 = oAld 0 103 := rfl
theorem lX9_init_103 : lk (tX9_init d mc ms P) 103 = oPush (.int (-1)) 104 := rfl
theorem lX9_init_104 : lk (tX9_init d mc ms P) 104 = oPi 9 10 107 := rfl
set_option maxRecDepth 20000 in
theorem lX9_init_107 : lk (tX9_init d mc ms P) 107 = oAld 0 108 := rfl
set_option maxRecDepth 20000 in
theorem lX9_init_108 : lk (tX9_init d mc ms P) 108 = oPush (.int (-1)) 109 := rfl
set_option maxRecDepth 20000 in
theorem lX9_init_109 : lk (tX9_init d mc ms P) 109 = oPi 9 11 112 := rfl
set_option maxRecDepth 20000 in
theorem lX9_init_112 : lk (tX9_init d mc ms P) 112 = oAld 0 113 := rfl
set_option maxRecDepth 20000 in
theorem lX9_init_113 : lk (tX9_init d mc ms P) 113 = oPush (.int 0) 114 := rfl
set_option maxRecDepth 20000 in
theorem lX9_init_114 : lk (tX9_init d mc ms P) 114 = oPi 9 12 117 := rfl
set_option maxRecDepth 20000 in
theorem lX9_init_117 : lk (tX9_init d mc ms P) 117 = oAld 0 118 := rfl
set_option maxRecDepth 20000 in
theorem lX9_init_118 : lk (tX9_init d mc ms P) 118 = oPush (.int (-1)) 119 := rfl
set_option maxRecDepth 20000 in
theorem lX9_init_119 : lk (tX9_init d mc ms P) 119 = oPi 9 13 122 := rfl
set_option maxRecDepth 20000 in
theorem lX9_init_122 : lk (tX9_init d mc ms P) 122 = oPush (.int 0) 123 := rfl
set_option maxRecDepth 20000 in
theorem lX9_init_123 : lk (tX9_init d mc ms P) 123 = oIst 1 124 := rfl
set_option maxRecDepth 20000 in
theorem lX9_init_124 : lk (tX9_init d mc ms P) 124 = oIld 1 125 := rfl
set_option maxRecDepth 20000 in
theorem lX9_init_125 : lk (tX9_init d mc ms P) 125 = oPush (.int 3) 126 := rfl
set_option maxRecDepth 20000 in
theorem lX9_init_126 : lk (tX9_init d mc ms P) 126 = oIc (fun x y => y ≤ x) 148 129 := rfl
set_option maxRecDepth 20000 in
theorem lX9_init_129 : lk (tX9_init d mc ms P) 129 = oAld 0 130 := rfl
set_option maxRecDepth 20000 in
theorem lX9_init_130 : lk (tX9_init d mc ms P) 130 = oGr 9 3 133 := rfl
set_option maxRecDepth 20000 in
theorem lX9_init_133 : lk (tX9_init d mc ms P) 133 = oIld 1 134 := rfl
set_option maxRecDepth 20000 in
theorem lX9_init_134 : lk (tX9_init d mc ms P) 134 = oNew mc ms 6 16 137 := rfl
set_option maxRecDepth 20000 in
theorem lX9_init_137 : lk (tX9_init d mc ms P) 137 = oDup 138 := rfl
set_option maxRecDepth 20000 in
theorem lX9_init_138 : lk (tX9_init d mc ms P) 138 = oCallI d mc ms 19 1972 yX6_init (Cond.code yX6_init cX6_init 2 none) 0 141 := rfl
set_option maxRecDepth 20000 in
theorem lX9_init_141 : lk (tX9_init d mc ms P) 141 = oSr 108 142 := rfl
set_option maxRecDepth 20000 in
theorem lX9_init_142 : lk (tX9_init d mc ms P) 142 = oInc 1 1 145 := rfl
set_option maxRecDepth 20000 in
theorem lX9_init_145 : lk (tX9_init d mc ms P) 145 = oGoto 124 := rfl
set_option maxRecDepth 20000 in
theorem lX9_init_148 : lk (tX9_init d mc ms P) 148 = oAld 0 149 := rfl
set_option maxRecDepth 20000 in
theorem lX9_init_149 : lk (tX9_init d mc ms P) 149 = oAld 0 150 := rfl
set_option maxRecDepth 20000 in
theorem lX9_init_150 : lk (tX9_init d mc ms P) 150 = oGr 9 3 153 := rfl
set_option maxRecDepth 20000 in
theorem lX9_init_153 : lk (tX9_init d mc ms P) 153 = oPush (.int 0) 154 := rfl
set_option maxRecDepth 20000 in
theorem lX9_init_154 : lk (tX9_init d mc ms P) 154 = oAr 108 155 := rfl
set_option maxRecDepth 20000 in
theorem lX9_init_155 : lk (tX9_init d mc ms P) 155 = oPr 9 8 158 := rfl
set_option maxRecDepth 20000 in
theorem lX9_init_158 : lk (tX9_init d mc ms P) 158 = oRetV mc ms P := rfl
theorem lX10_init_0 : lk (tX10_init d mc ms P) 0 = oAld 0 1 := rfl
theorem lX10_init_1 : lk (tX10_init d mc ms P) 1 = oObj 4 := rfl
theorem lX10_init_4 : lk (tX10_init d mc ms P) 4 = oAld 0 5 := rfl
theorem lX10_init_5 : lk (tX10_init d mc ms P) 5 = oPush (.int 875) 8 := rfl
theorem lX10_init_8 : lk (tX10_init d mc ms P) 8 = oNewA mc ms 100 10 := rfl
theorem lX10_init_10 : lk (tX10_init d mc ms P) 10 = oPr 10 1 13 := rfl
theorem lX10_init_13 : lk (tX10_init d mc ms P) 13 = oAld 0 14 := rfl
theorem lX10_init_14 : lk (tX10_init d mc ms P) 14 = oPush (.int 875) 17 := rfl
theorem lX10_init_17 : lk (tX10_init d mc ms P) 17 = oNewA mc ms 100 19 := rfl
theorem lX10_init_19 : lk (tX10_init d mc ms P) 19 = oPr 10 2 22 := rfl
theorem lX10_init_22 : lk (tX10_init d mc ms P) 22 = oAld 0 23 := rfl
theorem lX10_init_23 : lk (tX10_init d mc ms P) 23 = oPush (.int 875) 26 := rfl
theorem lX10_init_26 : lk (tX10_init d mc ms P) 26 = oNewA mc ms 100 28 := rfl
theorem lX10_init_28 : lk (tX10_init d mc ms P) 28 = oPr 10 4 31 := rfl
theorem lX10_init_31 : lk (tX10_init d mc ms P) 31 = oAld 0 32 := rfl
theorem lX10_init_32 : lk (tX10_init d mc ms P) 32 = oPush (.int 100) 34 := rfl
theorem lX10_init_34 : lk (tX10_init d mc ms P) 34 = oNewA mc ms 100 36 := rfl
theorem lX10_init_36 : lk (tX10_init d mc ms P) 36 = oPr 10 5 39 := rfl
theorem lX10_init_39 : lk (tX10_init d mc ms P) 39 = oAld 0 40 := rfl
theorem lX10_init_40 : lk (tX10_init d mc ms P) 40 = oPush (.int (-1)) 41 := rfl
theorem lX10_init_41 : lk (tX10_init d mc ms P) 41 = oPi 10 8 44 := rfl
theorem lX10_init_44 : lk (tX10_init d mc ms P) 44 = oAld 0 45 := rfl
theorem lX10_init_45 : lk (tX10_init d mc ms P) 45 = oPush (.int 200) 48 := rfl
theorem lX10_init_48 : lk (tX10_init d mc ms P) 48 = oNewA mc ms 100 50 := rfl
theorem lX10_init_50 : lk (tX10_init d mc ms P) 50 = oPr 10 11 53 := rfl
theorem lX10_init_53 : lk (tX10_init d mc ms P) 53 = oAld 0 54 := rfl
theorem lX10_init_54 : lk (tX10_init d mc ms P) 54 = oPush (.int 200) 57 := rfl
theorem lX10_init_57 : lk (tX10_init d mc ms P) 57 = oNewA mc ms 100 59 := rfl
theorem lX10_init_59 : lk (tX10_init d mc ms P) 59 = oPr 10 12 62 := rfl
theorem lX10_init_62 : lk (tX10_init d mc ms P) 62 = oAld 0 63 := rfl
theorem lX10_init_63 : lk (tX10_init d mc ms P) 63 = oPush (.int 200) 66 := rfl
theorem lX10_init_66 : lk (tX10_init d mc ms P) 66 = oNewA mc ms 100 68 := rfl
theorem lX10_init_68 : lk (tX10_init d mc ms P) 68 = oPr 10 13 71 := rfl
theorem lX10_init_71 : lk (tX10_init d mc ms P) 71 = oAld 0 72 := rfl
theorem lX10_init_72 : lk (tX10_init d mc ms P) 72 = oPush (.int 200) 75 := rfl
theorem lX10_init_75 : lk (tX10_init d mc ms P) 75 = oNewA mc ms 100 77 := rfl
theorem lX10_init_77 : lk (tX10_init d mc ms P) 77 = oPr 10 14 80 := rfl
theorem lX10_init_80 : lk (tX10_init d mc ms P) 80 = oAld 0 81 := rfl
theorem lX10_init_81 : lk (tX10_init d mc ms P) 81 = oPush (.int 100) 83 := rfl
theorem lX10_init_83 : lk (tX10_init d mc ms P) 83 = oNewA mc ms 100 85 := rfl
theorem lX10_init_85 : lk (tX10_init d mc ms P) 85 = oPr 10 16 88 := rfl
theorem lX10_init_88 : lk (tX10_init d mc ms P) 88 = oAld 0 89 := rfl
theorem lX10_init_89 : lk (tX10_init d mc ms P) 89 = oPush (.int 100) 91 := rfl
theorem lX10_init_91 : lk (tX10_init d mc ms P) 91 = oNewA mc ms 100 93 := rfl
theorem lX10_init_93 : lk (tX10_init d mc ms P) 93 = oPr 10 17 96 := rfl
theorem lX10_init_96 : lk (tX10_init d mc ms P) 96 = oAld 0 97 := rfl
theorem lX10_init_97 : lk (tX10_init d mc ms P) 97 = oPush (.int 200) 100 := rfl
theorem lX10_init_100 : lk (tX10_init d mc ms P) 100 = oNewA mc ms 100 102 := rfl
theorem lX10_init_102 : lk (tX10_init d mc ms P) 102 = oPr 10 18 105 := rfl
theorem lX10_init_105 : lk (tX10_init d mc ms P) 105 = oAld 0 106 := rfl
theorem lX10_init_106 : lk (tX10_init d mc ms P) 106 = oPush (.int 1600) 109 := rfl
set_option maxRecDepth 20000 in
theorem lX10_init_109 : lk (tX10_init d mc ms P) 109 = oNewA mc ms 100 111 := rfl
set_option maxRecDepth 20000 in
theorem lX10_init_111 : lk (tX10_init d mc ms P) 111 = oPr 10 20 114 := rfl
set_option maxRecDepth 20000 in
theorem lX10_init_114 : lk (tX10_init d mc ms P) 114 = oAld 0 115 := rfl
set_option maxRecDepth 20000 in
theorem lX10_init_115 : lk (tX10_init d mc ms P) 115 = oPush (.int 8) 117 := rfl
set_option maxRecDepth 20000 in
theorem lX10_init_117 : lk (tX10_init d mc ms P) 117 = oNewA mc ms 100 119 := rfl
set_option maxRecDepth 20000 in
theorem lX10_init_119 : lk (tX10_init d mc ms P) 119 = oPr 10 21 122 := rfl
set_option maxRecDepth 20000 in
theorem lX10_init_122 : lk (tX10_init d mc ms P) 122 = oAld 0 123 := rfl
set_option maxRecDepth 20000 in
theorem lX10_init_123 : lk (tX10_init d mc ms P) 123 = oPush (.int 200) 126 := rfl
set_option maxRecDepth 20000 in
theorem lX10_init_126 : lk (tX10_init d mc ms P) 126 = oNewA mc ms 100 128 := rfl
set_option maxRecDepth 20000 in
theorem lX10_init_128 : lk (tX10_init d mc ms P) 128 = oPr 10 22 131 := rfl
set_option maxRecDepth 20000 in
theorem lX10_init_131 : lk (tX10_init d mc ms P) 131 = oAld 0 132 := rfl
set_option maxRecDepth 20000 in
theorem lX10_init_132 : lk (tX10_init d mc ms P) 132 = oPush (.int 8) 134 := rfl
set_option maxRecDepth 20000 in
theorem lX10_init_134 : lk (tX10_init d mc ms P) 134 = oNewA mc ms 100 136 := rfl
set_option maxRecDepth 20000 in
theorem lX10_init_136 : lk (tX10_init d mc ms P) 136 = oPr 10 25 139 := rfl
set_option maxRecDepth 20000 in
theorem lX10_init_139 : lk (tX10_init d mc ms P) 139 = oAld 0 140 := rfl
set_option maxRecDepth 20000 in
theorem lX10_init_140 : lk (tX10_init d mc ms P) 140 = oPush (.int 8) 142 := rfl
set_option maxRecDepth 20000 in
theorem lX10_init_142 : lk (tX10_init d mc ms P) 142 = oNewA mc ms 104 144 := rfl
set_option maxRecDepth 20000 in
theorem lX10_init_144 : lk (tX10_init d mc ms P) 144 = oPr 10 26 147 := rfl
set_option maxRecDepth 20000 in
theorem lX10_init_147 : lk (tX10_init d mc ms P) 147 = oAld 0 148 := rfl
set_option maxRecDepth 20000 in
theorem lX10_init_148 : lk (tX10_init d mc ms P) 148 = oPush (.int 16) 150 := rfl
set_option maxRecDepth 20000 in
theorem lX10_init_150 : lk (tX10_init d mc ms P) 150 = oNewA mc ms 100 152 := rfl
set_option maxRecDepth 20000 in
theorem lX10_init_152 : lk (tX10_init d mc ms P) 152 = oPr 10 27 155 := rfl
set_option maxRecDepth 20000 in
theorem lX10_init_155 : lk (tX10_init d mc ms P) 155 = oAld 0 156 := rfl
set_option maxRecDepth 20000 in
theorem lX10_init_156 : lk (tX10_init d mc ms P) 156 = oPush (.int 16) 158 := rfl
set_option maxRecDepth 20000 in
theorem lX10_init_158 : lk (tX10_init d mc ms P) 158 = oNewA mc ms 104 160 := rfl
set_option maxRecDepth 20000 in
theorem lX10_init_160 : lk (tX10_init d mc ms P) 160 = oPr 10 28 163 := rfl
set_option maxRecDepth 20000 in
theorem lX10_init_163 : lk (tX10_init d mc ms P) 163 = oAld 0 164 := rfl
set_option maxRecDepth 20000 in
theorem lX10_init_164 : lk (tX10_init d mc ms P) 164 = oPush (.int (-1)) 165 := rfl
set_option maxRecDepth 20000 in
theorem lX10_init_165 : lk (tX10_init d mc ms P) 165 = oPi 10 29 168 := rfl
set_option maxRecDepth 20000 in
theorem lX10_init_168 : lk (tX10_init d mc ms P) 168 = oAld 0 169 := rfl
set_option maxRecDepth 20000 in
theorem lX10_init_169 : lk (tX10_init d mc ms P) 169 = oPush (.int 8) 171 := rfl
set_option maxRecDepth 20000 in
theorem lX10_init_171 : lk (tX10_init d mc ms P) 171 = oNewA mc ms 100 173 := rfl
set_option maxRecDepth 20000 in
theorem lX10_init_173 : lk (tX10_init d mc ms P) 173 = oPr 10 30 176 := rfl
set_option maxRecDepth 20000 in
theorem lX10_init_176 : lk (tX10_init d mc ms P) 176 = oAld 0 177 := rfl
set_option maxRecDepth 20000 in
theorem lX10_init_177 : lk (tX10_init d mc ms P) 177 = oPush (.int 8) 179 := rfl
set_option maxRecDepth 20000 in
theorem lX10_init_179 : lk (tX10_init d mc ms P) 179 = oNewA mc ms 104 181 := rfl
set_option maxRecDepth 20000 in
theorem lX10_init_181 : lk (tX10_init d mc ms P) 181 = oPr 10 31 184 := rfl
set_option maxRecDepth 20000 in
theorem lX10_init_184 : lk (tX10_init d mc ms P) 184 = oAld 0 185 := rfl
set_option maxRecDepth 20000 in
theorem lX10_init_185 : lk (tX10_init d mc ms P) 185 = oPush (.int 8) 187 := rfl
set_option maxRecDepth 20000 in
theorem lX10_init_187 : lk (tX10_init d mc ms P) 187 = oNewA mc ms 100 189 := rfl
set_option maxRecDepth 20000 in
theorem lX10_init_189 : lk (tX10_init d mc ms P) 189 = oPr 10 32 192 := rfl
set_option maxRecDepth 20000 in
theorem lX10_init_192 : lk (tX10_init d mc ms P) 192 = oAld 0 193 := rfl
set_option maxRecDepth 20000 in
theorem lX10_init_193 : lk (tX10_init d mc ms P) 193 = oPush (.int 8) 195 := rfl
set_option maxRecDepth 20000 in
theorem lX10_init_195 : lk (tX10_init d mc ms P) 195 = oNewA mc ms 104 197 := rfl
set_option maxRecDepth 20000 in
theorem lX10_init_197 : lk (tX10_init d mc ms P) 197 = oPr 10 33 200 := rfl
set_option maxRecDepth 20000 in
theorem lX10_init_200 : lk (tX10_init d mc ms P) 200 = oAld 0 201 := rfl
set_option maxRecDepth 20000 in
theorem lX10_init_201 : lk (tX10_init d mc ms P) 201 = oPush (.int (-1)) 202 := rfl
set_option maxRecDepth 20000 in
theorem lX10_init_202 : lk (tX10_init d mc ms P) 202 = oPi 10 34 205 := rfl
set_option maxRecDepth 20000 in
theorem lX10_init_205 : lk (tX10_init d mc ms P) 205 = oAld 0 206 := rfl
set_option maxRecDepth 20000 in
theorem lX10_init_206 : lk (tX10_init d mc ms P) 206 = oCallV d mc ms P 0 0 yX10_ends (Cond.code yX10_ends cX10_ends 7 (some .boolean)) 0 10 209 := rfl
set_option maxRecDepth 20000 in
theorem lX10_init_209 : lk (tX10_init d mc ms P) 209 = oPop 210 := rfl
set_option maxRecDepth 20000 in
theorem lX10_init_210 : lk (tX10_init d mc ms P) 210 = oRetV mc ms P := rfl
theorem lX0_init_0 : lk (tX0_init d mc ms P) 0 = oAld 0 1 := rfl
theorem lX0_init_1 : lk (tX0_init d mc ms P) 1 = oCallI d mc ms 0 0 yX8_init (Cond.code yX8_init cX8_init 1 none) 0 4 := rfl
theorem lX0_init_4 : lk (tX0_init d mc ms P) 4 = oAld 0 5 := rfl
theorem lX0_init_5 : lk (tX0_init d mc ms P) 5 = oPush (.int 200) 8 := rfl
theorem lX0_init_8 : lk (tX0_init d mc ms P) 8 = oNewA mc ms 100 10 := rfl
theorem lX0_init_10 : lk (tX0_init d mc ms P) 10 = oPr 0 0 13 := rfl
theorem lX0_init_13 : lk (tX0_init d mc ms P) 13 = oAld 0 14 := rfl
theorem lX0_init_14 : lk (tX0_init d mc ms P) 14 = oPush (.int 100) 16 := rfl
theorem lX0_init_16 : lk (tX0_init d mc ms P) 16 = oPi 0 1 19 := rfl
theorem lX0_init_19 : lk (tX0_init d mc ms P) 19 = oAld 0 20 := rfl
theorem lX0_init_20 : lk (tX0_init d mc ms P) 20 = oPush (.int 300) 23 := rfl
theorem lX0_init_23 : lk (tX0_init d mc ms P) 23 = oPi 0 2 26 := rfl
theorem lX0_init_26 : lk (tX0_init d mc ms P) 26 = oRetV mc ms P := rfl
theorem lX1_init_0 : lk (tX1_init d mc ms P) 0 = oAld 0 1 := rfl
theorem lX1_init_1 : lk (tX1_init d mc ms P) 1 = oObj 4 := rfl
theorem lX1_init_4 : lk (tX1_init d mc ms P) 4 = oAld 0 5 := rfl
theorem lX1_init_5 : lk (tX1_init d mc ms P) 5 = oPush (.int 0) 6 := rfl
theorem lX1_init_6 : lk (tX1_init d mc ms P) 6 = oPi 1 0 9 := rfl
theorem lX1_init_9 : lk (tX1_init d mc ms P) 9 = oAld 0 10 := rfl
theorem lX1_init_10 : lk (tX1_init d mc ms P) 10 = oPush (.int 0) 11 := rfl
theorem lX1_init_11 : lk (tX1_init d mc ms P) 11 = oPi 1 1 14 := rfl
theorem lX1_init_14 : lk (tX1_init d mc ms P) 14 = oAld 0 15 := rfl
theorem lX1_init_15 : lk (tX1_init d mc ms P) 15 = oPush (.int 3) 16 := rfl
theorem lX1_init_16 : lk (tX1_init d mc ms P) 16 = oPush (.int 16) 18 := rfl
theorem lX1_init_18 : lk (tX1_init d mc ms P) 18 = oNewG mc ms 106 100 22 := rfl
theorem lX1_init_22 : lk (tX1_init d mc ms P) 22 = oPr 1 2 25 := rfl
theorem lX1_init_25 : lk (tX1_init d mc ms P) 25 = oAld 0 26 := rfl
theorem lX1_init_26 : lk (tX1_init d mc ms P) 26 = oPush (.int 8) 28 := rfl
theorem lX1_init_28 : lk (tX1_init d mc ms P) 28 = oNewA mc ms 100 30 := rfl
theorem lX1_init_30 : lk (tX1_init d mc ms P) 30 = oPr 1 3 33 := rfl
theorem lX1_init_33 : lk (tX1_init d mc ms P) 33 = oRetV mc ms P := rfl
theorem lX2_init_0 : lk (tX2_init d mc ms P) 0 = oAld 0 1 := rfl
theorem lX2_init_1 : lk (tX2_init d mc ms P) 1 = oAld 1 2 := rfl
theorem lX2_init_2 : lk (tX2_init d mc ms P) 2 = oCallI d mc ms 0 0 yX5_init (Cond.code yX5_init cX5_init 2 none) 1 5 := rfl
theorem lX2_init_5 : lk (tX2_init d mc ms P) 5 = oAld 0 6 := rfl
theorem lX2_init_6 : lk (tX2_init d mc ms P) 6 = oPush (.int 18) 8 := rfl
theorem lX2_init_8 : lk (tX2_init d mc ms P) 8 = oPush (.int 8) 10 := rfl
theorem lX2_init_10 : lk (tX2_init d mc ms P) 10 = oNewG mc ms 107 104 14 := rfl
theorem lX2_init_14 : lk (tX2_init d mc ms P) 14 = oPr 2 3 17 := rfl
theorem lX2_init_17 : lk (tX2_init d mc ms P) 17 = oAld 0 18 := rfl
theorem lX2_init_18 : lk (tX2_init d mc ms P) 18 = oPush (.int 200) 21 := rfl
theorem lX2_init_21 : lk (tX2_init d mc ms P) 21 = oNewA mc ms 104 23 := rfl
theorem lX2_init_23 : lk (tX2_init d mc ms P) 23 = oPr 2 4 26 := rfl
theorem lX2_init_26 : lk (tX2_init d mc ms P) 26 = oRetV mc ms P := rfl
theorem lX3_init_0 : lk (tX3_init d mc ms P) 0 = oAld 0 1 := rfl
theorem lX3_init_1 : lk (tX3_init d mc ms P) 1 = oCallI d mc ms 0 0 yX8_init (Cond.code yX8_init cX8_init 1 none) 0 4 := rfl
theorem lX3_init_4 : lk (tX3_init d mc ms P) 4 = oAld 0 5 := rfl
theorem lX3_init_5 : lk (tX3_init d mc ms P) 5 = oPush (.int 200) 8 := rfl
theorem lX3_init_8 : lk (tX3_init d mc ms P) 8 = oNewA mc ms 100 10 := rfl
theorem lX3_init_10 : lk (tX3_init d mc ms P) 10 = oPr 3 0 13 := rfl
theorem lX3_init_13 : lk (tX3_init d mc ms P) 13 = oRetV mc ms P := rfl
theorem lX4_init_0 : lk (tX4_init d mc ms P) 0 = oAld 0 1 := rfl
theorem lX4_init_1 : lk (tX4_init d mc ms P) 1 = oAld 1 2 := rfl
theorem lX4_init_2 : lk (tX4_init d mc ms P) 2 = oCallI d mc ms 0 0 yX5_init (Cond.code yX5_init cX5_init 2 none) 1 5 := rfl
theorem lX4_init_5 : lk (tX4_init d mc ms P) 5 = oAld 0 6 := rfl
theorem lX4_init_6 : lk (tX4_init d mc ms P) 6 = oPush (.int 18) 8 := rfl
theorem lX4_init_8 : lk (tX4_init d mc ms P) 8 = oPush (.int 8) 10 := rfl
theorem lX4_init_10 : lk (tX4_init d mc ms P) 10 = oNewG mc ms 106 100 14 := rfl
theorem lX4_init_14 : lk (tX4_init d mc ms P) 14 = oPr 4 3 17 := rfl
theorem lX4_init_17 : lk (tX4_init d mc ms P) 17 = oAld 0 18 := rfl
theorem lX4_init_18 : lk (tX4_init d mc ms P) 18 = oPush (.int 200) 21 := rfl
theorem lX4_init_21 : lk (tX4_init d mc ms P) 21 = oNewA mc ms 100 23 := rfl
theorem lX4_init_23 : lk (tX4_init d mc ms P) 23 = oPr 4 4 26 := rfl
theorem lX4_init_26 : lk (tX4_init d mc ms P) 26 = oRetV mc ms P := rfl
theorem lX5_init_0 : lk (tX5_init d mc ms P) 0 = oAld 0 1 := rfl
theorem lX5_init_1 : lk (tX5_init d mc ms P) 1 = oCallI d mc ms 0 0 yX8_init (Cond.code yX8_init cX8_init 1 none) 0 4 := rfl
theorem lX5_init_4 : lk (tX5_init d mc ms P) 4 = oAld 0 5 := rfl
theorem lX5_init_5 : lk (tX5_init d mc ms P) 5 = oPush (.int 16) 7 := rfl
theorem lX5_init_7 : lk (tX5_init d mc ms P) 7 = oPi2 2 4 1 10 := rfl
theorem lX5_init_10 : lk (tX5_init d mc ms P) 10 = oAld 0 11 := rfl
theorem lX5_init_11 : lk (tX5_init d mc ms P) 11 = oPush (.int 0) 12 := rfl
theorem lX5_init_12 : lk (tX5_init d mc ms P) 12 = oPi2 2 4 2 15 := rfl
theorem lX5_init_15 : lk (tX5_init d mc ms P) 15 = oAld 0 16 := rfl
theorem lX5_init_16 : lk (tX5_init d mc ms P) 16 = oAld 1 17 := rfl
theorem lX5_init_17 : lk (tX5_init d mc ms P) 17 = oPr2 2 4 0 20 := rfl
theorem lX5_init_20 : lk (tX5_init d mc ms P) 20 = oRetV mc ms P := rfl
theorem lX6_init_0 : lk (tX6_init d mc ms P) 0 = oAld 0 1 := rfl
theorem lX6_init_1 : lk (tX6_init d mc ms P) 1 = oObj 4 := rfl
theorem lX6_init_4 : lk (tX6_init d mc ms P) 4 = oAld 0 5 := rfl
theorem lX6_init_5 : lk (tX6_init d mc ms P) 5 = oPush (.int 100) 7 := rfl
theorem lX6_init_7 : lk (tX6_init d mc ms P) 7 = oNewA mc ms 100 9 := rfl
theorem lX6_init_9 : lk (tX6_init d mc ms P) 9 = oPr 6 0 12 := rfl
theorem lX6_init_12 : lk (tX6_init d mc ms P) 12 = oAld 0 13 := rfl
theorem lX6_init_13 : lk (tX6_init d mc ms P) 13 = oPush (.int 8) 15 := rfl
theorem lX6_init_15 : lk (tX6_init d mc ms P) 15 = oNewA mc ms 100 17 := rfl
theorem lX6_init_17 : lk (tX6_init d mc ms P) 17 = oPr 6 1 20 := rfl
theorem lX6_init_20 : lk (tX6_init d mc ms P) 20 = oAld 0 21 := rfl
theorem lX6_init_21 : lk (tX6_init d mc ms P) 21 = oPush (.int 8) 23 := rfl
theorem lX6_init_23 : lk (tX6_init d mc ms P) 23 = oNewA mc ms 100 25 := rfl
theorem lX6_init_25 : lk (tX6_init d mc ms P) 25 = oPr 6 2 28 := rfl
theorem lX6_init_28 : lk (tX6_init d mc ms P) 28 = oAld 0 29 := rfl
theorem lX6_init_29 : lk (tX6_init d mc ms P) 29 = oPush (.int 0) 30 := rfl
theorem lX6_init_30 : lk (tX6_init d mc ms P) 30 = oPi 6 3 33 := rfl
theorem lX6_init_33 : lk (tX6_init d mc ms P) 33 = oAld 0 34 := rfl
theorem lX6_init_34 : lk (tX6_init d mc ms P) 34 = oPush (.int 0) 35 := rfl
theorem lX6_init_35 : lk (tX6_init d mc ms P) 35 = oPi 6 4 38 := rfl
theorem lX6_init_38 : lk (tX6_init d mc ms P) 38 = oAld 0 39 := rfl
theorem lX6_init_39 : lk (tX6_init d mc ms P) 39 = oPush (.int 0) 40 := rfl
theorem lX6_init_40 : lk (tX6_init d mc ms P) 40 = oPz 6 5 43 := rfl
theorem lX6_init_43 : lk (tX6_init d mc ms P) 43 = oAld 0 44 := rfl
theorem lX6_init_44 : lk (tX6_init d mc ms P) 44 = oPush (.int 8) 46 := rfl
theorem lX6_init_46 : lk (tX6_init d mc ms P) 46 = oPush (.int 200) 49 := rfl
theorem lX6_init_49 : lk (tX6_init d mc ms P) 49 = oNewG mc ms 106 100 53 := rfl
theorem lX6_init_53 : lk (tX6_init d mc ms P) 53 = oPr 6 6 56 := rfl
theorem lX6_init_56 : lk (tX6_init d mc ms P) 56 = oAld 0 57 := rfl
theorem lX6_init_57 : lk (tX6_init d mc ms P) 57 = oPush (.int 8) 59 := rfl
theorem lX6_init_59 : lk (tX6_init d mc ms P) 59 = oNewA mc ms 100 61 := rfl
theorem lX6_init_61 : lk (tX6_init d mc ms P) 61 = oPr 6 7 64 := rfl
theorem lX6_init_64 : lk (tX6_init d mc ms P) 64 = oAld 0 65 := rfl
theorem lX6_init_65 : lk (tX6_init d mc ms P) 65 = oPush (.int 200) 68 := rfl
theorem lX6_init_68 : lk (tX6_init d mc ms P) 68 = oNewA mc ms 100 70 := rfl
theorem lX6_init_70 : lk (tX6_init d mc ms P) 70 = oPr 6 8 73 := rfl
theorem lX6_init_73 : lk (tX6_init d mc ms P) 73 = oAld 0 74 := rfl
theorem lX6_init_74 : lk (tX6_init d mc ms P) 74 = oPush (.int 8) 76 := rfl
theorem lX6_init_76 : lk (tX6_init d mc ms P) 76 = oNewA mc ms 103 78 := rfl
theorem lX6_init_78 : lk (tX6_init d mc ms P) 78 = oPr 6 9 81 := rfl
theorem lX6_init_81 : lk (tX6_init d mc ms P) 81 = oAld 0 82 := rfl
theorem lX6_init_82 : lk (tX6_init d mc ms P) 82 = oPush (.int 8) 84 := rfl
theorem lX6_init_84 : lk (tX6_init d mc ms P) 84 = oNewA mc ms 100 86 := rfl
theorem lX6_init_86 : lk (tX6_init d mc ms P) 86 = oPr 6 10 89 := rfl
theorem lX6_init_89 : lk (tX6_init d mc ms P) 89 = oAld 0 90 := rfl
theorem lX6_init_90 : lk (tX6_init d mc ms P) 90 = oPush (.int 8) 92 := rfl
theorem lX6_init_92 : lk (tX6_init d mc ms P) 92 = oNewA mc ms 100 94 := rfl
theorem lX6_init_94 : lk (tX6_init d mc ms P) 94 = oPr 6 11 97 := rfl
theorem lX6_init_97 : lk (tX6_init d mc ms P) 97 = oAld 0 98 := rfl
theorem lX6_init_98 : lk (tX6_init d mc ms P) 98 = oPush (.int 8) 100 := rfl
theorem lX6_init_100 : lk (tX6_init d mc ms P) 100 = oNewA mc ms 100 102 := rfl
set_option maxRecDepth 20000 in
theorem lX6_init_102 : lk (tX6_init d mc ms P) 102 = oPr 6 12 105 := rfl
set_option maxRecDepth 20000 in
theorem lX6_init_105 : lk (tX6_init d mc ms P) 105 = oAld 0 106 := rfl
set_option maxRecDepth 20000 in
theorem lX6_init_106 : lk (tX6_init d mc ms P) 106 = oPush (.int 8) 108 := rfl
set_option maxRecDepth 20000 in
theorem lX6_init_108 : lk (tX6_init d mc ms P) 108 = oNewA mc ms 100 110 := rfl
set_option maxRecDepth 20000 in
theorem lX6_init_110 : lk (tX6_init d mc ms P) 110 = oPr 6 13 113 := rfl
set_option maxRecDepth 20000 in
theorem lX6_init_113 : lk (tX6_init d mc ms P) 113 = oAld 0 114 := rfl
set_option maxRecDepth 20000 in
theorem lX6_init_114 : lk (tX6_init d mc ms P) 114 = oPush (.int 0) 115 := rfl
set_option maxRecDepth 20000 in
theorem lX6_init_115 : lk (tX6_init d mc ms P) 115 = oPi 6 14 118 := rfl
set_option maxRecDepth 20000 in
theorem lX6_init_118 : lk (tX6_init d mc ms P) 118 = oAld 0 119 := rfl
set_option maxRecDepth 20000 in
theorem lX6_init_119 : lk (tX6_init d mc ms P) 119 = oPush (.int 1) 120 := rfl
set_option maxRecDepth 20000 in
theorem lX6_init_120 : lk (tX6_init d mc ms P) 120 = oPz 6 15 123 := rfl
set_option maxRecDepth 20000 in
theorem lX6_init_123 : lk (tX6_init d mc ms P) 123 = oPush (.int 0) 124 := rfl
set_option maxRecDepth 20000 in
theorem lX6_init_124 : lk (tX6_init d mc ms P) 124 = oIst 1 125 := rfl
set_option maxRecDepth 20000 in
theorem lX6_init_125 : lk (tX6_init d mc ms P) 125 = oIld 1 126 := rfl
set_option maxRecDepth 20000 in
theorem lX6_init_126 : lk (tX6_init d mc ms P) 126 = oPush (.int 8) 128 := rfl
set_option maxRecDepth 20000 in
theorem lX6_init_128 : lk (tX6_init d mc ms P) 128 = oIc (fun x y => y ≤ x) 165 131 := rfl
set_option maxRecDepth 20000 in
theorem lX6_init_131 : lk (tX6_init d mc ms P) 131 = oAld 0 132 := rfl
set_option maxRecDepth 20000 in
theorem lX6_init_132 : lk (tX6_init d mc ms P) 132 = oGr 6 6 135 := rfl
set_option maxRecDepth 20000 in
theorem lX6_init_135 : lk (tX6_init d mc ms P) 135 = oIld 1 136 := rfl
set_option maxRecDepth 20000 in
theorem lX6_init_136 : lk (tX6_init d mc ms P) 136 = oAr 106 137 := rfl
set_option maxRecDepth 20000 in
theorem lX6_init_137 : lk (tX6_init d mc ms P) 137 = oPush (.int 0) 138 := rfl
set_option maxRecDepth 20000 in
theorem lX6_init_138 : lk (tX6_init d mc ms P) 138 = oPush (.int 100) 140 := rfl
set_option maxRecDepth 20000 in
theorem lX6_init_140 : lk (tX6_init d mc ms P) 140 = oIld 1 141 := rfl
set_option maxRecDepth 20000 in
theorem lX6_init_141 : lk (tX6_init d mc ms P) 141 = oI2 (fun x y => x + y) 142 := rfl
set_option maxRecDepth 20000 in
theorem lX6_init_142 : lk (tX6_init d mc ms P) 142 = oSi 100 (fun x => x) 143 := rfl
set_option maxRecDepth 20000 in
theorem lX6_init_143 : lk (tX6_init d mc ms P) 143 = oAld 0 144 := rfl
set_option maxRecDepth 20000 in
theorem lX6_init_144 : lk (tX6_init d mc ms P) 144 = oGr 6 7 147 := rfl
set_option maxRecDepth 20000 in
theorem lX6_init_147 : lk (tX6_init d mc ms P) 147 = oIld 1 148 := rfl
set_option maxRecDepth 20000 in
theorem lX6_init_148 : lk (tX6_init d mc ms P) 148 = oPush (.int 1) 149 := rfl
set_option maxRecDepth 20000 in
theorem lX6_init_149 : lk (tX6_init d mc ms P) 149 = oSi 100 (fun x => x) 150 := rfl
set_option maxRecDepth 20000 in
theorem lX6_init_150 : lk (tX6_init d mc ms P) 150 = oAld 0 151 := rfl
set_option maxRecDepth 20000 in
theorem lX6_init_151 : lk (tX6_init d mc ms P) 151 = oGr 6 10 154 := rfl
set_option maxRecDepth 20000 in
theorem lX6_init_154 : lk (tX6_init d mc ms P) 154 = oIld 1 155 := rfl
set_option maxRecDepth 20000 in
theorem lX6_init_155 : lk (tX6_init d mc ms P) 155 = oPush (.int 1) 156 := rfl
set_option maxRecDepth 20000 in
theorem lX6_init_156 : lk (tX6_init d mc ms P) 156 = oIld 1 157 := rfl
set_option maxRecDepth 20000 in
theorem lX6_init_157 : lk (tX6_init d mc ms P) 157 = oI2 (fun x y => x <<< (y &&& 31)) 158 := rfl
set_option maxRecDepth 20000 in
theorem lX6_init_158 : lk (tX6_init d mc ms P) 158 = oSi 100 (fun x => x) 159 := rfl
set_option maxRecDepth 20000 in
theorem lX6_init_159 : lk (tX6_init d mc ms P) 159 = oInc 1 1 162 := rfl
set_option maxRecDepth 20000 in
theorem lX6_init_162 : lk (tX6_init d mc ms P) 162 = oGoto 125 := rfl
set_option maxRecDepth 20000 in
theorem lX6_init_165 : lk (tX6_init d mc ms P) 165 = oRetV mc ms P := rfl
theorem lX7_init_0 : lk (tX7_init d mc ms P) 0 = oAld 0 1 := rfl
theorem lX7_init_1 : lk (tX7_init d mc ms P) 1 = oObj 4 := rfl
theorem lX7_init_4 : lk (tX7_init d mc ms P) 4 = oAld 0 5 := rfl
theorem lX7_init_5 : lk (tX7_init d mc ms P) 5 = oPush (.int 100) 7 := rfl
theorem lX7_init_7 : lk (tX7_init d mc ms P) 7 = oNewA mc ms 102 9 := rfl
theorem lX7_init_9 : lk (tX7_init d mc ms P) 9 = oPr 7 0 12 := rfl
theorem lX7_init_12 : lk (tX7_init d mc ms P) 12 = oAld 0 13 := rfl
theorem lX7_init_13 : lk (tX7_init d mc ms P) 13 = oPush (.int 0) 14 := rfl
theorem lX7_init_14 : lk (tX7_init d mc ms P) 14 = oPi 7 1 17 := rfl
theorem lX7_init_17 : lk (tX7_init d mc ms P) 17 = oAld 0 18 := rfl
theorem lX7_init_18 : lk (tX7_init d mc ms P) 18 = oPush (.int 0) 19 := rfl
theorem lX7_init_19 : lk (tX7_init d mc ms P) 19 = oPi 7 2 22 := rfl
theorem lX7_init_22 : lk (tX7_init d mc ms P) 22 = oAld 0 23 := rfl
theorem lX7_init_23 : lk (tX7_init d mc ms P) 23 = oPush (.int 100) 25 := rfl
theorem lX7_init_25 : lk (tX7_init d mc ms P) 25 = oNewA mc ms 100 27 := rfl
theorem lX7_init_27 : lk (tX7_init d mc ms P) 27 = oPr 7 3 30 := rfl
theorem lX7_init_30 : lk (tX7_init d mc ms P) 30 = oAld 0 31 := rfl
theorem lX7_init_31 : lk (tX7_init d mc ms P) 31 = oPush (.int 0) 32 := rfl
theorem lX7_init_32 : lk (tX7_init d mc ms P) 32 = oPi 7 4 35 := rfl
theorem lX7_init_35 : lk (tX7_init d mc ms P) 35 = oAld 0 36 := rfl
theorem lX7_init_36 : lk (tX7_init d mc ms P) 36 = oPush (.int 100) 38 := rfl
theorem lX7_init_38 : lk (tX7_init d mc ms P) 38 = oNewA mc ms 100 40 := rfl
theorem lX7_init_40 : lk (tX7_init d mc ms P) 40 = oPr 7 5 43 := rfl
theorem lX7_init_43 : lk (tX7_init d mc ms P) 43 = oAld 0 44 := rfl
theorem lX7_init_44 : lk (tX7_init d mc ms P) 44 = oPush (.int 100) 46 := rfl
theorem lX7_init_46 : lk (tX7_init d mc ms P) 46 = oNewA mc ms 100 48 := rfl
theorem lX7_init_48 : lk (tX7_init d mc ms P) 48 = oPr 7 6 51 := rfl
theorem lX7_init_51 : lk (tX7_init d mc ms P) 51 = oAld 0 52 := rfl
theorem lX7_init_52 : lk (tX7_init d mc ms P) 52 = oPush (.int 0) 53 := rfl
theorem lX7_init_53 : lk (tX7_init d mc ms P) 53 = oPi 7 7 56 := rfl
theorem lX7_init_56 : lk (tX7_init d mc ms P) 56 = oRetV mc ms P := rfl
theorem lX8_init_0 : lk (tX8_init d mc ms P) 0 = oAld 0 1 := rfl
theorem lX8_init_1 : lk (tX8_init d mc ms P) 1 = oObj 4 := rfl
theorem lX8_init_4 : lk (tX8_init d mc ms P) 4 = oRetV mc ms P := rfl
end
