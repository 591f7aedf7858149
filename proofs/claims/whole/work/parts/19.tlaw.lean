def tL0 (b L : Nat) (xs : Nat → Int32) : List (Nat × OP) := [(0, oNew 601024 7293034 9 14 3), (3, oDup 4), (4, oCallI 2000 601024 7293034 124 7639 yX9_init (Cond.code yX9_init cX9_init 2 none) 0 7), (7, oAst 1 8), (8, oNew 601024 7293034 10 36 11), (11, oDup 12), (12, oCallI 2000 601024 7293034 22 5813 yX10_init (Cond.code yX10_init cX10_init 1 none) 0 15), (15, oAst 2 16), (16, oPush (.int 1) 17), (17, oNewA 601024 7293034 101 19), (19, oAst 3 20), (20, oPush (.int 1) 21), (21, oNewA 601024 7293034 105 23), (23, oAst 4 25), (25, oPush (.int 0) 26), (26, oIst 5 28), (28, oIld 5 30), (30, oAld 0 31), (31, oSlen b L 32), (32, oPush (.int 4) 33), (33, oI2 (fun x y => x - y) 34), (34, oIc (fun x y => y < x) 1662 37), (37, oAld 0 38), (38, oIld 5 40), (40, oSld b L xs 41), (41, oPush (.int 31) 43), (43, oI2 (fun x y => x &&& y) 44), (44, oSw [(0, 176), (1, 232), (2, 276), (3, 289), (4, 302), (5, 358), (6, 414), (7, 494), (8, 562), (9, 630), (10, 698), (11, 754), (12, 810), (13, 866), (14, 922), (15, 978), (16, 1034), (17, 1090), (18, 1141), (19, 1185), (20, 1198), (21, 1261), (22, 1329), (23, 1385), (24, 1463), (25, 1540), (26, 1608), (27, 1621), (28, 1632)] 1656), (176, oAld 1 177), (177, oAld 0 178), (178, oIld 5 180), (180, oPush (.int 1) 181), (181, oI2 (fun x y => x + y) 182), (182, oSld b L xs 183), (183, oAld 3 184), (184, oCallG 2000 601024 7293034 1 6 yL_append (Cond.codeWith yL_append cL_append 4 (some .int) [(0, 9, 12, 13), (0, 9, 15, 15)]) 3 187), (187, oIst 6 189), (189, oAld 2 190), (190, oAld 0 191), (191, oIld 5 193), (193, oPush (.int 1) 194), (194, oI2 (fun x y => x + y) 195), (195, oSld b L xs 196), (196, oCallGV 2000 601024 7293034 0 0 yX10_append (Cond.code yX10_append cX10_append 5 (some .int)) 1 10 199), (199, oIst 7 201), (201, oAld 2 202), (202, oCallGV 2000 601024 7293034 0 0 yX10_thrown (Cond.code yX10_thrown cX10_thrown 1 (some .int)) 0 10 205), (205, oIld 6 207), (207, oIc (fun x y => x = y) 212 210), (210, oPush (.int 0) 211), (211, oLret), (212, oIld 6 214), (214, oIf (fun x => x = 0) 217 229), (217, oAld 3 218), (218, oPush (.int 0) 219), (219, oAl 220), (220, oIld 7 222), (222, oIcv (fun x => .long x.toInt64) 223), (223, oLcmp 224), (224, oIf (fun x => x = 0) 229 227)]
set_option maxRecDepth 20000 in
theorem sL0 {p : Program} {l : Launch} {e : Env} {s : State} {m : MethodId} {below : List Frame} {meth : Method} {c : Code} {D : va_G} {cA : Nat → ClassId} {ad0 : Nat → Nat} {b L : Nat} {xs : Nat → Int32} (hF : Fx p s m #[Value.ref b] meth c D cA (fun q => s.heap.size ≤ q) 9 code R_law) (hst : l.stackTraces = false) (ham : Amb (fun q => s.heap.size ≤ q) s s.heap) (hX : va_X b L xs s s.heap) (hbl : b < s.heap.size) (hr : meth.sig.returnType = ret) (hRk : Rk 2000 601024 7293034 room_1) : ∀ q ∈ tL0 b L xs, Snd (jL p l e s m below meth c D cA ad0 b) q.1 q.2 := by
  have hts := hF.2.2.2.2.1
  unfold tL0
  refine fmS (snd_new hF okX9 (Nat.le_refl _) (Nat.le_refl _) qw100 qw101 qw76 (by decide +kernel) (by decide +kernel)) ?_
  refine fmS (snd_dup hF (by decide +kernel)) ?_
  refine fmS (snd_callI hF hst ham hRk k_X9_init rfl qw103 qw102 (by decide +kernel)) ?_
  refine fmS (snd_astoren hF (k := 1) rfl (by decide) (by decide +kernel)) ?_
  refine fmS (snd_new hF okX10 (Nat.le_refl _) (Nat.le_refl _) qw1088 qw1089 qw86 (by decide +kernel) (by decide +kernel)) ?_
  refine fmS (snd_dup hF (by decide +kernel)) ?_
  refine fmS (snd_callI hF hst ham hRk k_X10_init rfl qw1091 qw1090 (by decide +kernel)) ?_
  refine fmS (snd_astoren hF (k := 2) rfl (by decide) (by decide +kernel)) ?_
  refine fmS (snd_iconst hF (n := 1) rfl (by decide +kernel)) ?_
  refine fmS (snd_newA101 hF (Nat.le_refl _) (Nat.le_refl _) qw1545 (by decide +kernel)) ?_
  refine fmS (snd_astoren hF (k := 3) rfl (by decide) (by decide +kernel)) ?_
  refine fmS (snd_iconst hF (n := 1) rfl (by decide +kernel)) ?_
  refine fmS (snd_newA105 hF (Nat.le_refl _) (Nat.le_refl _) qw1546 (by decide +kernel)) ?_
  refine fmS (snd_astore hF (by decide) (by decide +kernel)) ?_
  refine fmS (snd_iconst hF (n := 0) rfl (by decide +kernel)) ?_
  refine fmS (snd_istore hF (by decide) (by decide +kernel)) ?_
  refine fmS (snd_iload hF (by decide +kernel)) ?_
  refine fmS (snd_aloadn hF (k := 0) rfl (by decide +kernel)) ?_
  refine fmS (snd_slen hF hX hbl (by decide +kernel)) ?_
  refine fmS (snd_iconst hF (n := 4) rfl (by decide +kernel)) ?_
  refine fmS (snd_isub hF (by decide +kernel)) ?_
  refine fmS (snd_icmp_gt hF (off := 1628) (by decide) (by decide +kernel)) ?_
  refine fmS (snd_aloadn hF (k := 0) rfl (by decide +kernel)) ?_
  refine fmS (snd_iload hF (by decide +kernel)) ?_
  refine fmS (snd_sld hF hX hbl (by decide +kernel)) ?_
  refine fmS (snd_bipush hF (n := 31) (by decide +kernel) (by decide +kernel)) ?_
  refine fmS (snd_iand hF (by decide +kernel)) ?_
  refine fmS (snd_tsw hF (lo := 0) (hi := 28) (dflt := 1612) (offs := #[132, 188, 232, 245, 258, 314, 370, 450, 518, 586, 654, 710, 766, 822, 878, 934, 990, 1046, 1097, 1141, 1154, 1217, 1285, 1341, 1419, 1496, 1564, 1577, 1588]) (len := 132) (by decide +kernel) (by decide +kernel)) ?_
  refine fmS (snd_aloadn hF (k := 1) rfl (by decide +kernel)) ?_
  refine fmS (snd_aloadn hF (k := 0) rfl (by decide +kernel)) ?_
  refine fmS (snd_iload hF (by decide +kernel)) ?_
  refine fmS (snd_iconst hF (n := 1) rfl (by decide +kernel)) ?_
  refine fmS (snd_iadd hF (by decide +kernel)) ?_
  refine fmS (snd_sld hF hX hbl (by decide +kernel)) ?_
  refine fmS (snd_aloadn hF (k := 3) rfl (by decide +kernel)) ?_
  refine fmS (snd_callSX hF hst ham hRk qw409 qw75 (by decide) (by decide +kernel) (by decide) qw408 qw407 (by decide +kernel)) ?_
  refine fmS (snd_istore hF (by decide) (by decide +kernel)) ?_
  refine fmS (snd_aloadn hF (k := 2) rfl (by decide +kernel)) ?_
  refine fmS (snd_aloadn hF (k := 0) rfl (by decide +kernel)) ?_
  refine fmS (snd_iload hF (by decide +kernel)) ?_
  refine fmS (snd_iconst hF (n := 1) rfl (by decide +kernel)) ?_
  refine fmS (snd_iadd hF (by decide +kernel)) ?_
  refine fmS (snd_sld hF hX hbl (by decide +kernel)) ?_
  refine fmS (snd_callGV hF hst ham hRk k_X10_append okX10 qw1217 qw1218 qw1219 (by decide +kernel)) ?_
  refine fmS (snd_istore hF (by decide) (by decide +kernel)) ?_
  refine fmS (snd_aloadn hF (k := 2) rfl (by decide +kernel)) ?_
  refine fmS (snd_callGV hF hst ham hRk k_X10_thrown okX10 qw1213 qw1214 qw1215 (by decide +kernel)) ?_
  refine fmS (snd_iload hF (by decide +kernel)) ?_
  refine fmS (snd_icmp_eq hF (off := 5) (by decide) (by decide +kernel)) ?_
  refine fmS (snd_iconst hF (n := 0) rfl (by decide +kernel)) ?_
  refine fmS (snd_lret hF hr (by decide +kernel)) ?_
  refine fmS (snd_iload hF (by decide +kernel)) ?_
  refine fmS (snd_if_ne hF (off := 15) (by decide) (by decide +kernel)) ?_
  refine fmS (snd_aloadn hF (k := 3) rfl (by decide +kernel)) ?_
  refine fmS (snd_iconst hF (n := 0) rfl (by decide +kernel)) ?_
  refine fmS (snd_laload hF (by decide +kernel)) ?_
  refine fmS (snd_iload hF (by decide +kernel)) ?_
  refine fmS (snd_i2l hF (by decide +kernel)) ?_
  refine fmS (snd_lcmp hF (by decide +kernel)) ?_
  refine fmS (snd_if_eq hF (off := 5) (by decide) (by decide +kernel)) ?_
  exact fmE
def tL1 (b L : Nat) (xs : Nat → Int32) : List (Nat × OP) := [(227, oPush (.int 0) 228), (228, oLret), (229, oGoto 1656), (232, oAld 1 233), (233, oAld 3 234), (234, oCallG 2000 601024 7293034 1 6 yL_load (Cond.codeWith yL_load cL_load 3 (some .int) [(0, 8, 11, 13), (0, 8, 14, 15)]) 2 237), (237, oIst 6 239), (239, oAld 2 240), (240, oCallGV 2000 601024 7293034 0 0 yX10_load (Cond.code yX10_load cX10_load 5 (some .int)) 0 10 243), (243, oIst 7 245), (245, oAld 2 246), (246, oCallGV 2000 601024 7293034 0 0 yX10_thrown (Cond.code yX10_thrown cX10_thrown 1 (some .int)) 0 10 249), (249, oIld 6 251), (251, oIc (fun x y => x = y) 256 254), (254, oPush (.int 0) 255), (255, oLret), (256, oIld 6 258), (258, oIf (fun x => x = 0) 261 273), (261, oAld 3 262), (262, oPush (.int 0) 263), (263, oAl 264), (264, oIld 7 266), (266, oIcv (fun x => .long x.toInt64) 267), (267, oLcmp 268), (268, oIf (fun x => x = 0) 273 271), (271, oPush (.int 0) 272), (272, oLret), (273, oGoto 1656), (276, oAld 1 277), (277, oCallGV 2000 601024 7293034 0 0 yX9_faultPosition (Cond.code yX9_faultPosition cX9_faultPosition 1 (some .int)) 0 9 280), (280, oAld 2 281), (281, oCallGV 2000 601024 7293034 0 0 yX10_faultPosition (Cond.code yX10_faultPosition cX10_faultPosition 1 (some .int)) 0 10 284), (284, oIc (fun x y => x = y) 1656 287), (287, oPush (.int 0) 288), (288, oLret), (289, oAld 1 290), (290, oCallGV 2000 601024 7293034 0 0 yX9_statements (Cond.code yX9_statements cX9_statements 1 (some .int)) 0 9 293), (293, oAld 2 294), (294, oCallGV 2000 601024 7293034 0 0 yX10_statements (Cond.code yX10_statements cX10_statements 1 (some .int)) 0 10 297), (297, oIc (fun x y => x = y) 1656 300), (300, oPush (.int 0) 301), (301, oLret), (302, oAld 1 303), (303, oAld 0 304), (304, oIld 5 306), (306, oPush (.int 1) 307), (307, oI2 (fun x y => x + y) 308), (308, oSld b L xs 309), (309, oAld 3 310), (310, oCallG 2000 601024 7293034 1 6 yL_setMode (Cond.codeWith yL_setMode cL_setMode 4 (some .int) [(0, 9, 12, 13)]) 3 313), (313, oIst 6 315), (315, oAld 2 316), (316, oAld 0 317), (317, oIld 5 319), (319, oPush (.int 1) 320), (320, oI2 (fun x y => x + y) 321), (321, oSld b L xs 322), (322, oCallGV 2000 601024 7293034 0 0 yX10_setMode (Cond.code yX10_setMode cX10_setMode 3 (some .int)) 1 10 325), (325, oIst 7 327), (327, oAld 2 328)]
set_option maxRecDepth 20000 in
theorem sL1 {p : Program} {l : Launch} {e : Env} {s : State} {m : MethodId} {below : List Frame} {meth : Method} {c : Code} {D : va_G} {cA : Nat → ClassId} {ad0 : Nat → Nat} {b L : Nat} {xs : Nat → Int32} (hF : Fx p s m #[Value.ref b] meth c D cA (fun q => s.heap.size ≤ q) 9 code R_law) (hst : l.stackTraces = false) (ham : Amb (fun q => s.heap.size ≤ q) s s.heap) (hX : va_X b L xs s s.heap) (hbl : b < s.heap.size) (hr : meth.sig.returnType = ret) (hRk : Rk 2000 601024 7293034 room_1) : ∀ q ∈ tL1 b L xs, Snd (jL p l e s m below meth c D cA ad0 b) q.1 q.2 := by
  have hts := hF.2.2.2.2.1
  unfold tL1
  refine fmS (snd_iconst hF (n := 0) rfl (by decide +kernel)) ?_
  refine fmS (snd_lret hF hr (by decide +kernel)) ?_
  refine fmS (snd_goto hF (off := 1427) (by decide) (by decide +kernel)) ?_
  refine fmS (snd_aloadn hF (k := 1) rfl (by decide +kernel)) ?_
  refine fmS (snd_aloadn hF (k := 3) rfl (by decide +kernel)) ?_
  refine fmS (snd_callSX hF hst ham hRk qw508 qw75 (by decide) (by decide +kernel) (by decide) qw507 qw506 (by decide +kernel)) ?_
  refine fmS (snd_istore hF (by decide) (by decide +kernel)) ?_
  refine fmS (snd_aloadn hF (k := 2) rfl (by decide +kernel)) ?_
  refine fmS (snd_callGV hF hst ham hRk k_X10_load okX10 qw1225 qw1226 qw1227 (by decide +kernel)) ?_
  refine fmS (snd_istore hF (by decide) (by decide +kernel)) ?_
  refine fmS (snd_aloadn hF (k := 2) rfl (by decide +kernel)) ?_
  refine fmS (snd_callGV hF hst ham hRk k_X10_thrown okX10 qw1213 qw1214 qw1215 (by decide +kernel)) ?_
  refine fmS (snd_iload hF (by decide +kernel)) ?_
  refine fmS (snd_icmp_eq hF (off := 5) (by decide) (by decide +kernel)) ?_
  refine fmS (snd_iconst hF (n := 0) rfl (by decide +kernel)) ?_
  refine fmS (snd_lret hF hr (by decide +kernel)) ?_
  refine fmS (snd_iload hF (by decide +kernel)) ?_
  refine fmS (snd_if_ne hF (off := 15) (by decide) (by decide +kernel)) ?_
  refine fmS (snd_aloadn hF (k := 3) rfl (by decide +kernel)) ?_
  refine fmS (snd_iconst hF (n := 0) rfl (by decide +kernel)) ?_
  refine fmS (snd_laload hF (by decide +kernel)) ?_
  refine fmS (snd_iload hF (by decide +kernel)) ?_
  refine fmS (snd_i2l hF (by decide +kernel)) ?_
  refine fmS (snd_lcmp hF (by decide +kernel)) ?_
  refine fmS (snd_if_eq hF (off := 5) (by decide) (by decide +kernel)) ?_
  refine fmS (snd_iconst hF (n := 0) rfl (by decide +kernel)) ?_
  refine fmS (snd_lret hF hr (by decide +kernel)) ?_
  refine fmS (snd_goto hF (off := 1383) (by decide) (by decide +kernel)) ?_
  refine fmS (snd_aloadn hF (k := 1) rfl (by decide +kernel)) ?_
  refine fmS (snd_callGV hF hst ham hRk k_X9_faultPosition okX9 qw370 qw371 qw372 (by decide +kernel)) ?_
  refine fmS (snd_aloadn hF (k := 2) rfl (by decide +kernel)) ?_
  refine fmS (snd_callGV hF hst ham hRk k_X10_faultPosition okX10 qw1292 qw1293 qw1294 (by decide +kernel)) ?_
  refine fmS (snd_icmp_eq hF (off := 1372) (by decide) (by decide +kernel)) ?_
  refine fmS (snd_iconst hF (n := 0) rfl (by decide +kernel)) ?_
  refine fmS (snd_lret hF hr (by decide +kernel)) ?_
  refine fmS (snd_aloadn hF (k := 1) rfl (by decide +kernel)) ?_
  refine fmS (snd_callGV hF hst ham hRk k_X9_statements okX9 qw374 qw375 qw376 (by decide +kernel)) ?_
  refine fmS (snd_aloadn hF (k := 2) rfl (by decide +kernel)) ?_
  refine fmS (snd_callGV hF hst ham hRk k_X10_statements okX10 qw1296 qw1297 qw1298 (by decide +kernel)) ?_
  refine fmS (snd_icmp_eq hF (off := 1359) (by decide) (by decide +kernel)) ?_
  refine fmS (snd_iconst hF (n := 0) rfl (by decide +kernel)) ?_
  refine fmS (snd_lret hF hr (by decide +kernel)) ?_
  refine fmS (snd_aloadn hF (k := 1) rfl (by decide +kernel)) ?_
  refine fmS (snd_aloadn hF (k := 0) rfl (by decide +kernel)) ?_
  refine fmS (snd_iload hF (by decide +kernel)) ?_
  refine fmS (snd_iconst hF (n := 1) rfl (by decide +kernel)) ?_
  refine fmS (snd_iadd hF (by decide +kernel)) ?_
  refine fmS (snd_sld hF hX hbl (by decide +kernel)) ?_
  refine fmS (snd_aloadn hF (k := 3) rfl (by decide +kernel)) ?_
  refine fmS (snd_callSX hF hst ham hRk qw722 qw75 (by decide) (by decide +kernel) (by decide) qw721 qw720 (by decide +kernel)) ?_
  refine fmS (snd_istore hF (by decide) (by decide +kernel)) ?_
  refine fmS (snd_aloadn hF (k := 2) rfl (by decide +kernel)) ?_
  refine fmS (snd_aloadn hF (k := 0) rfl (by decide +kernel)) ?_
  refine fmS (snd_iload hF (by decide +kernel)) ?_
  refine fmS (snd_iconst hF (n := 1) rfl (by decide +kernel)) ?_
  refine fmS (snd_iadd hF (by decide +kernel)) ?_
  refine fmS (snd_sld hF hX hbl (by decide +kernel)) ?_
  refine fmS (snd_callGV hF hst ham hRk k_X10_setMode okX10 qw1300 qw1301 qw1302 (by decide +kernel)) ?_
  refine fmS (snd_istore hF (by decide) (by decide +kernel)) ?_
  refine fmS (snd_aloadn hF (k := 2) rfl (by decide +kernel)) ?_
  exact fmE
def tL2 (b L : Nat) (xs : Nat → Int32) : List (Nat × OP) := [(328, oCallGV 2000 601024 7293034 0 0 yX10_thrown (Cond.code yX10_thrown cX10_thrown 1 (some .int)) 0 10 331), (331, oIld 6 333), (333, oIc (fun x y => x = y) 338 336), (336, oPush (.int 0) 337), (337, oLret), (338, oIld 6 340), (340, oIf (fun x => x = 0) 343 355), (343, oAld 3 344), (344, oPush (.int 0) 345), (345, oAl 346), (346, oIld 7 348), (348, oIcv (fun x => .long x.toInt64) 349), (349, oLcmp 350), (350, oIf (fun x => x = 0) 355 353), (353, oPush (.int 0) 354), (354, oLret), (355, oGoto 1656), (358, oAld 1 359), (359, oAld 0 360), (360, oIld 5 362), (362, oPush (.int 1) 363), (363, oI2 (fun x y => x + y) 364), (364, oSld b L xs 365), (365, oAld 3 366), (366, oCallG 2000 601024 7293034 1 6 yL_setCount (Cond.codeWith yL_setCount cL_setCount 4 (some .int) [(0, 9, 12, 13)]) 3 369), (369, oIst 6 371), (371, oAld 2 372), (372, oAld 0 373), (373, oIld 5 375), (375, oPush (.int 1) 376), (376, oI2 (fun x y => x + y) 377), (377, oSld b L xs 378), (378, oCallGV 2000 601024 7293034 0 0 yX10_setCount (Cond.code yX10_setCount cX10_setCount 3 (some .int)) 1 10 381), (381, oIst 7 383), (383, oAld 2 384), (384, oCallGV 2000 601024 7293034 0 0 yX10_thrown (Cond.code yX10_thrown cX10_thrown 1 (some .int)) 0 10 387), (387, oIld 6 389), (389, oIc (fun x y => x = y) 394 392), (392, oPush (.int 0) 393), (393, oLret), (394, oIld 6 396), (396, oIf (fun x => x = 0) 399 411), (399, oAld 3 400), (400, oPush (.int 0) 401), (401, oAl 402), (402, oIld 7 404), (404, oIcv (fun x => .long x.toInt64) 405), (405, oLcmp 406), (406, oIf (fun x => x = 0) 411 409), (409, oPush (.int 0) 410), (410, oLret), (411, oGoto 1656), (414, oAld 1 415), (415, oAld 0 416), (416, oIld 5 418), (418, oPush (.int 1) 419), (419, oI2 (fun x y => x + y) 420), (420, oSld b L xs 421), (421, oAld 0 422), (422, oIld 5 424)]
set_option maxRecDepth 20000 in
theorem sL2 {p : Program} {l : Launch} {e : Env} {s : State} {m : MethodId} {below : List Frame} {meth : Method} {c : Code} {D : va_G} {cA : Nat → ClassId} {ad0 : Nat → Nat} {b L : Nat} {xs : Nat → Int32} (hF : Fx p s m #[Value.ref b] meth c D cA (fun q => s.heap.size ≤ q) 9 code R_law) (hst : l.stackTraces = false) (ham : Amb (fun q => s.heap.size ≤ q) s s.heap) (hX : va_X b L xs s s.heap) (hbl : b < s.heap.size) (hr : meth.sig.returnType = ret) (hRk : Rk 2000 601024 7293034 room_1) : ∀ q ∈ tL2 b L xs, Snd (jL p l e s m below meth c D cA ad0 b) q.1 q.2 := by
  have hts := hF.2.2.2.2.1
  unfold tL2
  refine fmS (snd_callGV hF hst ham hRk k_X10_thrown okX10 qw1213 qw1214 qw1215 (by decide +kernel)) ?_
  refine fmS (snd_iload hF (by decide +kernel)) ?_
  refine fmS (snd_icmp_eq hF (off := 5) (by decide) (by decide +kernel)) ?_
  refine fmS (snd_iconst hF (n := 0) rfl (by decide +kernel)) ?_
  refine fmS (snd_lret hF hr (by decide +kernel)) ?_
  refine fmS (snd_iload hF (by decide +kernel)) ?_
  refine fmS (snd_if_ne hF (off := 15) (by decide) (by decide +kernel)) ?_
  refine fmS (snd_aloadn hF (k := 3) rfl (by decide +kernel)) ?_
  refine fmS (snd_iconst hF (n := 0) rfl (by decide +kernel)) ?_
  refine fmS (snd_laload hF (by decide +kernel)) ?_
  refine fmS (snd_iload hF (by decide +kernel)) ?_
  refine fmS (snd_i2l hF (by decide +kernel)) ?_
  refine fmS (snd_lcmp hF (by decide +kernel)) ?_
  refine fmS (snd_if_eq hF (off := 5) (by decide) (by decide +kernel)) ?_
  refine fmS (snd_iconst hF (n := 0) rfl (by decide +kernel)) ?_
  refine fmS (snd_lret hF hr (by decide +kernel)) ?_
  refine fmS (snd_goto hF (off := 1301) (by decide) (by decide +kernel)) ?_
  refine fmS (snd_aloadn hF (k := 1) rfl (by decide +kernel)) ?_
  refine fmS (snd_aloadn hF (k := 0) rfl (by decide +kernel)) ?_
  refine fmS (snd_iload hF (by decide +kernel)) ?_
  refine fmS (snd_iconst hF (n := 1) rfl (by decide +kernel)) ?_
  refine fmS (snd_iadd hF (by decide +kernel)) ?_
  refine fmS (snd_sld hF hX hbl (by decide +kernel)) ?_
  refine fmS (snd_aloadn hF (k := 3) rfl (by decide +kernel)) ?_
  refine fmS (snd_callSX hF hst ham hRk qw730 qw75 (by decide) (by decide +kernel) (by decide) qw729 qw728 (by decide +kernel)) ?_
  refine fmS (snd_istore hF (by decide) (by decide +kernel)) ?_
  refine fmS (snd_aloadn hF (k := 2) rfl (by decide +kernel)) ?_
  refine fmS (snd_aloadn hF (k := 0) rfl (by decide +kernel)) ?_
  refine fmS (snd_iload hF (by decide +kernel)) ?_
  refine fmS (snd_iconst hF (n := 1) rfl (by decide +kernel)) ?_
  refine fmS (snd_iadd hF (by decide +kernel)) ?_
  refine fmS (snd_sld hF hX hbl (by decide +kernel)) ?_
  refine fmS (snd_callGV hF hst ham hRk k_X10_setCount okX10 qw1304 qw1305 qw1306 (by decide +kernel)) ?_
  refine fmS (snd_istore hF (by decide) (by decide +kernel)) ?_
  refine fmS (snd_aloadn hF (k := 2) rfl (by decide +kernel)) ?_
  refine fmS (snd_callGV hF hst ham hRk k_X10_thrown okX10 qw1213 qw1214 qw1215 (by decide +kernel)) ?_
  refine fmS (snd_iload hF (by decide +kernel)) ?_
  refine fmS (snd_icmp_eq hF (off := 5) (by decide) (by decide +kernel)) ?_
  refine fmS (snd_iconst hF (n := 0) rfl (by decide +kernel)) ?_
  refine fmS (snd_lret hF hr (by decide +kernel)) ?_
  refine fmS (snd_iload hF (by decide +kernel)) ?_
  refine fmS (snd_if_ne hF (off := 15) (by decide) (by decide +kernel)) ?_
  refine fmS (snd_aloadn hF (k := 3) rfl (by decide +kernel)) ?_
  refine fmS (snd_iconst hF (n := 0) rfl (by decide +kernel)) ?_
  refine fmS (snd_laload hF (by decide +kernel)) ?_
  refine fmS (snd_iload hF (by decide +kernel)) ?_
  refine fmS (snd_i2l hF (by decide +kernel)) ?_
  refine fmS (snd_lcmp hF (by decide +kernel)) ?_
  refine fmS (snd_if_eq hF (off := 5) (by decide) (by decide +kernel)) ?_
  refine fmS (snd_iconst hF (n := 0) rfl (by decide +kernel)) ?_
  refine fmS (snd_lret hF hr (by decide +kernel)) ?_
  refine fmS (snd_goto hF (off := 1245) (by decide) (by decide +kernel)) ?_
  refine fmS (snd_aloadn hF (k := 1) rfl (by decide +kernel)) ?_
  refine fmS (snd_aloadn hF (k := 0) rfl (by decide +kernel)) ?_
  refine fmS (snd_iload hF (by decide +kernel)) ?_
  refine fmS (snd_iconst hF (n := 1) rfl (by decide +kernel)) ?_
  refine fmS (snd_iadd hF (by decide +kernel)) ?_
  refine fmS (snd_sld hF hX hbl (by decide +kernel)) ?_
  refine fmS (snd_aloadn hF (k := 0) rfl (by decide +kernel)) ?_
  refine fmS (snd_iload hF (by decide +kernel)) ?_
  exact fmE
def tL3 (b L : Nat) (xs : Nat → Int32) : List (Nat × OP) := [(424, oPush (.int 2) 425), (425, oI2 (fun x y => x + y) 426), (426, oSld b L xs 427), (427, oAld 0 428), (428, oIld 5 430), (430, oPush (.int 3) 431), (431, oI2 (fun x y => x + y) 432), (432, oSld b L xs 433), (433, oAld 3 434), (434, oCallG 2000 601024 7293034 2 12 yL_setElement (Cond.codeWith yL_setElement cL_setElement 6 (some .int) [(0, 12, 15, 31), (0, 12, 19, 13)]) 5 437), (437, oIst 6 439), (439, oAld 2 440), (440, oAld 0 441), (441, oIld 5 443), (443, oPush (.int 1) 444), (444, oI2 (fun x y => x + y) 445), (445, oSld b L xs 446), (446, oAld 0 447), (447, oIld 5 449), (449, oPush (.int 2) 450), (450, oI2 (fun x y => x + y) 451), (451, oSld b L xs 452), (452, oAld 0 453), (453, oIld 5 455), (455, oPush (.int 3) 456), (456, oI2 (fun x y => x + y) 457), (457, oSld b L xs 458), (458, oCallGV 2000 601024 7293034 0 0 yX10_setElement (Cond.code yX10_setElement cX10_setElement 5 (some .int)) 3 10 461), (461, oIst 7 463), (463, oAld 2 464), (464, oCallGV 2000 601024 7293034 0 0 yX10_thrown (Cond.code yX10_thrown cX10_thrown 1 (some .int)) 0 10 467), (467, oIld 6 469), (469, oIc (fun x y => x = y) 474 472), (472, oPush (.int 0) 473), (473, oLret), (474, oIld 6 476), (476, oIf (fun x => x = 0) 479 491), (479, oAld 3 480), (480, oPush (.int 0) 481), (481, oAl 482), (482, oIld 7 484), (484, oIcv (fun x => .long x.toInt64) 485), (485, oLcmp 486), (486, oIf (fun x => x = 0) 491 489), (489, oPush (.int 0) 490), (490, oLret), (491, oGoto 1656), (494, oAld 1 495), (495, oAld 0 496), (496, oIld 5 498), (498, oPush (.int 1) 499), (499, oI2 (fun x y => x + y) 500), (500, oSld b L xs 501), (501, oAld 0 502), (502, oIld 5 504), (504, oPush (.int 2) 505), (505, oI2 (fun x y => x + y) 506), (506, oSld b L xs 507), (507, oAld 3 508), (508, oCallG 2000 601024 7293034 1 6 yL_fill (Cond.codeWith yL_fill cL_fill 5 (some .int) [(0, 10, 13, 31)]) 4 511)]
set_option maxRecDepth 20000 in
theorem sL3 {p : Program} {l : Launch} {e : Env} {s : State} {m : MethodId} {below : List Frame} {meth : Method} {c : Code} {D : va_G} {cA : Nat → ClassId} {ad0 : Nat → Nat} {b L : Nat} {xs : Nat → Int32} (hF : Fx p s m #[Value.ref b] meth c D cA (fun q => s.heap.size ≤ q) 9 code R_law) (hst : l.stackTraces = false) (ham : Amb (fun q => s.heap.size ≤ q) s s.heap) (hX : va_X b L xs s s.heap) (hbl : b < s.heap.size) (hr : meth.sig.returnType = ret) (hRk : Rk 2000 601024 7293034 room_1) : ∀ q ∈ tL3 b L xs, Snd (jL p l e s m below meth c D cA ad0 b) q.1 q.2 := by
  have hts := hF.2.2.2.2.1
  unfold tL3
  refine fmS (snd_iconst hF (n := 2) rfl (by decide +kernel)) ?_
  refine fmS (snd_iadd hF (by decide +kernel)) ?_
  refine fmS (snd_sld hF hX hbl (by decide +kernel)) ?_
  refine fmS (snd_aloadn hF (k := 0) rfl (by decide +kernel)) ?_
  refine fmS (snd_iload hF (by decide +kernel)) ?_
  refine fmS (snd_iconst hF (n := 3) rfl (by decide +kernel)) ?_
  refine fmS (snd_iadd hF (by decide +kernel)) ?_
  refine fmS (snd_sld hF hX hbl (by decide +kernel)) ?_
  refine fmS (snd_aloadn hF (k := 3) rfl (by decide +kernel)) ?_
  refine fmS (snd_callSX hF hst ham hRk qw738 qw75 (by decide) (by decide +kernel) (by decide) qw737 qw736 (by decide +kernel)) ?_
  refine fmS (snd_istore hF (by decide) (by decide +kernel)) ?_
  refine fmS (snd_aloadn hF (k := 2) rfl (by decide +kernel)) ?_
  refine fmS (snd_aloadn hF (k := 0) rfl (by decide +kernel)) ?_
  refine fmS (snd_iload hF (by decide +kernel)) ?_
  refine fmS (snd_iconst hF (n := 1) rfl (by decide +kernel)) ?_
  refine fmS (snd_iadd hF (by decide +kernel)) ?_
  refine fmS (snd_sld hF hX hbl (by decide +kernel)) ?_
  refine fmS (snd_aloadn hF (k := 0) rfl (by decide +kernel)) ?_
  refine fmS (snd_iload hF (by decide +kernel)) ?_
  refine fmS (snd_iconst hF (n := 2) rfl (by decide +kernel)) ?_
  refine fmS (snd_iadd hF (by decide +kernel)) ?_
  refine fmS (snd_sld hF hX hbl (by decide +kernel)) ?_
  refine fmS (snd_aloadn hF (k := 0) rfl (by decide +kernel)) ?_
  refine fmS (snd_iload hF (by decide +kernel)) ?_
  refine fmS (snd_iconst hF (n := 3) rfl (by decide +kernel)) ?_
  refine fmS (snd_iadd hF (by decide +kernel)) ?_
  refine fmS (snd_sld hF hX hbl (by decide +kernel)) ?_
  refine fmS (snd_callGV hF hst ham hRk k_X10_setElement okX10 qw1308 qw1309 qw1310 (by decide +kernel)) ?_
  refine fmS (snd_istore hF (by decide) (by decide +kernel)) ?_
  refine fmS (snd_aloadn hF (k := 2) rfl (by decide +kernel)) ?_
  refine fmS (snd_callGV hF hst ham hRk k_X10_thrown okX10 qw1213 qw1214 qw1215 (by decide +kernel)) ?_
  refine fmS (snd_iload hF (by decide +kernel)) ?_
  refine fmS (snd_icmp_eq hF (off := 5) (by decide) (by decide +kernel)) ?_
  refine fmS (snd_iconst hF (n := 0) rfl (by decide +kernel)) ?_
  refine fmS (snd_lret hF hr (by decide +kernel)) ?_
  refine fmS (snd_iload hF (by decide +kernel)) ?_
  refine fmS (snd_if_ne hF (off := 15) (by decide) (by decide +kernel)) ?_
  refine fmS (snd_aloadn hF (k := 3) rfl (by decide +kernel)) ?_
  refine fmS (snd_iconst hF (n := 0) rfl (by decide +kernel)) ?_
  refine fmS (snd_laload hF (by decide +kernel)) ?_
  refine fmS (snd_iload hF (by decide +kernel)) ?_
  refine fmS (snd_i2l hF (by decide +kernel)) ?_
  refine fmS (snd_lcmp hF (by decide +kernel)) ?_
  refine fmS (snd_if_eq hF (off := 5) (by decide) (by decide +kernel)) ?_
  refine fmS (snd_iconst hF (n := 0) rfl (by decide +kernel)) ?_
  refine fmS (snd_lret hF hr (by decide +kernel)) ?_
  refine fmS (snd_goto hF (off := 1165) (by decide) (by decide +kernel)) ?_
  refine fmS (snd_aloadn hF (k := 1) rfl (by decide +kernel)) ?_
  refine fmS (snd_aloadn hF (k := 0) rfl (by decide +kernel)) ?_
  refine fmS (snd_iload hF (by decide +kernel)) ?_
  refine fmS (snd_iconst hF (n := 1) rfl (by decide +kernel)) ?_
  refine fmS (snd_iadd hF (by decide +kernel)) ?_
  refine fmS (snd_sld hF hX hbl (by decide +kernel)) ?_
  refine fmS (snd_aloadn hF (k := 0) rfl (by decide +kernel)) ?_
  refine fmS (snd_iload hF (by decide +kernel)) ?_
  refine fmS (snd_iconst hF (n := 2) rfl (by decide +kernel)) ?_
  refine fmS (snd_iadd hF (by decide +kernel)) ?_
  refine fmS (snd_sld hF hX hbl (by decide +kernel)) ?_
  refine fmS (snd_aloadn hF (k := 3) rfl (by decide +kernel)) ?_
  refine fmS (snd_callSX hF hst ham hRk qw766 qw75 (by decide) (by decide +kernel) (by decide) qw765 qw764 (by decide +kernel)) ?_
  exact fmE
def tL4 (b L : Nat) (xs : Nat → Int32) : List (Nat × OP) := [(511, oIst 6 513), (513, oAld 2 514), (514, oAld 0 515), (515, oIld 5 517), (517, oPush (.int 1) 518), (518, oI2 (fun x y => x + y) 519), (519, oSld b L xs 520), (520, oAld 0 521), (521, oIld 5 523), (523, oPush (.int 2) 524), (524, oI2 (fun x y => x + y) 525), (525, oSld b L xs 526), (526, oCallGV 2000 601024 7293034 0 0 yX10_fill (Cond.code yX10_fill cX10_fill 6 (some .int)) 2 10 529), (529, oIst 7 531), (531, oAld 2 532), (532, oCallGV 2000 601024 7293034 0 0 yX10_thrown (Cond.code yX10_thrown cX10_thrown 1 (some .int)) 0 10 535), (535, oIld 6 537), (537, oIc (fun x y => x = y) 542 540), (540, oPush (.int 0) 541), (541, oLret), (542, oIld 6 544), (544, oIf (fun x => x = 0) 547 559), (547, oAld 3 548), (548, oPush (.int 0) 549), (549, oAl 550), (550, oIld 7 552), (552, oIcv (fun x => .long x.toInt64) 553), (553, oLcmp 554), (554, oIf (fun x => x = 0) 559 557), (557, oPush (.int 0) 558), (558, oLret), (559, oGoto 1656), (562, oAld 1 563), (563, oAld 0 564), (564, oIld 5 566), (566, oPush (.int 1) 567), (567, oI2 (fun x y => x + y) 568), (568, oSld b L xs 569), (569, oAld 0 570), (570, oIld 5 572), (572, oPush (.int 2) 573), (573, oI2 (fun x y => x + y) 574), (574, oSld b L xs 575), (575, oAld 3 576), (576, oCallG 2000 601024 7293034 1 6 yL_element (Cond.codeWith yL_element cL_element 5 (some .int) [(0, 10, 13, 31)]) 4 579), (579, oIst 6 581), (581, oAld 2 582), (582, oAld 0 583), (583, oIld 5 585), (585, oPush (.int 1) 586), (586, oI2 (fun x y => x + y) 587), (587, oSld b L xs 588), (588, oAld 0 589), (589, oIld 5 591), (591, oPush (.int 2) 592), (592, oI2 (fun x y => x + y) 593), (593, oSld b L xs 594), (594, oCallGV 2000 601024 7293034 0 0 yX10_element (Cond.code yX10_element cX10_element 3 (some .int)) 2 10 597), (597, oIst 7 599), (599, oAld 2 600)]
set_option maxRecDepth 20000 in
theorem sL4 {p : Program} {l : Launch} {e : Env} {s : State} {m : MethodId} {below : List Frame} {meth : Method} {c : Code} {D : va_G} {cA : Nat → ClassId} {ad0 : Nat → Nat} {b L : Nat} {xs : Nat → Int32} (hF : Fx p s m #[Value.ref b] meth c D cA (fun q => s.heap.size ≤ q) 9 code R_law) (hst : l.stackTraces = false) (ham : Amb (fun q => s.heap.size ≤ q) s s.heap) (hX : va_X b L xs s s.heap) (hbl : b < s.heap.size) (hr : meth.sig.returnType = ret) (hRk : Rk 2000 601024 7293034 room_1) : ∀ q ∈ tL4 b L xs, Snd (jL p l e s m below meth c D cA ad0 b) q.1 q.2 := by
  have hts := hF.2.2.2.2.1
  unfold tL4
  refine fmS (snd_istore hF (by decide) (by decide +kernel)) ?_
  refine fmS (snd_aloadn hF (k := 2) rfl (by decide +kernel)) ?_
  refine fmS (snd_aloadn hF (k := 0) rfl (by decide +kernel)) ?_
  refine fmS (snd_iload hF (by decide +kernel)) ?_
  refine fmS (snd_iconst hF (n := 1) rfl (by decide +kernel)) ?_
  refine fmS (snd_iadd hF (by decide +kernel)) ?_
  refine fmS (snd_sld hF hX hbl (by decide +kernel)) ?_
  refine fmS (snd_aloadn hF (k := 0) rfl (by decide +kernel)) ?_
  refine fmS (snd_iload hF (by decide +kernel)) ?_
  refine fmS (snd_iconst hF (n := 2) rfl (by decide +kernel)) ?_
  refine fmS (snd_iadd hF (by decide +kernel)) ?_
  refine fmS (snd_sld hF hX hbl (by decide +kernel)) ?_
  refine fmS (snd_callGV hF hst ham hRk k_X10_fill okX10 qw1315 qw1316 qw1317 (by decide +kernel)) ?_
  refine fmS (snd_istore hF (by decide) (by decide +kernel)) ?_
  refine fmS (snd_aloadn hF (k := 2) rfl (by decide +kernel)) ?_
  refine fmS (snd_callGV hF hst ham hRk k_X10_thrown okX10 qw1213 qw1214 qw1215 (by decide +kernel)) ?_
  refine fmS (snd_iload hF (by decide +kernel)) ?_
  refine fmS (snd_icmp_eq hF (off := 5) (by decide) (by decide +kernel)) ?_
  refine fmS (snd_iconst hF (n := 0) rfl (by decide +kernel)) ?_
  refine fmS (snd_lret hF hr (by decide +kernel)) ?_
  refine fmS (snd_iload hF (by decide +kernel)) ?_
  refine fmS (snd_if_ne hF (off := 15) (by decide) (by decide +kernel)) ?_
  refine fmS (snd_aloadn hF (k := 3) rfl (by decide +kernel)) ?_
  refine fmS (snd_iconst hF (n := 0) rfl (by decide +kernel)) ?_
  refine fmS (snd_laload hF (by decide +kernel)) ?_
  refine fmS (snd_iload hF (by decide +kernel)) ?_
  refine fmS (snd_i2l hF (by decide +kernel)) ?_
  refine fmS (snd_lcmp hF (by decide +kernel)) ?_
  refine fmS (snd_if_eq hF (off := 5) (by decide) (by decide +kernel)) ?_
  refine fmS (snd_iconst hF (n := 0) rfl (by decide +kernel)) ?_
  refine fmS (snd_lret hF hr (by decide +kernel)) ?_
  refine fmS (snd_goto hF (off := 1097) (by decide) (by decide +kernel)) ?_
  refine fmS (snd_aloadn hF (k := 1) rfl (by decide +kernel)) ?_
  refine fmS (snd_aloadn hF (k := 0) rfl (by decide +kernel)) ?_
  refine fmS (snd_iload hF (by decide +kernel)) ?_
  refine fmS (snd_iconst hF (n := 1) rfl (by decide +kernel)) ?_
  refine fmS (snd_iadd hF (by decide +kernel)) ?_
  refine fmS (snd_sld hF hX hbl (by decide +kernel)) ?_
  refine fmS (snd_aloadn hF (k := 0) rfl (by decide +kernel)) ?_
  refine fmS (snd_iload hF (by decide +kernel)) ?_
  refine fmS (snd_iconst hF (n := 2) rfl (by decide +kernel)) ?_
  refine fmS (snd_iadd hF (by decide +kernel)) ?_
  refine fmS (snd_sld hF hX hbl (by decide +kernel)) ?_
  refine fmS (snd_aloadn hF (k := 3) rfl (by decide +kernel)) ?_
  refine fmS (snd_callSX hF hst ham hRk qw775 qw75 (by decide) (by decide +kernel) (by decide) qw774 qw773 (by decide +kernel)) ?_
  refine fmS (snd_istore hF (by decide) (by decide +kernel)) ?_
  refine fmS (snd_aloadn hF (k := 2) rfl (by decide +kernel)) ?_
  refine fmS (snd_aloadn hF (k := 0) rfl (by decide +kernel)) ?_
  refine fmS (snd_iload hF (by decide +kernel)) ?_
  refine fmS (snd_iconst hF (n := 1) rfl (by decide +kernel)) ?_
  refine fmS (snd_iadd hF (by decide +kernel)) ?_
  refine fmS (snd_sld hF hX hbl (by decide +kernel)) ?_
  refine fmS (snd_aloadn hF (k := 0) rfl (by decide +kernel)) ?_
  refine fmS (snd_iload hF (by decide +kernel)) ?_
  refine fmS (snd_iconst hF (n := 2) rfl (by decide +kernel)) ?_
  refine fmS (snd_iadd hF (by decide +kernel)) ?_
  refine fmS (snd_sld hF hX hbl (by decide +kernel)) ?_
  refine fmS (snd_callGV hF hst ham hRk k_X10_element okX10 qw1321 qw1322 qw1323 (by decide +kernel)) ?_
  refine fmS (snd_istore hF (by decide) (by decide +kernel)) ?_
  refine fmS (snd_aloadn hF (k := 2) rfl (by decide +kernel)) ?_
  exact fmE
def tL5 (b L : Nat) (xs : Nat → Int32) : List (Nat × OP) := [(600, oCallGV 2000 601024 7293034 0 0 yX10_thrown (Cond.code yX10_thrown cX10_thrown 1 (some .int)) 0 10 603), (603, oIld 6 605), (605, oIc (fun x y => x = y) 610 608), (608, oPush (.int 0) 609), (609, oLret), (610, oIld 6 612), (612, oIf (fun x => x = 0) 615 627), (615, oAld 3 616), (616, oPush (.int 0) 617), (617, oAl 618), (618, oIld 7 620), (620, oIcv (fun x => .long x.toInt64) 621), (621, oLcmp 622), (622, oIf (fun x => x = 0) 627 625), (625, oPush (.int 0) 626), (626, oLret), (627, oGoto 1656), (630, oAld 1 631), (631, oAld 0 632), (632, oIld 5 634), (634, oPush (.int 1) 635), (635, oI2 (fun x y => x + y) 636), (636, oSld b L xs 637), (637, oAld 0 638), (638, oIld 5 640), (640, oPush (.int 2) 641), (641, oI2 (fun x y => x + y) 642), (642, oSld b L xs 643), (643, oAld 3 644), (644, oCallG 2000 601024 7293034 2 12 yL_setInitial (Cond.codeWith yL_setInitial cL_setInitial 5 (some .int) [(0, 10, 13, 31), (0, 10, 17, 13)]) 4 647), (647, oIst 6 649), (649, oAld 2 650), (650, oAld 0 651), (651, oIld 5 653), (653, oPush (.int 1) 654), (654, oI2 (fun x y => x + y) 655), (655, oSld b L xs 656), (656, oAld 0 657), (657, oIld 5 659), (659, oPush (.int 2) 660), (660, oI2 (fun x y => x + y) 661), (661, oSld b L xs 662), (662, oCallGV 2000 601024 7293034 0 0 yX10_setInitial (Cond.code yX10_setInitial cX10_setInitial 4 (some .int)) 2 10 665), (665, oIst 7 667), (667, oAld 2 668), (668, oCallGV 2000 601024 7293034 0 0 yX10_thrown (Cond.code yX10_thrown cX10_thrown 1 (some .int)) 0 10 671), (671, oIld 6 673), (673, oIc (fun x y => x = y) 678 676), (676, oPush (.int 0) 677), (677, oLret), (678, oIld 6 680), (680, oIf (fun x => x = 0) 683 695), (683, oAld 3 684), (684, oPush (.int 0) 685), (685, oAl 686), (686, oIld 7 688), (688, oIcv (fun x => .long x.toInt64) 689), (689, oLcmp 690), (690, oIf (fun x => x = 0) 695 693), (693, oPush (.int 0) 694)]
set_option maxRecDepth 20000 in
theorem sL5 {p : Program} {l : Launch} {e : Env} {s : State} {m : MethodId} {below : List Frame} {meth : Method} {c : Code} {D : va_G} {cA : Nat → ClassId} {ad0 : Nat → Nat} {b L : Nat} {xs : Nat → Int32} (hF : Fx p s m #[Value.ref b] meth c D cA (fun q => s.heap.size ≤ q) 9 code R_law) (hst : l.stackTraces = false) (ham : Amb (fun q => s.heap.size ≤ q) s s.heap) (hX : va_X b L xs s s.heap) (hbl : b < s.heap.size) (hr : meth.sig.returnType = ret) (hRk : Rk 2000 601024 7293034 room_1) : ∀ q ∈ tL5 b L xs, Snd (jL p l e s m below meth c D cA ad0 b) q.1 q.2 := by
  have hts := hF.2.2.2.2.1
  unfold tL5
  refine fmS (snd_callGV hF hst ham hRk k_X10_thrown okX10 qw1213 qw1214 qw1215 (by decide +kernel)) ?_
  refine fmS (snd_iload hF (by decide +kernel)) ?_
  refine fmS (snd_icmp_eq hF (off := 5) (by decide) (by decide +kernel)) ?_
  refine fmS (snd_iconst hF (n := 0) rfl (by decide +kernel)) ?_
  refine fmS (snd_lret hF hr (by decide +kernel)) ?_
  refine fmS (snd_iload hF (by decide +kernel)) ?_
  refine fmS (snd_if_ne hF (off := 15) (by decide) (by decide +kernel)) ?_
  refine fmS (snd_aloadn hF (k := 3) rfl (by decide +kernel)) ?_
  refine fmS (snd_iconst hF (n := 0) rfl (by decide +kernel)) ?_
  refine fmS (snd_laload hF (by decide +kernel)) ?_
  refine fmS (snd_iload hF (by decide +kernel)) ?_
  refine fmS (snd_i2l hF (by decide +kernel)) ?_
  refine fmS (snd_lcmp hF (by decide +kernel)) ?_
  refine fmS (snd_if_eq hF (off := 5) (by decide) (by decide +kernel)) ?_
  refine fmS (snd_iconst hF (n := 0) rfl (by decide +kernel)) ?_
  refine fmS (snd_lret hF hr (by decide +kernel)) ?_
  refine fmS (snd_goto hF (off := 1029) (by decide) (by decide +kernel)) ?_
  refine fmS (snd_aloadn hF (k := 1) rfl (by decide +kernel)) ?_
  refine fmS (snd_aloadn hF (k := 0) rfl (by decide +kernel)) ?_
  refine fmS (snd_iload hF (by decide +kernel)) ?_
  refine fmS (snd_iconst hF (n := 1) rfl (by decide +kernel)) ?_
  refine fmS (snd_iadd hF (by decide +kernel)) ?_
  refine fmS (snd_sld hF hX hbl (by decide +kernel)) ?_
  refine fmS (snd_aloadn hF (k := 0) rfl (by decide +kernel)) ?_
  refine fmS (snd_iload hF (by decide +kernel)) ?_
  refine fmS (snd_iconst hF (n := 2) rfl (by decide +kernel)) ?_
  refine fmS (snd_iadd hF (by decide +kernel)) ?_
  refine fmS (snd_sld hF hX hbl (by decide +kernel)) ?_
  refine fmS (snd_aloadn hF (k := 3) rfl (by decide +kernel)) ?_
  refine fmS (snd_callSX hF hst ham hRk qw782 qw75 (by decide) (by decide +kernel) (by decide) qw781 qw780 (by decide +kernel)) ?_
  refine fmS (snd_istore hF (by decide) (by decide +kernel)) ?_
  refine fmS (snd_aloadn hF (k := 2) rfl (by decide +kernel)) ?_
  refine fmS (snd_aloadn hF (k := 0) rfl (by decide +kernel)) ?_
  refine fmS (snd_iload hF (by decide +kernel)) ?_
  refine fmS (snd_iconst hF (n := 1) rfl (by decide +kernel)) ?_
  refine fmS (snd_iadd hF (by decide +kernel)) ?_
  refine fmS (snd_sld hF hX hbl (by decide +kernel)) ?_
  refine fmS (snd_aloadn hF (k := 0) rfl (by decide +kernel)) ?_
  refine fmS (snd_iload hF (by decide +kernel)) ?_
  refine fmS (snd_iconst hF (n := 2) rfl (by decide +kernel)) ?_
  refine fmS (snd_iadd hF (by decide +kernel)) ?_
  refine fmS (snd_sld hF hX hbl (by decide +kernel)) ?_
  refine fmS (snd_callGV hF hst ham hRk k_X10_setInitial okX10 qw1325 qw1326 qw1327 (by decide +kernel)) ?_
  refine fmS (snd_istore hF (by decide) (by decide +kernel)) ?_
  refine fmS (snd_aloadn hF (k := 2) rfl (by decide +kernel)) ?_
  refine fmS (snd_callGV hF hst ham hRk k_X10_thrown okX10 qw1213 qw1214 qw1215 (by decide +kernel)) ?_
  refine fmS (snd_iload hF (by decide +kernel)) ?_
  refine fmS (snd_icmp_eq hF (off := 5) (by decide) (by decide +kernel)) ?_
  refine fmS (snd_iconst hF (n := 0) rfl (by decide +kernel)) ?_
  refine fmS (snd_lret hF hr (by decide +kernel)) ?_
  refine fmS (snd_iload hF (by decide +kernel)) ?_
  refine fmS (snd_if_ne hF (off := 15) (by decide) (by decide +kernel)) ?_
  refine fmS (snd_aloadn hF (k := 3) rfl (by decide +kernel)) ?_
  refine fmS (snd_iconst hF (n := 0) rfl (by decide +kernel)) ?_
  refine fmS (snd_laload hF (by decide +kernel)) ?_
  refine fmS (snd_iload hF (by decide +kernel)) ?_
  refine fmS (snd_i2l hF (by decide +kernel)) ?_
  refine fmS (snd_lcmp hF (by decide +kernel)) ?_
  refine fmS (snd_if_eq hF (off := 5) (by decide) (by decide +kernel)) ?_
  refine fmS (snd_iconst hF (n := 0) rfl (by decide +kernel)) ?_
  exact fmE
def tL6 (b L : Nat) (xs : Nat → Int32) : List (Nat × OP) := [(694, oLret), (695, oGoto 1656), (698, oAld 1 699), (699, oAld 0 700), (700, oIld 5 702), (702, oPush (.int 1) 703), (703, oI2 (fun x y => x + y) 704), (704, oSld b L xs 705), (705, oAld 3 706), (706, oCallG 2000 601024 7293034 1 6 yL_kind (Cond.codeWith yL_kind cL_kind 4 (some .int) [(0, 9, 12, 31)]) 3 709), (709, oIst 6 711), (711, oAld 2 712), (712, oAld 0 713), (713, oIld 5 715), (715, oPush (.int 1) 716), (716, oI2 (fun x y => x + y) 717), (717, oSld b L xs 718), (718, oCallGV 2000 601024 7293034 0 0 yX10_kind (Cond.code yX10_kind cX10_kind 2 (some .int)) 1 10 721), (721, oIst 7 723), (723, oAld 2 724), (724, oCallGV 2000 601024 7293034 0 0 yX10_thrown (Cond.code yX10_thrown cX10_thrown 1 (some .int)) 0 10 727), (727, oIld 6 729), (729, oIc (fun x y => x = y) 734 732), (732, oPush (.int 0) 733), (733, oLret), (734, oIld 6 736), (736, oIf (fun x => x = 0) 739 751), (739, oAld 3 740), (740, oPush (.int 0) 741), (741, oAl 742), (742, oIld 7 744), (744, oIcv (fun x => .long x.toInt64) 745), (745, oLcmp 746), (746, oIf (fun x => x = 0) 751 749), (749, oPush (.int 0) 750), (750, oLret), (751, oGoto 1656), (754, oAld 1 755), (755, oAld 0 756), (756, oIld 5 758), (758, oPush (.int 1) 759), (759, oI2 (fun x y => x + y) 760), (760, oSld b L xs 761), (761, oAld 3 762), (762, oCallG 2000 601024 7293034 2 12 yL_operator (Cond.codeWith yL_operator cL_operator 4 (some .int) [(0, 9, 12, 31), (0, 9, 15, 49)]) 3 765), (765, oIst 6 767), (767, oAld 2 768), (768, oAld 0 769), (769, oIld 5 771), (771, oPush (.int 1) 772), (772, oI2 (fun x y => x + y) 773), (773, oSld b L xs 774), (774, oCallGV 2000 601024 7293034 0 0 yX10_operator (Cond.code yX10_operator cX10_operator 2 (some .int)) 1 10 777), (777, oIst 7 779), (779, oAld 2 780), (780, oCallGV 2000 601024 7293034 0 0 yX10_thrown (Cond.code yX10_thrown cX10_thrown 1 (some .int)) 0 10 783), (783, oIld 6 785), (785, oIc (fun x y => x = y) 790 788), (788, oPush (.int 0) 789), (789, oLret)]
set_option maxRecDepth 20000 in
theorem sL6 {p : Program} {l : Launch} {e : Env} {s : State} {m : MethodId} {below : List Frame} {meth : Method} {c : Code} {D : va_G} {cA : Nat → ClassId} {ad0 : Nat → Nat} {b L : Nat} {xs : Nat → Int32} (hF : Fx p s m #[Value.ref b] meth c D cA (fun q => s.heap.size ≤ q) 9 code R_law) (hst : l.stackTraces = false) (ham : Amb (fun q => s.heap.size ≤ q) s s.heap) (hX : va_X b L xs s s.heap) (hbl : b < s.heap.size) (hr : meth.sig.returnType = ret) (hRk : Rk 2000 601024 7293034 room_1) : ∀ q ∈ tL6 b L xs, Snd (jL p l e s m below meth c D cA ad0 b) q.1 q.2 := by
  have hts := hF.2.2.2.2.1
  unfold tL6
  refine fmS (snd_lret hF hr (by decide +kernel)) ?_
  refine fmS (snd_goto hF (off := 961) (by decide) (by decide +kernel)) ?_
  refine fmS (snd_aloadn hF (k := 1) rfl (by decide +kernel)) ?_
  refine fmS (snd_aloadn hF (k := 0) rfl (by decide +kernel)) ?_
  refine fmS (snd_iload hF (by decide +kernel)) ?_
  refine fmS (snd_iconst hF (n := 1) rfl (by decide +kernel)) ?_
  refine fmS (snd_iadd hF (by decide +kernel)) ?_
  refine fmS (snd_sld hF hX hbl (by decide +kernel)) ?_
  refine fmS (snd_aloadn hF (k := 3) rfl (by decide +kernel)) ?_
  refine fmS (snd_callSX hF hst ham hRk qw793 qw75 (by decide) (by decide +kernel) (by decide) qw792 qw791 (by decide +kernel)) ?_
  refine fmS (snd_istore hF (by decide) (by decide +kernel)) ?_
  refine fmS (snd_aloadn hF (k := 2) rfl (by decide +kernel)) ?_
  refine fmS (snd_aloadn hF (k := 0) rfl (by decide +kernel)) ?_
  refine fmS (snd_iload hF (by decide +kernel)) ?_
  refine fmS (snd_iconst hF (n := 1) rfl (by decide +kernel)) ?_
  refine fmS (snd_iadd hF (by decide +kernel)) ?_
  refine fmS (snd_sld hF hX hbl (by decide +kernel)) ?_
  refine fmS (snd_callGV hF hst ham hRk k_X10_kind okX10 qw1332 qw1333 qw1334 (by decide +kernel)) ?_
  refine fmS (snd_istore hF (by decide) (by decide +kernel)) ?_
  refine fmS (snd_aloadn hF (k := 2) rfl (by decide +kernel)) ?_
  refine fmS (snd_callGV hF hst ham hRk k_X10_thrown okX10 qw1213 qw1214 qw1215 (by decide +kernel)) ?_
  refine fmS (snd_iload hF (by decide +kernel)) ?_
  refine fmS (snd_icmp_eq hF (off := 5) (by decide) (by decide +kernel)) ?_
  refine fmS (snd_iconst hF (n := 0) rfl (by decide +kernel)) ?_
  refine fmS (snd_lret hF hr (by decide +kernel)) ?_
  refine fmS (snd_iload hF (by decide +kernel)) ?_
  refine fmS (snd_if_ne hF (off := 15) (by decide) (by decide +kernel)) ?_
  refine fmS (snd_aloadn hF (k := 3) rfl (by decide +kernel)) ?_
  refine fmS (snd_iconst hF (n := 0) rfl (by decide +kernel)) ?_
  refine fmS (snd_laload hF (by decide +kernel)) ?_
  refine fmS (snd_iload hF (by decide +kernel)) ?_
  refine fmS (snd_i2l hF (by decide +kernel)) ?_
  refine fmS (snd_lcmp hF (by decide +kernel)) ?_
  refine fmS (snd_if_eq hF (off := 5) (by decide) (by decide +kernel)) ?_
  refine fmS (snd_iconst hF (n := 0) rfl (by decide +kernel)) ?_
  refine fmS (snd_lret hF hr (by decide +kernel)) ?_
  refine fmS (snd_goto hF (off := 905) (by decide) (by decide +kernel)) ?_
  refine fmS (snd_aloadn hF (k := 1) rfl (by decide +kernel)) ?_
  refine fmS (snd_aloadn hF (k := 0) rfl (by decide +kernel)) ?_
  refine fmS (snd_iload hF (by decide +kernel)) ?_
  refine fmS (snd_iconst hF (n := 1) rfl (by decide +kernel)) ?_
  refine fmS (snd_iadd hF (by decide +kernel)) ?_
  refine fmS (snd_sld hF hX hbl (by decide +kernel)) ?_
  refine fmS (snd_aloadn hF (k := 3) rfl (by decide +kernel)) ?_
  refine fmS (snd_callSX hF hst ham hRk qw800 qw75 (by decide) (by decide +kernel) (by decide) qw799 qw798 (by decide +kernel)) ?_
  refine fmS (snd_istore hF (by decide) (by decide +kernel)) ?_
  refine fmS (snd_aloadn hF (k := 2) rfl (by decide +kernel)) ?_
  refine fmS (snd_aloadn hF (k := 0) rfl (by decide +kernel)) ?_
  refine fmS (snd_iload hF (by decide +kernel)) ?_
  refine fmS (snd_iconst hF (n := 1) rfl (by decide +kernel)) ?_
  refine fmS (snd_iadd hF (by decide +kernel)) ?_
  refine fmS (snd_sld hF hX hbl (by decide +kernel)) ?_
  refine fmS (snd_callGV hF hst ham hRk k_X10_operator okX10 qw1372 qw1373 qw1374 (by decide +kernel)) ?_
  refine fmS (snd_istore hF (by decide) (by decide +kernel)) ?_
  refine fmS (snd_aloadn hF (k := 2) rfl (by decide +kernel)) ?_
  refine fmS (snd_callGV hF hst ham hRk k_X10_thrown okX10 qw1213 qw1214 qw1215 (by decide +kernel)) ?_
  refine fmS (snd_iload hF (by decide +kernel)) ?_
  refine fmS (snd_icmp_eq hF (off := 5) (by decide) (by decide +kernel)) ?_
  refine fmS (snd_iconst hF (n := 0) rfl (by decide +kernel)) ?_
  refine fmS (snd_lret hF hr (by decide +kernel)) ?_
  exact fmE
def tL7 (b L : Nat) (xs : Nat → Int32) : List (Nat × OP) := [(790, oIld 6 792), (792, oIf (fun x => x = 0) 795 807), (795, oAld 3 796), (796, oPush (.int 0) 797), (797, oAl 798), (798, oIld 7 800), (800, oIcv (fun x => .long x.toInt64) 801), (801, oLcmp 802), (802, oIf (fun x => x = 0) 807 805), (805, oPush (.int 0) 806), (806, oLret), (807, oGoto 1656), (810, oAld 1 811), (811, oAld 0 812), (812, oIld 5 814), (814, oPush (.int 1) 815), (815, oI2 (fun x y => x + y) 816), (816, oSld b L xs 817), (817, oAld 3 818), (818, oCallG 2000 601024 7293034 2 12 yL_terms (Cond.codeWith yL_terms cL_terms 4 (some .int) [(0, 9, 12, 31), (0, 9, 15, 49)]) 3 821), (821, oIst 6 823), (823, oAld 2 824), (824, oAld 0 825), (825, oIld 5 827), (827, oPush (.int 1) 828), (828, oI2 (fun x y => x + y) 829), (829, oSld b L xs 830), (830, oCallGV 2000 601024 7293034 0 0 yX10_terms (Cond.code yX10_terms cX10_terms 2 (some .int)) 1 10 833), (833, oIst 7 835), (835, oAld 2 836), (836, oCallGV 2000 601024 7293034 0 0 yX10_thrown (Cond.code yX10_thrown cX10_thrown 1 (some .int)) 0 10 839), (839, oIld 6 841), (841, oIc (fun x y => x = y) 846 844), (844, oPush (.int 0) 845), (845, oLret), (846, oIld 6 848), (848, oIf (fun x => x = 0) 851 863), (851, oAld 3 852), (852, oPush (.int 0) 853), (853, oAl 854), (854, oIld 7 856), (856, oIcv (fun x => .long x.toInt64) 857), (857, oLcmp 858), (858, oIf (fun x => x = 0) 863 861), (861, oPush (.int 0) 862), (862, oLret), (863, oGoto 1656), (866, oAld 1 867), (867, oAld 0 868), (868, oIld 5 870), (870, oPush (.int 1) 871), (871, oI2 (fun x y => x + y) 872), (872, oSld b L xs 873), (873, oAld 3 874), (874, oCallG 2000 601024 7293034 1 6 yL_depends (Cond.codeWith yL_depends cL_depends 4 (some .int) [(0, 9, 12, 31)]) 3 877), (877, oIst 6 879), (879, oAld 2 880), (880, oAld 0 881), (881, oIld 5 883), (883, oPush (.int 1) 884)]
set_option maxRecDepth 20000 in
theorem sL7 {p : Program} {l : Launch} {e : Env} {s : State} {m : MethodId} {below : List Frame} {meth : Method} {c : Code} {D : va_G} {cA : Nat → ClassId} {ad0 : Nat → Nat} {b L : Nat} {xs : Nat → Int32} (hF : Fx p s m #[Value.ref b] meth c D cA (fun q => s.heap.size ≤ q) 9 code R_law) (hst : l.stackTraces = false) (ham : Amb (fun q => s.heap.size ≤ q) s s.heap) (hX : va_X b L xs s s.heap) (hbl : b < s.heap.size) (hr : meth.sig.returnType = ret) (hRk : Rk 2000 601024 7293034 room_1) : ∀ q ∈ tL7 b L xs, Snd (jL p l e s m below meth c D cA ad0 b) q.1 q.2 := by
  have hts := hF.2.2.2.2.1
  unfold tL7
  refine fmS (snd_iload hF (by decide +kernel)) ?_
  refine fmS (snd_if_ne hF (off := 15) (by decide) (by decide +kernel)) ?_
  refine fmS (snd_aloadn hF (k := 3) rfl (by decide +kernel)) ?_
  refine fmS (snd_iconst hF (n := 0) rfl (by decide +kernel)) ?_
  refine fmS (snd_laload hF (by decide +kernel)) ?_
  refine fmS (snd_iload hF (by decide +kernel)) ?_
  refine fmS (snd_i2l hF (by decide +kernel)) ?_
  refine fmS (snd_lcmp hF (by decide +kernel)) ?_
  refine fmS (snd_if_eq hF (off := 5) (by decide) (by decide +kernel)) ?_
  refine fmS (snd_iconst hF (n := 0) rfl (by decide +kernel)) ?_
  refine fmS (snd_lret hF hr (by decide +kernel)) ?_
  refine fmS (snd_goto hF (off := 849) (by decide) (by decide +kernel)) ?_
  refine fmS (snd_aloadn hF (k := 1) rfl (by decide +kernel)) ?_
  refine fmS (snd_aloadn hF (k := 0) rfl (by decide +kernel)) ?_
  refine fmS (snd_iload hF (by decide +kernel)) ?_
  refine fmS (snd_iconst hF (n := 1) rfl (by decide +kernel)) ?_
  refine fmS (snd_iadd hF (by decide +kernel)) ?_
  refine fmS (snd_sld hF hX hbl (by decide +kernel)) ?_
  refine fmS (snd_aloadn hF (k := 3) rfl (by decide +kernel)) ?_
  refine fmS (snd_callSX hF hst ham hRk qw828 qw75 (by decide) (by decide +kernel) (by decide) qw827 qw826 (by decide +kernel)) ?_
  refine fmS (snd_istore hF (by decide) (by decide +kernel)) ?_
  refine fmS (snd_aloadn hF (k := 2) rfl (by decide +kernel)) ?_
  refine fmS (snd_aloadn hF (k := 0) rfl (by decide +kernel)) ?_
  refine fmS (snd_iload hF (by decide +kernel)) ?_
  refine fmS (snd_iconst hF (n := 1) rfl (by decide +kernel)) ?_
  refine fmS (snd_iadd hF (by decide +kernel)) ?_
  refine fmS (snd_sld hF hX hbl (by decide +kernel)) ?_
  refine fmS (snd_callGV hF hst ham hRk k_X10_terms okX10 qw1380 qw1381 qw1382 (by decide +kernel)) ?_
  refine fmS (snd_istore hF (by decide) (by decide +kernel)) ?_
  refine fmS (snd_aloadn hF (k := 2) rfl (by decide +kernel)) ?_
  refine fmS (snd_callGV hF hst ham hRk k_X10_thrown okX10 qw1213 qw1214 qw1215 (by decide +kernel)) ?_
  refine fmS (snd_iload hF (by decide +kernel)) ?_
  refine fmS (snd_icmp_eq hF (off := 5) (by decide) (by decide +kernel)) ?_
  refine fmS (snd_iconst hF (n := 0) rfl (by decide +kernel)) ?_
  refine fmS (snd_lret hF hr (by decide +kernel)) ?_
  refine fmS (snd_iload hF (by decide +kernel)) ?_
  refine fmS (snd_if_ne hF (off := 15) (by decide) (by decide +kernel)) ?_
  refine fmS (snd_aloadn hF (k := 3) rfl (by decide +kernel)) ?_
  refine fmS (snd_iconst hF (n := 0) rfl (by decide +kernel)) ?_
  refine fmS (snd_laload hF (by decide +kernel)) ?_
  refine fmS (snd_iload hF (by decide +kernel)) ?_
  refine fmS (snd_i2l hF (by decide +kernel)) ?_
  refine fmS (snd_lcmp hF (by decide +kernel)) ?_
  refine fmS (snd_if_eq hF (off := 5) (by decide) (by decide +kernel)) ?_
  refine fmS (snd_iconst hF (n := 0) rfl (by decide +kernel)) ?_
  refine fmS (snd_lret hF hr (by decide +kernel)) ?_
  refine fmS (snd_goto hF (off := 793) (by decide) (by decide +kernel)) ?_
  refine fmS (snd_aloadn hF (k := 1) rfl (by decide +kernel)) ?_
  refine fmS (snd_aloadn hF (k := 0) rfl (by decide +kernel)) ?_
  refine fmS (snd_iload hF (by decide +kernel)) ?_
  refine fmS (snd_iconst hF (n := 1) rfl (by decide +kernel)) ?_
  refine fmS (snd_iadd hF (by decide +kernel)) ?_
  refine fmS (snd_sld hF hX hbl (by decide +kernel)) ?_
  refine fmS (snd_aloadn hF (k := 3) rfl (by decide +kernel)) ?_
  refine fmS (snd_callSX hF hst ham hRk qw835 qw75 (by decide) (by decide +kernel) (by decide) qw834 qw833 (by decide +kernel)) ?_
  refine fmS (snd_istore hF (by decide) (by decide +kernel)) ?_
  refine fmS (snd_aloadn hF (k := 2) rfl (by decide +kernel)) ?_
  refine fmS (snd_aloadn hF (k := 0) rfl (by decide +kernel)) ?_
  refine fmS (snd_iload hF (by decide +kernel)) ?_
  refine fmS (snd_iconst hF (n := 1) rfl (by decide +kernel)) ?_
  exact fmE
def tL8 (b L : Nat) (xs : Nat → Int32) : List (Nat × OP) := [(884, oI2 (fun x y => x + y) 885), (885, oSld b L xs 886), (886, oCallGV 2000 601024 7293034 0 0 yX10_depends (Cond.code yX10_depends cX10_depends 4 (some .int)) 1 10 889), (889, oIst 7 891), (891, oAld 2 892), (892, oCallGV 2000 601024 7293034 0 0 yX10_thrown (Cond.code yX10_thrown cX10_thrown 1 (some .int)) 0 10 895), (895, oIld 6 897), (897, oIc (fun x y => x = y) 902 900), (900, oPush (.int 0) 901), (901, oLret), (902, oIld 6 904), (904, oIf (fun x => x = 0) 907 919), (907, oAld 3 908), (908, oPush (.int 0) 909), (909, oAl 910), (910, oIld 7 912), (912, oIcv (fun x => .long x.toInt64) 913), (913, oLcmp 914), (914, oIf (fun x => x = 0) 919 917), (917, oPush (.int 0) 918), (918, oLret), (919, oGoto 1656), (922, oAld 1 923), (923, oAld 0 924), (924, oIld 5 926), (926, oPush (.int 1) 927), (927, oI2 (fun x y => x + y) 928), (928, oSld b L xs 929), (929, oAld 3 930), (930, oCallG 2000 601024 7293034 1 6 yL_nodes (Cond.codeWith yL_nodes cL_nodes 4 (some .int) [(0, 9, 12, 31)]) 3 933), (933, oIst 6 935), (935, oAld 2 936), (936, oAld 0 937), (937, oIld 5 939), (939, oPush (.int 1) 940), (940, oI2 (fun x y => x + y) 941), (941, oSld b L xs 942), (942, oCallGV 2000 601024 7293034 0 0 yX10_nodes (Cond.code yX10_nodes cX10_nodes 2 (some .int)) 1 10 945), (945, oIst 7 947), (947, oAld 2 948), (948, oCallGV 2000 601024 7293034 0 0 yX10_thrown (Cond.code yX10_thrown cX10_thrown 1 (some .int)) 0 10 951), (951, oIld 6 953), (953, oIc (fun x y => x = y) 958 956), (956, oPush (.int 0) 957), (957, oLret), (958, oIld 6 960), (960, oIf (fun x => x = 0) 963 975), (963, oAld 3 964), (964, oPush (.int 0) 965), (965, oAl 966), (966, oIld 7 968), (968, oIcv (fun x => .long x.toInt64) 969), (969, oLcmp 970), (970, oIf (fun x => x = 0) 975 973), (973, oPush (.int 0) 974), (974, oLret), (975, oGoto 1656), (978, oAld 1 979), (979, oAld 0 980), (980, oIld 5 982)]
set_option maxRecDepth 20000 in
theorem sL8 {p : Program} {l : Launch} {e : Env} {s : State} {m : MethodId} {below : List Frame} {meth : Method} {c : Code} {D : va_G} {cA : Nat → ClassId} {ad0 : Nat → Nat} {b L : Nat} {xs : Nat → Int32} (hF : Fx p s m #[Value.ref b] meth c D cA (fun q => s.heap.size ≤ q) 9 code R_law) (hst : l.stackTraces = false) (ham : Amb (fun q => s.heap.size ≤ q) s s.heap) (hX : va_X b L xs s s.heap) (hbl : b < s.heap.size) (hr : meth.sig.returnType = ret) (hRk : Rk 2000 601024 7293034 room_1) : ∀ q ∈ tL8 b L xs, Snd (jL p l e s m below meth c D cA ad0 b) q.1 q.2 := by
  have hts := hF.2.2.2.2.1
  unfold tL8
  refine fmS (snd_iadd hF (by decide +kernel)) ?_
  refine fmS (snd_sld hF hX hbl (by decide +kernel)) ?_
  refine fmS (snd_callGV hF hst ham hRk k_X10_depends okX10 qw1384 qw1385 qw1386 (by decide +kernel)) ?_
  refine fmS (snd_istore hF (by decide) (by decide +kernel)) ?_
  refine fmS (snd_aloadn hF (k := 2) rfl (by decide +kernel)) ?_
  refine fmS (snd_callGV hF hst ham hRk k_X10_thrown okX10 qw1213 qw1214 qw1215 (by decide +kernel)) ?_
  refine fmS (snd_iload hF (by decide +kernel)) ?_
  refine fmS (snd_icmp_eq hF (off := 5) (by decide) (by decide +kernel)) ?_
  refine fmS (snd_iconst hF (n := 0) rfl (by decide +kernel)) ?_
  refine fmS (snd_lret hF hr (by decide +kernel)) ?_
  refine fmS (snd_iload hF (by decide +kernel)) ?_
  refine fmS (snd_if_ne hF (off := 15) (by decide) (by decide +kernel)) ?_
  refine fmS (snd_aloadn hF (k := 3) rfl (by decide +kernel)) ?_
  refine fmS (snd_iconst hF (n := 0) rfl (by decide +kernel)) ?_
  refine fmS (snd_laload hF (by decide +kernel)) ?_
  refine fmS (snd_iload hF (by decide +kernel)) ?_
  refine fmS (snd_i2l hF (by decide +kernel)) ?_
  refine fmS (snd_lcmp hF (by decide +kernel)) ?_
  refine fmS (snd_if_eq hF (off := 5) (by decide) (by decide +kernel)) ?_
  refine fmS (snd_iconst hF (n := 0) rfl (by decide +kernel)) ?_
  refine fmS (snd_lret hF hr (by decide +kernel)) ?_
  refine fmS (snd_goto hF (off := 737) (by decide) (by decide +kernel)) ?_
  refine fmS (snd_aloadn hF (k := 1) rfl (by decide +kernel)) ?_
  refine fmS (snd_aloadn hF (k := 0) rfl (by decide +kernel)) ?_
  refine fmS (snd_iload hF (by decide +kernel)) ?_
  refine fmS (snd_iconst hF (n := 1) rfl (by decide +kernel)) ?_
  refine fmS (snd_iadd hF (by decide +kernel)) ?_
  refine fmS (snd_sld hF hX hbl (by decide +kernel)) ?_
  refine fmS (snd_aloadn hF (k := 3) rfl (by decide +kernel)) ?_
  refine fmS (snd_callSX hF hst ham hRk qw842 qw75 (by decide) (by decide +kernel) (by decide) qw841 qw840 (by decide +kernel)) ?_
  refine fmS (snd_istore hF (by decide) (by decide +kernel)) ?_
  refine fmS (snd_aloadn hF (k := 2) rfl (by decide +kernel)) ?_
  refine fmS (snd_aloadn hF (k := 0) rfl (by decide +kernel)) ?_
  refine fmS (snd_iload hF (by decide +kernel)) ?_
  refine fmS (snd_iconst hF (n := 1) rfl (by decide +kernel)) ?_
  refine fmS (snd_iadd hF (by decide +kernel)) ?_
  refine fmS (snd_sld hF hX hbl (by decide +kernel)) ?_
  refine fmS (snd_callGV hF hst ham hRk k_X10_nodes okX10 qw1388 qw1389 qw1390 (by decide +kernel)) ?_
  refine fmS (snd_istore hF (by decide) (by decide +kernel)) ?_
  refine fmS (snd_aloadn hF (k := 2) rfl (by decide +kernel)) ?_
  refine fmS (snd_callGV hF hst ham hRk k_X10_thrown okX10 qw1213 qw1214 qw1215 (by decide +kernel)) ?_
  refine fmS (snd_iload hF (by decide +kernel)) ?_
  refine fmS (snd_icmp_eq hF (off := 5) (by decide) (by decide +kernel)) ?_
  refine fmS (snd_iconst hF (n := 0) rfl (by decide +kernel)) ?_
  refine fmS (snd_lret hF hr (by decide +kernel)) ?_
  refine fmS (snd_iload hF (by decide +kernel)) ?_
  refine fmS (snd_if_ne hF (off := 15) (by decide) (by decide +kernel)) ?_
  refine fmS (snd_aloadn hF (k := 3) rfl (by decide +kernel)) ?_
  refine fmS (snd_iconst hF (n := 0) rfl (by decide +kernel)) ?_
  refine fmS (snd_laload hF (by decide +kernel)) ?_
  refine fmS (snd_iload hF (by decide +kernel)) ?_
  refine fmS (snd_i2l hF (by decide +kernel)) ?_
  refine fmS (snd_lcmp hF (by decide +kernel)) ?_
  refine fmS (snd_if_eq hF (off := 5) (by decide) (by decide +kernel)) ?_
  refine fmS (snd_iconst hF (n := 0) rfl (by decide +kernel)) ?_
  refine fmS (snd_lret hF hr (by decide +kernel)) ?_
  refine fmS (snd_goto hF (off := 681) (by decide) (by decide +kernel)) ?_
  refine fmS (snd_aloadn hF (k := 1) rfl (by decide +kernel)) ?_
  refine fmS (snd_aloadn hF (k := 0) rfl (by decide +kernel)) ?_
  refine fmS (snd_iload hF (by decide +kernel)) ?_
  exact fmE
def tL9 (b L : Nat) (xs : Nat → Int32) : List (Nat × OP) := [(982, oPush (.int 1) 983), (983, oI2 (fun x y => x + y) 984), (984, oSld b L xs 985), (985, oAld 3 986), (986, oCallG 2000 601024 7293034 1 6 yL_height (Cond.codeWith yL_height cL_height 4 (some .int) [(0, 9, 12, 31)]) 3 989), (989, oIst 6 991), (991, oAld 2 992), (992, oAld 0 993), (993, oIld 5 995), (995, oPush (.int 1) 996), (996, oI2 (fun x y => x + y) 997), (997, oSld b L xs 998), (998, oCallGV 2000 601024 7293034 0 0 yX10_height (Cond.code yX10_height cX10_height 2 (some .int)) 1 10 1001), (1001, oIst 7 1003), (1003, oAld 2 1004), (1004, oCallGV 2000 601024 7293034 0 0 yX10_thrown (Cond.code yX10_thrown cX10_thrown 1 (some .int)) 0 10 1007), (1007, oIld 6 1009), (1009, oIc (fun x y => x = y) 1014 1012), (1012, oPush (.int 0) 1013), (1013, oLret), (1014, oIld 6 1016), (1016, oIf (fun x => x = 0) 1019 1031), (1019, oAld 3 1020), (1020, oPush (.int 0) 1021), (1021, oAl 1022), (1022, oIld 7 1024), (1024, oIcv (fun x => .long x.toInt64) 1025), (1025, oLcmp 1026), (1026, oIf (fun x => x = 0) 1031 1029), (1029, oPush (.int 0) 1030), (1030, oLret), (1031, oGoto 1656), (1034, oAld 1 1035), (1035, oAld 0 1036), (1036, oIld 5 1038), (1038, oPush (.int 1) 1039), (1039, oI2 (fun x y => x + y) 1040), (1040, oSld b L xs 1041), (1041, oAld 3 1042), (1042, oCallG 2000 601024 7293034 1 6 yL_open (Cond.codeWith yL_open cL_open 4 (some .int) [(0, 9, 12, 31)]) 3 1045), (1045, oIst 6 1047), (1047, oAld 2 1048), (1048, oAld 0 1049), (1049, oIld 5 1051), (1051, oPush (.int 1) 1052), (1052, oI2 (fun x y => x + y) 1053), (1053, oSld b L xs 1054), (1054, oCallGV 2000 601024 7293034 0 0 yX10_open (Cond.code yX10_open cX10_open 2 (some .int)) 1 10 1057), (1057, oIst 7 1059), (1059, oAld 2 1060), (1060, oCallGV 2000 601024 7293034 0 0 yX10_thrown (Cond.code yX10_thrown cX10_thrown 1 (some .int)) 0 10 1063), (1063, oIld 6 1065), (1065, oIc (fun x y => x = y) 1070 1068), (1068, oPush (.int 0) 1069), (1069, oLret), (1070, oIld 6 1072), (1072, oIf (fun x => x = 0) 1075 1087), (1075, oAld 3 1076), (1076, oPush (.int 0) 1077), (1077, oAl 1078)]
set_option maxRecDepth 20000 in
theorem sL9 {p : Program} {l : Launch} {e : Env} {s : State} {m : MethodId} {below : List Frame} {meth : Method} {c : Code} {D : va_G} {cA : Nat → ClassId} {ad0 : Nat → Nat} {b L : Nat} {xs : Nat → Int32} (hF : Fx p s m #[Value.ref b] meth c D cA (fun q => s.heap.size ≤ q) 9 code R_law) (hst : l.stackTraces = false) (ham : Amb (fun q => s.heap.size ≤ q) s s.heap) (hX : va_X b L xs s s.heap) (hbl : b < s.heap.size) (hr : meth.sig.returnType = ret) (hRk : Rk 2000 601024 7293034 room_1) : ∀ q ∈ tL9 b L xs, Snd (jL p l e s m below meth c D cA ad0 b) q.1 q.2 := by
  have hts := hF.2.2.2.2.1
  unfold tL9
  refine fmS (snd_iconst hF (n := 1) rfl (by decide +kernel)) ?_
  refine fmS (snd_iadd hF (by decide +kernel)) ?_
  refine fmS (snd_sld hF hX hbl (by decide +kernel)) ?_
  refine fmS (snd_aloadn hF (k := 3) rfl (by decide +kernel)) ?_
  refine fmS (snd_callSX hF hst ham hRk qw849 qw75 (by decide) (by decide +kernel) (by decide) qw848 qw847 (by decide +kernel)) ?_
  refine fmS (snd_istore hF (by decide) (by decide +kernel)) ?_
  refine fmS (snd_aloadn hF (k := 2) rfl (by decide +kernel)) ?_
  refine fmS (snd_aloadn hF (k := 0) rfl (by decide +kernel)) ?_
  refine fmS (snd_iload hF (by decide +kernel)) ?_
  refine fmS (snd_iconst hF (n := 1) rfl (by decide +kernel)) ?_
  refine fmS (snd_iadd hF (by decide +kernel)) ?_
  refine fmS (snd_sld hF hX hbl (by decide +kernel)) ?_
  refine fmS (snd_callGV hF hst ham hRk k_X10_height okX10 qw1392 qw1393 qw1394 (by decide +kernel)) ?_
  refine fmS (snd_istore hF (by decide) (by decide +kernel)) ?_
  refine fmS (snd_aloadn hF (k := 2) rfl (by decide +kernel)) ?_
  refine fmS (snd_callGV hF hst ham hRk k_X10_thrown okX10 qw1213 qw1214 qw1215 (by decide +kernel)) ?_
  refine fmS (snd_iload hF (by decide +kernel)) ?_
  refine fmS (snd_icmp_eq hF (off := 5) (by decide) (by decide +kernel)) ?_
  refine fmS (snd_iconst hF (n := 0) rfl (by decide +kernel)) ?_
  refine fmS (snd_lret hF hr (by decide +kernel)) ?_
  refine fmS (snd_iload hF (by decide +kernel)) ?_
  refine fmS (snd_if_ne hF (off := 15) (by decide) (by decide +kernel)) ?_
  refine fmS (snd_aloadn hF (k := 3) rfl (by decide +kernel)) ?_
  refine fmS (snd_iconst hF (n := 0) rfl (by decide +kernel)) ?_
  refine fmS (snd_laload hF (by decide +kernel)) ?_
  refine fmS (snd_iload hF (by decide +kernel)) ?_
  refine fmS (snd_i2l hF (by decide +kernel)) ?_
  refine fmS (snd_lcmp hF (by decide +kernel)) ?_
  refine fmS (snd_if_eq hF (off := 5) (by decide) (by decide +kernel)) ?_
  refine fmS (snd_iconst hF (n := 0) rfl (by decide +kernel)) ?_
  refine fmS (snd_lret hF hr (by decide +kernel)) ?_
  refine fmS (snd_goto hF (off := 625) (by decide) (by decide +kernel)) ?_
  refine fmS (snd_aloadn hF (k := 1) rfl (by decide +kernel)) ?_
  refine fmS (snd_aloadn hF (k := 0) rfl (by decide +kernel)) ?_
  refine fmS (snd_iload hF (by decide +kernel)) ?_
  refine fmS (snd_iconst hF (n := 1) rfl (by decide +kernel)) ?_
  refine fmS (snd_iadd hF (by decide +kernel)) ?_
  refine fmS (snd_sld hF hX hbl (by decide +kernel)) ?_
  refine fmS (snd_aloadn hF (k := 3) rfl (by decide +kernel)) ?_
  refine fmS (snd_callSX hF hst ham hRk qw863 qw75 (by decide) (by decide +kernel) (by decide) qw862 qw861 (by decide +kernel)) ?_
  refine fmS (snd_istore hF (by decide) (by decide +kernel)) ?_
  refine fmS (snd_aloadn hF (k := 2) rfl (by decide +kernel)) ?_
  refine fmS (snd_aloadn hF (k := 0) rfl (by decide +kernel)) ?_
  refine fmS (snd_iload hF (by decide +kernel)) ?_
  refine fmS (snd_iconst hF (n := 1) rfl (by decide +kernel)) ?_
  refine fmS (snd_iadd hF (by decide +kernel)) ?_
  refine fmS (snd_sld hF hX hbl (by decide +kernel)) ?_
  refine fmS (snd_callGV hF hst ham hRk k_X10_open okX10 qw1401 qw1402 qw1403 (by decide +kernel)) ?_
  refine fmS (snd_istore hF (by decide) (by decide +kernel)) ?_
  refine fmS (snd_aloadn hF (k := 2) rfl (by decide +kernel)) ?_
  refine fmS (snd_callGV hF hst ham hRk k_X10_thrown okX10 qw1213 qw1214 qw1215 (by decide +kernel)) ?_
  refine fmS (snd_iload hF (by decide +kernel)) ?_
  refine fmS (snd_icmp_eq hF (off := 5) (by decide) (by decide +kernel)) ?_
  refine fmS (snd_iconst hF (n := 0) rfl (by decide +kernel)) ?_
  refine fmS (snd_lret hF hr (by decide +kernel)) ?_
  refine fmS (snd_iload hF (by decide +kernel)) ?_
  refine fmS (snd_if_ne hF (off := 15) (by decide) (by decide +kernel)) ?_
  refine fmS (snd_aloadn hF (k := 3) rfl (by decide +kernel)) ?_
  refine fmS (snd_iconst hF (n := 0) rfl (by decide +kernel)) ?_
  refine fmS (snd_laload hF (by decide +kernel)) ?_
  exact fmE
def tL10 (b L : Nat) (xs : Nat → Int32) : List (Nat × OP) := [(1078, oIld 7 1080), (1080, oIcv (fun x => .long x.toInt64) 1081), (1081, oLcmp 1082), (1082, oIf (fun x => x = 0) 1087 1085), (1085, oPush (.int 0) 1086), (1086, oLret), (1087, oGoto 1656), (1090, oAld 1 1091), (1091, oAld 3 1092), (1092, oCallG 2000 601024 7293034 1 6 yL_hasNext (Cond.codeWith yL_hasNext cL_hasNext 3 (some .int) [(0, 15, 18, 15)]) 2 1095), (1095, oIst 6 1097), (1097, oAld 2 1098), (1098, oCallGV 2000 601024 7293034 0 0 yX10_hasNext (Cond.code yX10_hasNext cX10_hasNext 1 (some .boolean)) 0 10 1101), (1101, oIst 7 1103), (1103, oAld 2 1104), (1104, oCallGV 2000 601024 7293034 0 0 yX10_thrown (Cond.code yX10_thrown cX10_thrown 1 (some .int)) 0 10 1107), (1107, oIld 6 1109), (1109, oIc (fun x y => x = y) 1114 1112), (1112, oPush (.int 0) 1113), (1113, oLret), (1114, oIld 6 1116), (1116, oIf (fun x => x = 0) 1119 1138), (1119, oAld 3 1120), (1120, oPush (.int 0) 1121), (1121, oAl 1122), (1122, oIld 7 1124), (1124, oIf (fun x => x = 0) 1131 1127), (1127, oPush (.long 1) 1128), (1128, oGoto 1132), (1131, oPush (.long 0) 1132), (1132, oLcmp 1133), (1133, oIf (fun x => x = 0) 1138 1136), (1136, oPush (.int 0) 1137), (1137, oLret), (1138, oGoto 1656), (1141, oAld 1 1142), (1142, oAld 3 1143), (1143, oCallG 2000 601024 7293034 2 12 yL_next (Cond.codeWith yL_next cL_next 3 (some .int) [(0, 8, 11, 15), (0, 8, 14, 73)]) 2 1146), (1146, oIst 6 1148), (1148, oAld 2 1149), (1149, oCallGV 2000 601024 7293034 0 0 yX10_next (Cond.code yX10_next cX10_next 1 (some .int)) 0 10 1152), (1152, oIst 7 1154), (1154, oAld 2 1155), (1155, oCallGV 2000 601024 7293034 0 0 yX10_thrown (Cond.code yX10_thrown cX10_thrown 1 (some .int)) 0 10 1158), (1158, oIld 6 1160), (1160, oIc (fun x y => x = y) 1165 1163), (1163, oPush (.int 0) 1164), (1164, oLret), (1165, oIld 6 1167), (1167, oIf (fun x => x = 0) 1170 1182), (1170, oAld 3 1171), (1171, oPush (.int 0) 1172), (1172, oAl 1173), (1173, oIld 7 1175), (1175, oIcv (fun x => .long x.toInt64) 1176), (1176, oLcmp 1177), (1177, oIf (fun x => x = 0) 1182 1180), (1180, oPush (.int 0) 1181), (1181, oLret), (1182, oGoto 1656)]
set_option maxRecDepth 20000 in
theorem sL10 {p : Program} {l : Launch} {e : Env} {s : State} {m : MethodId} {below : List Frame} {meth : Method} {c : Code} {D : va_G} {cA : Nat → ClassId} {ad0 : Nat → Nat} {b L : Nat} {xs : Nat → Int32} (hF : Fx p s m #[Value.ref b] meth c D cA (fun q => s.heap.size ≤ q) 9 code R_law) (hst : l.stackTraces = false) (ham : Amb (fun q => s.heap.size ≤ q) s s.heap) (hX : va_X b L xs s s.heap) (hbl : b < s.heap.size) (hr : meth.sig.returnType = ret) (hRk : Rk 2000 601024 7293034 room_1) : ∀ q ∈ tL10 b L xs, Snd (jL p l e s m below meth c D cA ad0 b) q.1 q.2 := by
  have hts := hF.2.2.2.2.1
  unfold tL10
  refine fmS (snd_iload hF (by decide +kernel)) ?_
  refine fmS (snd_i2l hF (by decide +kernel)) ?_
  refine fmS (snd_lcmp hF (by decide +kernel)) ?_
  refine fmS (snd_if_eq hF (off := 5) (by decide) (by decide +kernel)) ?_
  refine fmS (snd_iconst hF (n := 0) rfl (by decide +kernel)) ?_
  refine fmS (snd_lret hF hr (by decide +kernel)) ?_
  refine fmS (snd_goto hF (off := 569) (by decide) (by decide +kernel)) ?_
  refine fmS (snd_aloadn hF (k := 1) rfl (by decide +kernel)) ?_
  refine fmS (snd_aloadn hF (k := 3) rfl (by decide +kernel)) ?_
  refine fmS (snd_callSX hF hst ham hRk qw870 qw75 (by decide) (by decide +kernel) (by decide) qw869 qw868 (by decide +kernel)) ?_
  refine fmS (snd_istore hF (by decide) (by decide +kernel)) ?_
  refine fmS (snd_aloadn hF (k := 2) rfl (by decide +kernel)) ?_
  refine fmS (snd_callGV hF hst ham hRk k_X10_hasNext okX10 qw1405 qw1406 qw1407 (by decide +kernel)) ?_
  refine fmS (snd_istore hF (by decide) (by decide +kernel)) ?_
  refine fmS (snd_aloadn hF (k := 2) rfl (by decide +kernel)) ?_
  refine fmS (snd_callGV hF hst ham hRk k_X10_thrown okX10 qw1213 qw1214 qw1215 (by decide +kernel)) ?_
  refine fmS (snd_iload hF (by decide +kernel)) ?_
  refine fmS (snd_icmp_eq hF (off := 5) (by decide) (by decide +kernel)) ?_
  refine fmS (snd_iconst hF (n := 0) rfl (by decide +kernel)) ?_
  refine fmS (snd_lret hF hr (by decide +kernel)) ?_
  refine fmS (snd_iload hF (by decide +kernel)) ?_
  refine fmS (snd_if_ne hF (off := 22) (by decide) (by decide +kernel)) ?_
  refine fmS (snd_aloadn hF (k := 3) rfl (by decide +kernel)) ?_
  refine fmS (snd_iconst hF (n := 0) rfl (by decide +kernel)) ?_
  refine fmS (snd_laload hF (by decide +kernel)) ?_
  refine fmS (snd_iload hF (by decide +kernel)) ?_
  refine fmS (snd_if_eq hF (off := 7) (by decide) (by decide +kernel)) ?_
  refine fmS (snd_lconst hF (n := 1) (by decide +kernel) (by decide +kernel)) ?_
  refine fmS (snd_goto hF (off := 4) (by decide) (by decide +kernel)) ?_
  refine fmS (snd_lconst hF (n := 0) (by decide +kernel) (by decide +kernel)) ?_
  refine fmS (snd_lcmp hF (by decide +kernel)) ?_
  refine fmS (snd_if_eq hF (off := 5) (by decide) (by decide +kernel)) ?_
  refine fmS (snd_iconst hF (n := 0) rfl (by decide +kernel)) ?_
  refine fmS (snd_lret hF hr (by decide +kernel)) ?_
  refine fmS (snd_goto hF (off := 518) (by decide) (by decide +kernel)) ?_
  refine fmS (snd_aloadn hF (k := 1) rfl (by decide +kernel)) ?_
  refine fmS (snd_aloadn hF (k := 3) rfl (by decide +kernel)) ?_
  refine fmS (snd_callSX hF hst ham hRk qw882 qw75 (by decide) (by decide +kernel) (by decide) qw881 qw880 (by decide +kernel)) ?_
  refine fmS (snd_istore hF (by decide) (by decide +kernel)) ?_
  refine fmS (snd_aloadn hF (k := 2) rfl (by decide +kernel)) ?_
  refine fmS (snd_callGV hF hst ham hRk k_X10_next okX10 qw1409 qw1410 qw1411 (by decide +kernel)) ?_
  refine fmS (snd_istore hF (by decide) (by decide +kernel)) ?_
  refine fmS (snd_aloadn hF (k := 2) rfl (by decide +kernel)) ?_
  refine fmS (snd_callGV hF hst ham hRk k_X10_thrown okX10 qw1213 qw1214 qw1215 (by decide +kernel)) ?_
  refine fmS (snd_iload hF (by decide +kernel)) ?_
  refine fmS (snd_icmp_eq hF (off := 5) (by decide) (by decide +kernel)) ?_
  refine fmS (snd_iconst hF (n := 0) rfl (by decide +kernel)) ?_
  refine fmS (snd_lret hF hr (by decide +kernel)) ?_
  refine fmS (snd_iload hF (by decide +kernel)) ?_
  refine fmS (snd_if_ne hF (off := 15) (by decide) (by decide +kernel)) ?_
  refine fmS (snd_aloadn hF (k := 3) rfl (by decide +kernel)) ?_
  refine fmS (snd_iconst hF (n := 0) rfl (by decide +kernel)) ?_
  refine fmS (snd_laload hF (by decide +kernel)) ?_
  refine fmS (snd_iload hF (by decide +kernel)) ?_
  refine fmS (snd_i2l hF (by decide +kernel)) ?_
  refine fmS (snd_lcmp hF (by decide +kernel)) ?_
  refine fmS (snd_if_eq hF (off := 5) (by decide) (by decide +kernel)) ?_
  refine fmS (snd_iconst hF (n := 0) rfl (by decide +kernel)) ?_
  refine fmS (snd_lret hF hr (by decide +kernel)) ?_
  refine fmS (snd_goto hF (off := 474) (by decide) (by decide +kernel)) ?_
  exact fmE
def tL11 (b L : Nat) (xs : Nat → Int32) : List (Nat × OP) := [(1185, oAld 1 1186), (1186, oCallGV 2000 601024 7293034 0 0 yX9_isParallel (Cond.code yX9_isParallel cX9_isParallel 1 (some .boolean)) 0 9 1189), (1189, oAld 2 1190), (1190, oCallGV 2000 601024 7293034 0 0 yX10_isParallel (Cond.code yX10_isParallel cX10_isParallel 1 (some .boolean)) 0 10 1193), (1193, oIc (fun x y => x = y) 1656 1196), (1196, oPush (.int 0) 1197), (1197, oLret), (1198, oAld 1 1199), (1199, oAld 0 1200), (1200, oIld 5 1202), (1202, oPush (.int 1) 1203), (1203, oI2 (fun x y => x + y) 1204), (1204, oSld b L xs 1205), (1205, oAld 3 1206), (1206, oCallG 2000 601024 7293034 1 6 yL_isExact (Cond.codeWith yL_isExact cL_isExact 4 (some .int) [(0, 16, 19, 31)]) 3 1209), (1209, oIst 6 1211), (1211, oAld 2 1212), (1212, oAld 0 1213), (1213, oIld 5 1215), (1215, oPush (.int 1) 1216), (1216, oI2 (fun x y => x + y) 1217), (1217, oSld b L xs 1218), (1218, oCallGV 2000 601024 7293034 0 0 yX10_isExact (Cond.code yX10_isExact cX10_isExact 3 (some .boolean)) 1 10 1221), (1221, oIst 7 1223), (1223, oAld 2 1224), (1224, oCallGV 2000 601024 7293034 0 0 yX10_thrown (Cond.code yX10_thrown cX10_thrown 1 (some .int)) 0 10 1227), (1227, oIld 6 1229), (1229, oIc (fun x y => x = y) 1234 1232), (1232, oPush (.int 0) 1233), (1233, oLret), (1234, oIld 6 1236), (1236, oIf (fun x => x = 0) 1239 1258), (1239, oAld 3 1240), (1240, oPush (.int 0) 1241), (1241, oAl 1242), (1242, oIld 7 1244), (1244, oIf (fun x => x = 0) 1251 1247), (1247, oPush (.long 1) 1248), (1248, oGoto 1252), (1251, oPush (.long 0) 1252), (1252, oLcmp 1253), (1253, oIf (fun x => x = 0) 1258 1256), (1256, oPush (.int 0) 1257), (1257, oLret), (1258, oGoto 1656), (1261, oAld 1 1262), (1262, oAld 0 1263), (1263, oIld 5 1265), (1265, oPush (.int 1) 1266), (1266, oI2 (fun x y => x + y) 1267), (1267, oSld b L xs 1268), (1268, oAld 0 1269), (1269, oIld 5 1271), (1271, oPush (.int 2) 1272), (1272, oI2 (fun x y => x + y) 1273), (1273, oSld b L xs 1274), (1274, oAld 3 1275), (1275, oCallG 2000 601024 7293034 3 18 yL_execute (Cond.codeWith yL_execute cL_execute 5 (some .int) [(0, 10, 13, 13), (0, 10, 17, 49), (0, 10, 21, 15)]) 4 1278), (1278, oIst 6 1280), (1280, oAld 2 1281)]
set_option maxRecDepth 20000 in
theorem sL11 {p : Program} {l : Launch} {e : Env} {s : State} {m : MethodId} {below : List Frame} {meth : Method} {c : Code} {D : va_G} {cA : Nat → ClassId} {ad0 : Nat → Nat} {b L : Nat} {xs : Nat → Int32} (hF : Fx p s m #[Value.ref b] meth c D cA (fun q => s.heap.size ≤ q) 9 code R_law) (hst : l.stackTraces = false) (ham : Amb (fun q => s.heap.size ≤ q) s s.heap) (hX : va_X b L xs s s.heap) (hbl : b < s.heap.size) (hr : meth.sig.returnType = ret) (hRk : Rk 2000 601024 7293034 room_1) : ∀ q ∈ tL11 b L xs, Snd (jL p l e s m below meth c D cA ad0 b) q.1 q.2 := by
  have hts := hF.2.2.2.2.1
  unfold tL11
  refine fmS (snd_aloadn hF (k := 1) rfl (by decide +kernel)) ?_
  refine fmS (snd_callGV hF hst ham hRk k_X9_isParallel okX9 qw378 qw379 qw380 (by decide +kernel)) ?_
  refine fmS (snd_aloadn hF (k := 2) rfl (by decide +kernel)) ?_
  refine fmS (snd_callGV hF hst ham hRk k_X10_isParallel okX10 qw1413 qw1414 qw1415 (by decide +kernel)) ?_
  refine fmS (snd_icmp_eq hF (off := 463) (by decide) (by decide +kernel)) ?_
  refine fmS (snd_iconst hF (n := 0) rfl (by decide +kernel)) ?_
  refine fmS (snd_lret hF hr (by decide +kernel)) ?_
  refine fmS (snd_aloadn hF (k := 1) rfl (by decide +kernel)) ?_
  refine fmS (snd_aloadn hF (k := 0) rfl (by decide +kernel)) ?_
  refine fmS (snd_iload hF (by decide +kernel)) ?_
  refine fmS (snd_iconst hF (n := 1) rfl (by decide +kernel)) ?_
  refine fmS (snd_iadd hF (by decide +kernel)) ?_
  refine fmS (snd_sld hF hX hbl (by decide +kernel)) ?_
  refine fmS (snd_aloadn hF (k := 3) rfl (by decide +kernel)) ?_
  refine fmS (snd_callSX hF hst ham hRk qw906 qw75 (by decide) (by decide +kernel) (by decide) qw905 qw904 (by decide +kernel)) ?_
  refine fmS (snd_istore hF (by decide) (by decide +kernel)) ?_
  refine fmS (snd_aloadn hF (k := 2) rfl (by decide +kernel)) ?_
  refine fmS (snd_aloadn hF (k := 0) rfl (by decide +kernel)) ?_
  refine fmS (snd_iload hF (by decide +kernel)) ?_
  refine fmS (snd_iconst hF (n := 1) rfl (by decide +kernel)) ?_
  refine fmS (snd_iadd hF (by decide +kernel)) ?_
  refine fmS (snd_sld hF hX hbl (by decide +kernel)) ?_
  refine fmS (snd_callGV hF hst ham hRk k_X10_isExact okX10 qw1421 qw1422 qw1423 (by decide +kernel)) ?_
  refine fmS (snd_istore hF (by decide) (by decide +kernel)) ?_
  refine fmS (snd_aloadn hF (k := 2) rfl (by decide +kernel)) ?_
  refine fmS (snd_callGV hF hst ham hRk k_X10_thrown okX10 qw1213 qw1214 qw1215 (by decide +kernel)) ?_
  refine fmS (snd_iload hF (by decide +kernel)) ?_
  refine fmS (snd_icmp_eq hF (off := 5) (by decide) (by decide +kernel)) ?_
  refine fmS (snd_iconst hF (n := 0) rfl (by decide +kernel)) ?_
  refine fmS (snd_lret hF hr (by decide +kernel)) ?_
  refine fmS (snd_iload hF (by decide +kernel)) ?_
  refine fmS (snd_if_ne hF (off := 22) (by decide) (by decide +kernel)) ?_
  refine fmS (snd_aloadn hF (k := 3) rfl (by decide +kernel)) ?_
  refine fmS (snd_iconst hF (n := 0) rfl (by decide +kernel)) ?_
  refine fmS (snd_laload hF (by decide +kernel)) ?_
  refine fmS (snd_iload hF (by decide +kernel)) ?_
  refine fmS (snd_if_eq hF (off := 7) (by decide) (by decide +kernel)) ?_
  refine fmS (snd_lconst hF (n := 1) (by decide +kernel) (by decide +kernel)) ?_
  refine fmS (snd_goto hF (off := 4) (by decide) (by decide +kernel)) ?_
  refine fmS (snd_lconst hF (n := 0) (by decide +kernel) (by decide +kernel)) ?_
  refine fmS (snd_lcmp hF (by decide +kernel)) ?_
  refine fmS (snd_if_eq hF (off := 5) (by decide) (by decide +kernel)) ?_
  refine fmS (snd_iconst hF (n := 0) rfl (by decide +kernel)) ?_
  refine fmS (snd_lret hF hr (by decide +kernel)) ?_
  refine fmS (snd_goto hF (off := 398) (by decide) (by decide +kernel)) ?_
  refine fmS (snd_aloadn hF (k := 1) rfl (by decide +kernel)) ?_
  refine fmS (snd_aloadn hF (k := 0) rfl (by decide +kernel)) ?_
  refine fmS (snd_iload hF (by decide +kernel)) ?_
  refine fmS (snd_iconst hF (n := 1) rfl (by decide +kernel)) ?_
  refine fmS (snd_iadd hF (by decide +kernel)) ?_
  refine fmS (snd_sld hF hX hbl (by decide +kernel)) ?_
  refine fmS (snd_aloadn hF (k := 0) rfl (by decide +kernel)) ?_
  refine fmS (snd_iload hF (by decide +kernel)) ?_
  refine fmS (snd_iconst hF (n := 2) rfl (by decide +kernel)) ?_
  refine fmS (snd_iadd hF (by decide +kernel)) ?_
  refine fmS (snd_sld hF hX hbl (by decide +kernel)) ?_
  refine fmS (snd_aloadn hF (k := 3) rfl (by decide +kernel)) ?_
  refine fmS (snd_callSX hF hst ham hRk qw913 qw75 (by decide) (by decide +kernel) (by decide) qw912 qw911 (by decide +kernel)) ?_
  refine fmS (snd_istore hF (by decide) (by decide +kernel)) ?_
  refine fmS (snd_aloadn hF (k := 2) rfl (by decide +kernel)) ?_
  exact fmE
def tL12 (b L : Nat) (xs : Nat → Int32) : List (Nat × OP) := [(1281, oAld 0 1282), (1282, oIld 5 1284), (1284, oPush (.int 1) 1285), (1285, oI2 (fun x y => x + y) 1286), (1286, oSld b L xs 1287), (1287, oAld 0 1288), (1288, oIld 5 1290), (1290, oPush (.int 2) 1291), (1291, oI2 (fun x y => x + y) 1292), (1292, oSld b L xs 1293), (1293, oCallGV 2000 601024 7293034 0 0 yX10_execute (Cond.code yX10_execute cX10_execute 5 (some .int)) 2 10 1296), (1296, oIst 7 1298), (1298, oAld 2 1299), (1299, oCallGV 2000 601024 7293034 0 0 yX10_thrown (Cond.code yX10_thrown cX10_thrown 1 (some .int)) 0 10 1302), (1302, oIld 6 1304), (1304, oIc (fun x y => x = y) 1309 1307), (1307, oPush (.int 0) 1308), (1308, oLret), (1309, oIld 6 1311), (1311, oIf (fun x => x = 0) 1314 1326), (1314, oAld 3 1315), (1315, oPush (.int 0) 1316), (1316, oAl 1317), (1317, oIld 7 1319), (1319, oIcv (fun x => .long x.toInt64) 1320), (1320, oLcmp 1321), (1321, oIf (fun x => x = 0) 1326 1324), (1324, oPush (.int 0) 1325), (1325, oLret), (1326, oGoto 1656), (1329, oAld 1 1330), (1330, oAld 0 1331), (1331, oIld 5 1333), (1333, oPush (.int 1) 1334), (1334, oI2 (fun x y => x + y) 1335), (1335, oSld b L xs 1336), (1336, oAld 3 1337), (1337, oCallG 2000 601024 7293034 2 12 yL_result (Cond.codeWith yL_result cL_result 4 (some .int) [(0, 9, 12, 31), (0, 9, 15, 15)]) 3 1340), (1340, oIst 6 1342), (1342, oAld 2 1343), (1343, oAld 0 1344), (1344, oIld 5 1346), (1346, oPush (.int 1) 1347), (1347, oI2 (fun x y => x + y) 1348), (1348, oSld b L xs 1349), (1349, oCallGV 2000 601024 7293034 0 0 yX10_result (Cond.code yX10_result cX10_result 2 (some .int)) 1 10 1352), (1352, oIst 7 1354), (1354, oAld 2 1355), (1355, oCallGV 2000 601024 7293034 0 0 yX10_thrown (Cond.code yX10_thrown cX10_thrown 1 (some .int)) 0 10 1358), (1358, oIld 6 1360), (1360, oIc (fun x y => x = y) 1365 1363), (1363, oPush (.int 0) 1364), (1364, oLret), (1365, oIld 6 1367), (1367, oIf (fun x => x = 0) 1370 1382), (1370, oAld 3 1371), (1371, oPush (.int 0) 1372), (1372, oAl 1373), (1373, oIld 7 1375), (1375, oIcv (fun x => .long x.toInt64) 1376)]
set_option maxRecDepth 20000 in
theorem sL12 {p : Program} {l : Launch} {e : Env} {s : State} {m : MethodId} {below : List Frame} {meth : Method} {c : Code} {D : va_G} {cA : Nat → ClassId} {ad0 : Nat → Nat} {b L : Nat} {xs : Nat → Int32} (hF : Fx p s m #[Value.ref b] meth c D cA (fun q => s.heap.size ≤ q) 9 code R_law) (hst : l.stackTraces = false) (ham : Amb (fun q => s.heap.size ≤ q) s s.heap) (hX : va_X b L xs s s.heap) (hbl : b < s.heap.size) (hr : meth.sig.returnType = ret) (hRk : Rk 2000 601024 7293034 room_1) : ∀ q ∈ tL12 b L xs, Snd (jL p l e s m below meth c D cA ad0 b) q.1 q.2 := by
  have hts := hF.2.2.2.2.1
  unfold tL12
  refine fmS (snd_aloadn hF (k := 0) rfl (by decide +kernel)) ?_
  refine fmS (snd_iload hF (by decide +kernel)) ?_
  refine fmS (snd_iconst hF (n := 1) rfl (by decide +kernel)) ?_
  refine fmS (snd_iadd hF (by decide +kernel)) ?_
  refine fmS (snd_sld hF hX hbl (by decide +kernel)) ?_
  refine fmS (snd_aloadn hF (k := 0) rfl (by decide +kernel)) ?_
  refine fmS (snd_iload hF (by decide +kernel)) ?_
  refine fmS (snd_iconst hF (n := 2) rfl (by decide +kernel)) ?_
  refine fmS (snd_iadd hF (by decide +kernel)) ?_
  refine fmS (snd_sld hF hX hbl (by decide +kernel)) ?_
  refine fmS (snd_callGV hF hst ham hRk k_X10_execute okX10 qw1425 qw1426 qw1427 (by decide +kernel)) ?_
  refine fmS (snd_istore hF (by decide) (by decide +kernel)) ?_
  refine fmS (snd_aloadn hF (k := 2) rfl (by decide +kernel)) ?_
  refine fmS (snd_callGV hF hst ham hRk k_X10_thrown okX10 qw1213 qw1214 qw1215 (by decide +kernel)) ?_
  refine fmS (snd_iload hF (by decide +kernel)) ?_
  refine fmS (snd_icmp_eq hF (off := 5) (by decide) (by decide +kernel)) ?_
  refine fmS (snd_iconst hF (n := 0) rfl (by decide +kernel)) ?_
  refine fmS (snd_lret hF hr (by decide +kernel)) ?_
  refine fmS (snd_iload hF (by decide +kernel)) ?_
  refine fmS (snd_if_ne hF (off := 15) (by decide) (by decide +kernel)) ?_
  refine fmS (snd_aloadn hF (k := 3) rfl (by decide +kernel)) ?_
  refine fmS (snd_iconst hF (n := 0) rfl (by decide +kernel)) ?_
  refine fmS (snd_laload hF (by decide +kernel)) ?_
  refine fmS (snd_iload hF (by decide +kernel)) ?_
  refine fmS (snd_i2l hF (by decide +kernel)) ?_
  refine fmS (snd_lcmp hF (by decide +kernel)) ?_
  refine fmS (snd_if_eq hF (off := 5) (by decide) (by decide +kernel)) ?_
  refine fmS (snd_iconst hF (n := 0) rfl (by decide +kernel)) ?_
  refine fmS (snd_lret hF hr (by decide +kernel)) ?_
  refine fmS (snd_goto hF (off := 330) (by decide) (by decide +kernel)) ?_
  refine fmS (snd_aloadn hF (k := 1) rfl (by decide +kernel)) ?_
  refine fmS (snd_aloadn hF (k := 0) rfl (by decide +kernel)) ?_
  refine fmS (snd_iload hF (by decide +kernel)) ?_
  refine fmS (snd_iconst hF (n := 1) rfl (by decide +kernel)) ?_
  refine fmS (snd_iadd hF (by decide +kernel)) ?_
  refine fmS (snd_sld hF hX hbl (by decide +kernel)) ?_
  refine fmS (snd_aloadn hF (k := 3) rfl (by decide +kernel)) ?_
  refine fmS (snd_callSX hF hst ham hRk qw1049 qw75 (by decide) (by decide +kernel) (by decide) qw1048 qw1047 (by decide +kernel)) ?_
  refine fmS (snd_istore hF (by decide) (by decide +kernel)) ?_
  refine fmS (snd_aloadn hF (k := 2) rfl (by decide +kernel)) ?_
  refine fmS (snd_aloadn hF (k := 0) rfl (by decide +kernel)) ?_
  refine fmS (snd_iload hF (by decide +kernel)) ?_
  refine fmS (snd_iconst hF (n := 1) rfl (by decide +kernel)) ?_
  refine fmS (snd_iadd hF (by decide +kernel)) ?_
  refine fmS (snd_sld hF hX hbl (by decide +kernel)) ?_
  refine fmS (snd_callGV hF hst ham hRk k_X10_result okX10 qw1503 qw1504 qw1505 (by decide +kernel)) ?_
  refine fmS (snd_istore hF (by decide) (by decide +kernel)) ?_
  refine fmS (snd_aloadn hF (k := 2) rfl (by decide +kernel)) ?_
  refine fmS (snd_callGV hF hst ham hRk k_X10_thrown okX10 qw1213 qw1214 qw1215 (by decide +kernel)) ?_
  refine fmS (snd_iload hF (by decide +kernel)) ?_
  refine fmS (snd_icmp_eq hF (off := 5) (by decide) (by decide +kernel)) ?_
  refine fmS (snd_iconst hF (n := 0) rfl (by decide +kernel)) ?_
  refine fmS (snd_lret hF hr (by decide +kernel)) ?_
  refine fmS (snd_iload hF (by decide +kernel)) ?_
  refine fmS (snd_if_ne hF (off := 15) (by decide) (by decide +kernel)) ?_
  refine fmS (snd_aloadn hF (k := 3) rfl (by decide +kernel)) ?_
  refine fmS (snd_iconst hF (n := 0) rfl (by decide +kernel)) ?_
  refine fmS (snd_laload hF (by decide +kernel)) ?_
  refine fmS (snd_iload hF (by decide +kernel)) ?_
  refine fmS (snd_i2l hF (by decide +kernel)) ?_
  exact fmE
def tL13 (b L : Nat) (xs : Nat → Int32) : List (Nat × OP) := [(1376, oLcmp 1377), (1377, oIf (fun x => x = 0) 1382 1380), (1380, oPush (.int 0) 1381), (1381, oLret), (1382, oGoto 1656), (1385, oAld 1 1386), (1386, oAld 0 1387), (1387, oIld 5 1389), (1389, oPush (.int 1) 1390), (1390, oI2 (fun x y => x + y) 1391), (1391, oSld b L xs 1392), (1392, oAld 4 1394), (1394, oCallG 2000 601024 7293034 2 12 yL_resultFloat (Cond.codeWith yL_resultFloat cL_resultFloat 4 (some .int) [(0, 9, 12, 31), (0, 9, 15, 15)]) 3 1397), (1397, oIst 6 1399), (1399, oAld 2 1400), (1400, oAld 0 1401), (1401, oIld 5 1403), (1403, oPush (.int 1) 1404), (1404, oI2 (fun x y => x + y) 1405), (1405, oSld b L xs 1406), (1406, oCallGV 2000 601024 7293034 0 0 yX10_resultFloat (Cond.code yX10_resultFloat cX10_resultFloat 2 (some .float)) 1 10 1409), (1409, oFst 7 1411), (1411, oAld 2 1412), (1412, oCallGV 2000 601024 7293034 0 0 yX10_thrown (Cond.code yX10_thrown cX10_thrown 1 (some .int)) 0 10 1415), (1415, oIld 6 1417), (1417, oIc (fun x y => x = y) 1422 1420), (1420, oPush (.int 0) 1421), (1421, oLret), (1422, oIld 6 1424), (1424, oIf (fun x => x = 0) 1427 1460), (1427, oAld 4 1429), (1429, oPush (.int 0) 1430), (1430, oAd 1431), (1431, oFld 7 1433), (1433, oF2d 1434), (1434, oDcmp .l 1435), (1435, oIf (fun x => x = 0) 1460 1438), (1438, oAld 4 1440), (1440, oPush (.int 0) 1441), (1441, oAd 1442), (1442, oAld 4 1444), (1444, oPush (.int 0) 1445), (1445, oAd 1446), (1446, oDcmp .l 1447), (1447, oIf (fun x => x = 0) 1458 1450), (1450, oFld 7 1452), (1452, oFld 7 1454), (1454, oFcmp .l 1455), (1455, oIf (fun x => x = 0) 1458 1460), (1458, oPush (.int 0) 1459), (1459, oLret), (1460, oGoto 1656), (1463, oAld 1 1464), (1464, oAld 0 1465), (1465, oIld 5 1467), (1467, oPush (.int 1) 1468), (1468, oI2 (fun x y => x + y) 1469), (1469, oSld b L xs 1470), (1470, oAld 4 1472), (1472, oCallG 2000 601024 7293034 3 18 yL_difference (Cond.codeWith yL_difference cL_difference 4 (some .int) [(0, 8, 11, 31), (0, 8, 14, 15), (0, 8, 17, 49)]) 3 1475)]
set_option maxRecDepth 20000 in
theorem sL13 {p : Program} {l : Launch} {e : Env} {s : State} {m : MethodId} {below : List Frame} {meth : Method} {c : Code} {D : va_G} {cA : Nat → ClassId} {ad0 : Nat → Nat} {b L : Nat} {xs : Nat → Int32} (hF : Fx p s m #[Value.ref b] meth c D cA (fun q => s.heap.size ≤ q) 9 code R_law) (hst : l.stackTraces = false) (ham : Amb (fun q => s.heap.size ≤ q) s s.heap) (hX : va_X b L xs s s.heap) (hbl : b < s.heap.size) (hr : meth.sig.returnType = ret) (hRk : Rk 2000 601024 7293034 room_1) : ∀ q ∈ tL13 b L xs, Snd (jL p l e s m below meth c D cA ad0 b) q.1 q.2 := by
  have hts := hF.2.2.2.2.1
  unfold tL13
  refine fmS (snd_lcmp hF (by decide +kernel)) ?_
  refine fmS (snd_if_eq hF (off := 5) (by decide) (by decide +kernel)) ?_
  refine fmS (snd_iconst hF (n := 0) rfl (by decide +kernel)) ?_
  refine fmS (snd_lret hF hr (by decide +kernel)) ?_
  refine fmS (snd_goto hF (off := 274) (by decide) (by decide +kernel)) ?_
  refine fmS (snd_aloadn hF (k := 1) rfl (by decide +kernel)) ?_
  refine fmS (snd_aloadn hF (k := 0) rfl (by decide +kernel)) ?_
  refine fmS (snd_iload hF (by decide +kernel)) ?_
  refine fmS (snd_iconst hF (n := 1) rfl (by decide +kernel)) ?_
  refine fmS (snd_iadd hF (by decide +kernel)) ?_
  refine fmS (snd_sld hF hX hbl (by decide +kernel)) ?_
  refine fmS (snd_aload hF (by decide +kernel)) ?_
  refine fmS (snd_callSX hF hst ham hRk qw1057 qw75 (by decide) (by decide +kernel) (by decide) qw1056 qw1055 (by decide +kernel)) ?_
  refine fmS (snd_istore hF (by decide) (by decide +kernel)) ?_
  refine fmS (snd_aloadn hF (k := 2) rfl (by decide +kernel)) ?_
  refine fmS (snd_aloadn hF (k := 0) rfl (by decide +kernel)) ?_
  refine fmS (snd_iload hF (by decide +kernel)) ?_
  refine fmS (snd_iconst hF (n := 1) rfl (by decide +kernel)) ?_
  refine fmS (snd_iadd hF (by decide +kernel)) ?_
  refine fmS (snd_sld hF hX hbl (by decide +kernel)) ?_
  refine fmS (snd_callGV hF hst ham hRk k_X10_resultFloat okX10 qw1507 qw1508 qw1509 (by decide +kernel)) ?_
  refine fmS (snd_fstore hF (by decide) (by decide +kernel)) ?_
  refine fmS (snd_aloadn hF (k := 2) rfl (by decide +kernel)) ?_
  refine fmS (snd_callGV hF hst ham hRk k_X10_thrown okX10 qw1213 qw1214 qw1215 (by decide +kernel)) ?_
  refine fmS (snd_iload hF (by decide +kernel)) ?_
  refine fmS (snd_icmp_eq hF (off := 5) (by decide) (by decide +kernel)) ?_
  refine fmS (snd_iconst hF (n := 0) rfl (by decide +kernel)) ?_
  refine fmS (snd_lret hF hr (by decide +kernel)) ?_
  refine fmS (snd_iload hF (by decide +kernel)) ?_
  refine fmS (snd_if_ne hF (off := 36) (by decide) (by decide +kernel)) ?_
  refine fmS (snd_aload hF (by decide +kernel)) ?_
  refine fmS (snd_iconst hF (n := 0) rfl (by decide +kernel)) ?_
  refine fmS (snd_daload hF (by decide +kernel)) ?_
  refine fmS (snd_fload hF (by decide +kernel)) ?_
  refine fmS (snd_f2d hF (by decide +kernel)) ?_
  refine fmS (snd_dcmp hF (by decide +kernel)) ?_
  refine fmS (snd_if_eq hF (off := 25) (by decide) (by decide +kernel)) ?_
  refine fmS (snd_aload hF (by decide +kernel)) ?_
  refine fmS (snd_iconst hF (n := 0) rfl (by decide +kernel)) ?_
  refine fmS (snd_daload hF (by decide +kernel)) ?_
  refine fmS (snd_aload hF (by decide +kernel)) ?_
  refine fmS (snd_iconst hF (n := 0) rfl (by decide +kernel)) ?_
  refine fmS (snd_daload hF (by decide +kernel)) ?_
  refine fmS (snd_dcmp hF (by decide +kernel)) ?_
  refine fmS (snd_if_eq hF (off := 11) (by decide) (by decide +kernel)) ?_
  refine fmS (snd_fload hF (by decide +kernel)) ?_
  refine fmS (snd_fload hF (by decide +kernel)) ?_
  refine fmS (snd_fcmp hF (by decide +kernel)) ?_
  refine fmS (snd_if_ne hF (off := 5) (by decide) (by decide +kernel)) ?_
  refine fmS (snd_iconst hF (n := 0) rfl (by decide +kernel)) ?_
  refine fmS (snd_lret hF hr (by decide +kernel)) ?_
  refine fmS (snd_goto hF (off := 196) (by decide) (by decide +kernel)) ?_
  refine fmS (snd_aloadn hF (k := 1) rfl (by decide +kernel)) ?_
  refine fmS (snd_aloadn hF (k := 0) rfl (by decide +kernel)) ?_
  refine fmS (snd_iload hF (by decide +kernel)) ?_
  refine fmS (snd_iconst hF (n := 1) rfl (by decide +kernel)) ?_
  refine fmS (snd_iadd hF (by decide +kernel)) ?_
  refine fmS (snd_sld hF hX hbl (by decide +kernel)) ?_
  refine fmS (snd_aload hF (by decide +kernel)) ?_
  refine fmS (snd_callSX hF hst ham hRk qw1065 qw75 (by decide) (by decide +kernel) (by decide) qw1064 qw1063 (by decide +kernel)) ?_
  exact fmE
def tL14 (b L : Nat) (xs : Nat → Int32) : List (Nat × OP) := [(1475, oIst 6 1477), (1477, oAld 2 1478), (1478, oAld 0 1479), (1479, oIld 5 1481), (1481, oPush (.int 1) 1482), (1482, oI2 (fun x y => x + y) 1483), (1483, oSld b L xs 1484), (1484, oCallGV 2000 601024 7293034 0 0 yX10_difference (Cond.code yX10_difference cX10_difference 6 (some .double)) 1 10 1487), (1487, oDst 7 1489), (1489, oAld 2 1490), (1490, oCallGV 2000 601024 7293034 0 0 yX10_thrown (Cond.code yX10_thrown cX10_thrown 1 (some .int)) 0 10 1493), (1493, oIld 6 1495), (1495, oIc (fun x y => x = y) 1500 1498), (1498, oPush (.int 0) 1499), (1499, oLret), (1500, oIld 6 1502), (1502, oIf (fun x => x = 0) 1505 1537), (1505, oAld 4 1507), (1507, oPush (.int 0) 1508), (1508, oAd 1509), (1509, oDld 7 1511), (1511, oDcmp .l 1512), (1512, oIf (fun x => x = 0) 1537 1515), (1515, oAld 4 1517), (1517, oPush (.int 0) 1518), (1518, oAd 1519), (1519, oAld 4 1521), (1521, oPush (.int 0) 1522), (1522, oAd 1523), (1523, oDcmp .l 1524), (1524, oIf (fun x => x = 0) 1535 1527), (1527, oDld 7 1529), (1529, oDld 7 1531), (1531, oDcmp .l 1532), (1532, oIf (fun x => x = 0) 1535 1537), (1535, oPush (.int 0) 1536), (1536, oLret), (1537, oGoto 1656), (1540, oAld 1 1541), (1541, oAld 0 1542), (1542, oIld 5 1544), (1544, oPush (.int 1) 1545), (1545, oI2 (fun x y => x + y) 1546), (1546, oSld b L xs 1547), (1547, oAld 0 1548), (1548, oIld 5 1550), (1550, oPush (.int 2) 1551), (1551, oI2 (fun x y => x + y) 1552), (1552, oSld b L xs 1553), (1553, oAld 3 1554), (1554, oCallG 2000 601024 7293034 2 12 yL_cost (Cond.codeWith yL_cost cL_cost 5 (some .int) [(0, 10, 13, 13), (0, 10, 17, 15)]) 4 1557), (1557, oIst 6 1559), (1559, oAld 2 1560), (1560, oAld 0 1561), (1561, oIld 5 1563), (1563, oPush (.int 1) 1564), (1564, oI2 (fun x y => x + y) 1565), (1565, oSld b L xs 1566), (1566, oAld 0 1567), (1567, oIld 5 1569)]
set_option maxRecDepth 20000 in
theorem sL14 {p : Program} {l : Launch} {e : Env} {s : State} {m : MethodId} {below : List Frame} {meth : Method} {c : Code} {D : va_G} {cA : Nat → ClassId} {ad0 : Nat → Nat} {b L : Nat} {xs : Nat → Int32} (hF : Fx p s m #[Value.ref b] meth c D cA (fun q => s.heap.size ≤ q) 9 code R_law) (hst : l.stackTraces = false) (ham : Amb (fun q => s.heap.size ≤ q) s s.heap) (hX : va_X b L xs s s.heap) (hbl : b < s.heap.size) (hr : meth.sig.returnType = ret) (hRk : Rk 2000 601024 7293034 room_1) : ∀ q ∈ tL14 b L xs, Snd (jL p l e s m below meth c D cA ad0 b) q.1 q.2 := by
  have hts := hF.2.2.2.2.1
  unfold tL14
  refine fmS (snd_istore hF (by decide) (by decide +kernel)) ?_
  refine fmS (snd_aloadn hF (k := 2) rfl (by decide +kernel)) ?_
  refine fmS (snd_aloadn hF (k := 0) rfl (by decide +kernel)) ?_
  refine fmS (snd_iload hF (by decide +kernel)) ?_
  refine fmS (snd_iconst hF (n := 1) rfl (by decide +kernel)) ?_
  refine fmS (snd_iadd hF (by decide +kernel)) ?_
  refine fmS (snd_sld hF hX hbl (by decide +kernel)) ?_
  refine fmS (snd_callGV hF hst ham hRk k_X10_difference okX10 qw1511 qw1512 qw1513 (by decide +kernel)) ?_
  refine fmS (snd_dstore hF (by decide) (by decide +kernel)) ?_
  refine fmS (snd_aloadn hF (k := 2) rfl (by decide +kernel)) ?_
  refine fmS (snd_callGV hF hst ham hRk k_X10_thrown okX10 qw1213 qw1214 qw1215 (by decide +kernel)) ?_
  refine fmS (snd_iload hF (by decide +kernel)) ?_
  refine fmS (snd_icmp_eq hF (off := 5) (by decide) (by decide +kernel)) ?_
  refine fmS (snd_iconst hF (n := 0) rfl (by decide +kernel)) ?_
  refine fmS (snd_lret hF hr (by decide +kernel)) ?_
  refine fmS (snd_iload hF (by decide +kernel)) ?_
  refine fmS (snd_if_ne hF (off := 35) (by decide) (by decide +kernel)) ?_
  refine fmS (snd_aload hF (by decide +kernel)) ?_
  refine fmS (snd_iconst hF (n := 0) rfl (by decide +kernel)) ?_
  refine fmS (snd_daload hF (by decide +kernel)) ?_
  refine fmS (snd_dload hF (by decide +kernel)) ?_
  refine fmS (snd_dcmp hF (by decide +kernel)) ?_
  refine fmS (snd_if_eq hF (off := 25) (by decide) (by decide +kernel)) ?_
  refine fmS (snd_aload hF (by decide +kernel)) ?_
  refine fmS (snd_iconst hF (n := 0) rfl (by decide +kernel)) ?_
  refine fmS (snd_daload hF (by decide +kernel)) ?_
  refine fmS (snd_aload hF (by decide +kernel)) ?_
  refine fmS (snd_iconst hF (n := 0) rfl (by decide +kernel)) ?_
  refine fmS (snd_daload hF (by decide +kernel)) ?_
  refine fmS (snd_dcmp hF (by decide +kernel)) ?_
  refine fmS (snd_if_eq hF (off := 11) (by decide) (by decide +kernel)) ?_
  refine fmS (snd_dload hF (by decide +kernel)) ?_
  refine fmS (snd_dload hF (by decide +kernel)) ?_
  refine fmS (snd_dcmp hF (by decide +kernel)) ?_
  refine fmS (snd_if_ne hF (off := 5) (by decide) (by decide +kernel)) ?_
  refine fmS (snd_iconst hF (n := 0) rfl (by decide +kernel)) ?_
  refine fmS (snd_lret hF hr (by decide +kernel)) ?_
  refine fmS (snd_goto hF (off := 119) (by decide) (by decide +kernel)) ?_
  refine fmS (snd_aloadn hF (k := 1) rfl (by decide +kernel)) ?_
  refine fmS (snd_aloadn hF (k := 0) rfl (by decide +kernel)) ?_
  refine fmS (snd_iload hF (by decide +kernel)) ?_
  refine fmS (snd_iconst hF (n := 1) rfl (by decide +kernel)) ?_
  refine fmS (snd_iadd hF (by decide +kernel)) ?_
  refine fmS (snd_sld hF hX hbl (by decide +kernel)) ?_
  refine fmS (snd_aloadn hF (k := 0) rfl (by decide +kernel)) ?_
  refine fmS (snd_iload hF (by decide +kernel)) ?_
  refine fmS (snd_iconst hF (n := 2) rfl (by decide +kernel)) ?_
  refine fmS (snd_iadd hF (by decide +kernel)) ?_
  refine fmS (snd_sld hF hX hbl (by decide +kernel)) ?_
  refine fmS (snd_aloadn hF (k := 3) rfl (by decide +kernel)) ?_
  refine fmS (snd_callSX hF hst ham hRk qw1075 qw75 (by decide) (by decide +kernel) (by decide) qw1074 qw1073 (by decide +kernel)) ?_
  refine fmS (snd_istore hF (by decide) (by decide +kernel)) ?_
  refine fmS (snd_aloadn hF (k := 2) rfl (by decide +kernel)) ?_
  refine fmS (snd_aloadn hF (k := 0) rfl (by decide +kernel)) ?_
  refine fmS (snd_iload hF (by decide +kernel)) ?_
  refine fmS (snd_iconst hF (n := 1) rfl (by decide +kernel)) ?_
  refine fmS (snd_iadd hF (by decide +kernel)) ?_
  refine fmS (snd_sld hF hX hbl (by decide +kernel)) ?_
  refine fmS (snd_aloadn hF (k := 0) rfl (by decide +kernel)) ?_
  refine fmS (snd_iload hF (by decide +kernel)) ?_
  exact fmE
def tL15 (b L : Nat) (xs : Nat → Int32) : List (Nat × OP) := [(1569, oPush (.int 2) 1570), (1570, oI2 (fun x y => x + y) 1571), (1571, oSld b L xs 1572), (1572, oCallGV 2000 601024 7293034 0 0 yX10_cost (Cond.code yX10_cost cX10_cost 3 (some .int)) 2 10 1575), (1575, oIst 7 1577), (1577, oAld 2 1578), (1578, oCallGV 2000 601024 7293034 0 0 yX10_thrown (Cond.code yX10_thrown cX10_thrown 1 (some .int)) 0 10 1581), (1581, oIld 6 1583), (1583, oIc (fun x y => x = y) 1588 1586), (1586, oPush (.int 0) 1587), (1587, oLret), (1588, oIld 6 1590), (1590, oIf (fun x => x = 0) 1593 1605), (1593, oAld 3 1594), (1594, oPush (.int 0) 1595), (1595, oAl 1596), (1596, oIld 7 1598), (1598, oIcv (fun x => .long x.toInt64) 1599), (1599, oLcmp 1600), (1600, oIf (fun x => x = 0) 1605 1603), (1603, oPush (.int 0) 1604), (1604, oLret), (1605, oGoto 1656), (1608, oAld 1 1609), (1609, oCallGV 2000 601024 7293034 0 0 yX9_cheapest (Cond.code yX9_cheapest cX9_cheapest 6 (some .int)) 0 9 1612), (1612, oAld 2 1613), (1613, oCallGV 2000 601024 7293034 0 0 yX10_cheapest (Cond.code yX10_cheapest cX10_cheapest 7 (some .int)) 0 10 1616), (1616, oIc (fun x y => x = y) 1656 1619), (1619, oPush (.int 0) 1620), (1620, oLret), (1621, oAld 1 1622), (1622, oCallGV 2000 601024 7293034 0 0 yX9_save (Cond.code yX9_save cX9_save 1 none) 0 9 1625), (1625, oAld 2 1626), (1626, oCallGV 2000 601024 7293034 0 0 yX10_save (Cond.code yX10_save cX10_save 1 none) 0 10 1629), (1629, oGoto 1656), (1632, oAld 1 1633), (1633, oCallG 2000 601024 7293034 1 6 yL_restore (Cond.codeWith yL_restore cL_restore 2 (some .int) [(0, 4, 7, 15)]) 1 1636), (1636, oIst 6 1638), (1638, oAld 2 1639), (1639, oCallGV 2000 601024 7293034 0 0 yX10_restore (Cond.code yX10_restore cX10_restore 1 none) 0 10 1642), (1642, oAld 2 1643), (1643, oCallGV 2000 601024 7293034 0 0 yX10_thrown (Cond.code yX10_thrown cX10_thrown 1 (some .int)) 0 10 1646), (1646, oIld 6 1648), (1648, oIc (fun x y => x = y) 1653 1651), (1651, oPush (.int 0) 1652), (1652, oLret), (1653, oGoto 1656), (1656, oInc 5 4 1659), (1659, oGoto 28), (1662, oPush (.int 1) 1663), (1663, oLret)]
set_option maxRecDepth 20000 in
theorem sL15 {p : Program} {l : Launch} {e : Env} {s : State} {m : MethodId} {below : List Frame} {meth : Method} {c : Code} {D : va_G} {cA : Nat → ClassId} {ad0 : Nat → Nat} {b L : Nat} {xs : Nat → Int32} (hF : Fx p s m #[Value.ref b] meth c D cA (fun q => s.heap.size ≤ q) 9 code R_law) (hst : l.stackTraces = false) (ham : Amb (fun q => s.heap.size ≤ q) s s.heap) (hX : va_X b L xs s s.heap) (hbl : b < s.heap.size) (hr : meth.sig.returnType = ret) (hRk : Rk 2000 601024 7293034 room_1) : ∀ q ∈ tL15 b L xs, Snd (jL p l e s m below meth c D cA ad0 b) q.1 q.2 := by
  have hts := hF.2.2.2.2.1
  unfold tL15
  refine fmS (snd_iconst hF (n := 2) rfl (by decide +kernel)) ?_
  refine fmS (snd_iadd hF (by decide +kernel)) ?_
  refine fmS (snd_sld hF hX hbl (by decide +kernel)) ?_
  refine fmS (snd_callGV hF hst ham hRk k_X10_cost okX10 qw1525 qw1526 qw1527 (by decide +kernel)) ?_
  refine fmS (snd_istore hF (by decide) (by decide +kernel)) ?_
  refine fmS (snd_aloadn hF (k := 2) rfl (by decide +kernel)) ?_
  refine fmS (snd_callGV hF hst ham hRk k_X10_thrown okX10 qw1213 qw1214 qw1215 (by decide +kernel)) ?_
  refine fmS (snd_iload hF (by decide +kernel)) ?_
  refine fmS (snd_icmp_eq hF (off := 5) (by decide) (by decide +kernel)) ?_
  refine fmS (snd_iconst hF (n := 0) rfl (by decide +kernel)) ?_
  refine fmS (snd_lret hF hr (by decide +kernel)) ?_
  refine fmS (snd_iload hF (by decide +kernel)) ?_
  refine fmS (snd_if_ne hF (off := 15) (by decide) (by decide +kernel)) ?_
  refine fmS (snd_aloadn hF (k := 3) rfl (by decide +kernel)) ?_
  refine fmS (snd_iconst hF (n := 0) rfl (by decide +kernel)) ?_
  refine fmS (snd_laload hF (by decide +kernel)) ?_
  refine fmS (snd_iload hF (by decide +kernel)) ?_
  refine fmS (snd_i2l hF (by decide +kernel)) ?_
  refine fmS (snd_lcmp hF (by decide +kernel)) ?_
  refine fmS (snd_if_eq hF (off := 5) (by decide) (by decide +kernel)) ?_
  refine fmS (snd_iconst hF (n := 0) rfl (by decide +kernel)) ?_
  refine fmS (snd_lret hF hr (by decide +kernel)) ?_
  refine fmS (snd_goto hF (off := 51) (by decide) (by decide +kernel)) ?_
  refine fmS (snd_aloadn hF (k := 1) rfl (by decide +kernel)) ?_
  refine fmS (snd_callGV hF hst ham hRk k_X9_cheapest okX9 qw382 qw383 qw384 (by decide +kernel)) ?_
  refine fmS (snd_aloadn hF (k := 2) rfl (by decide +kernel)) ?_
  refine fmS (snd_callGV hF hst ham hRk k_X10_cheapest okX10 qw1533 qw1534 qw1535 (by decide +kernel)) ?_
  refine fmS (snd_icmp_eq hF (off := 40) (by decide) (by decide +kernel)) ?_
  refine fmS (snd_iconst hF (n := 0) rfl (by decide +kernel)) ?_
  refine fmS (snd_lret hF hr (by decide +kernel)) ?_
  refine fmS (snd_aloadn hF (k := 1) rfl (by decide +kernel)) ?_
  refine fmS (snd_callGV hF hst ham hRk k_X9_save okX9 qw396 qw397 qw398 (by decide +kernel)) ?_
  refine fmS (snd_aloadn hF (k := 2) rfl (by decide +kernel)) ?_
  refine fmS (snd_callGV hF hst ham hRk k_X10_save okX10 qw1537 qw1538 qw1539 (by decide +kernel)) ?_
  refine fmS (snd_goto hF (off := 27) (by decide) (by decide +kernel)) ?_
  refine fmS (snd_aloadn hF (k := 1) rfl (by decide +kernel)) ?_
  refine fmS (snd_callSX hF hst ham hRk qw1082 qw75 (by decide) (by decide +kernel) (by decide) qw1081 qw1080 (by decide +kernel)) ?_
  refine fmS (snd_istore hF (by decide) (by decide +kernel)) ?_
  refine fmS (snd_aloadn hF (k := 2) rfl (by decide +kernel)) ?_
  refine fmS (snd_callGV hF hst ham hRk k_X10_restore okX10 qw1541 qw1542 qw1543 (by decide +kernel)) ?_
  refine fmS (snd_aloadn hF (k := 2) rfl (by decide +kernel)) ?_
  refine fmS (snd_callGV hF hst ham hRk k_X10_thrown okX10 qw1213 qw1214 qw1215 (by decide +kernel)) ?_
  refine fmS (snd_iload hF (by decide +kernel)) ?_
  refine fmS (snd_icmp_eq hF (off := 5) (by decide) (by decide +kernel)) ?_
  refine fmS (snd_iconst hF (n := 0) rfl (by decide +kernel)) ?_
  refine fmS (snd_lret hF hr (by decide +kernel)) ?_
  refine fmS (snd_goto hF (off := 3) (by decide) (by decide +kernel)) ?_
  refine fmS (snd_iinc hF (n := 4) (by decide +kernel) (by decide) (by decide +kernel)) ?_
  refine fmS (snd_goto hF (off := (-1631)) (by decide) (by decide +kernel)) ?_
  refine fmS (snd_iconst hF (n := 1) rfl (by decide +kernel)) ?_
  refine fmS (snd_lret hF hr (by decide +kernel)) ?_
  exact fmE
def tL_law (b L : Nat) (xs : Nat → Int32) : List (Nat × OP) := tL0 b L xs ++ (tL1 b L xs ++ (tL2 b L xs ++ (tL3 b L xs ++ (tL4 b L xs ++ (tL5 b L xs ++ (tL6 b L xs ++ (tL7 b L xs ++ (tL8 b L xs ++ (tL9 b L xs ++ (tL10 b L xs ++ (tL11 b L xs ++ (tL12 b L xs ++ (tL13 b L xs ++ (tL14 b L xs ++ (tL15 b L xs)))))))))))))))
