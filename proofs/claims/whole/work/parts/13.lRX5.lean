section
variable {d mc ms : Nat} {P : PO}
theorem lX5_rowNow_0 : lk (tX5_rowNow d mc ms P) 0 = oAld 0 1 := rfl
theorem lX5_rowNow_1 : lk (tX5_rowNow d mc ms P) 1 = oGi2 2 4 1 4 := rfl
theorem lX5_rowNow_4 : lk (tX5_rowNow d mc ms P) 4 = oRetI mc ms P := rfl
theorem lX5_constantOf_0 : lk (tX5_constantOf d mc ms P) 0 = oIld 1 1 := rfl
theorem lX5_constantOf_1 : lk (tX5_constantOf d mc ms P) 1 = oPush (.int 200) 4 := rfl
theorem lX5_constantOf_4 : lk (tX5_constantOf d mc ms P) 4 = oIc (fun x y => x < y) 18 7 := rfl
theorem lX5_constantOf_7 : lk (tX5_constantOf d mc ms P) 7 = oIld 1 8 := rfl
theorem lX5_constantOf_8 : lk (tX5_constantOf d mc ms P) 8 = oPush (.int 203) 11 := rfl
theorem lX5_constantOf_11 : lk (tX5_constantOf d mc ms P) 11 = oIc (fun x y => y ≤ x) 18 14 := rfl
theorem lX5_constantOf_14 : lk (tX5_constantOf d mc ms P) 14 = oPush (.int 1) 15 := rfl
theorem lX5_constantOf_15 : lk (tX5_constantOf d mc ms P) 15 = oGoto 19 := rfl
theorem lX5_constantOf_18 : lk (tX5_constantOf d mc ms P) 18 = oPush (.int 0) 19 := rfl
theorem lX5_constantOf_19 : lk (tX5_constantOf d mc ms P) 19 = oIst 2 20 := rfl
theorem lX5_constantOf_20 : lk (tX5_constantOf d mc ms P) 20 = oIld 2 21 := rfl
theorem lX5_constantOf_21 : lk (tX5_constantOf d mc ms P) 21 = oIf (fun x => x = 0) 45 24 := rfl
theorem lX5_constantOf_24 : lk (tX5_constantOf d mc ms P) 24 = oAld 0 25 := rfl
theorem lX5_constantOf_25 : lk (tX5_constantOf d mc ms P) 25 = oGr2 2 4 0 28 := rfl
theorem lX5_constantOf_28 : lk (tX5_constantOf d mc ms P) 28 = oGr 1 2 31 := rfl
theorem lX5_constantOf_31 : lk (tX5_constantOf d mc ms P) 31 = oIld 1 32 := rfl
theorem lX5_constantOf_32 : lk (tX5_constantOf d mc ms P) 32 = oPush (.int 200) 35 := rfl
theorem lX5_constantOf_35 : lk (tX5_constantOf d mc ms P) 35 = oI2 (fun x y => x - y) 36 := rfl
theorem lX5_constantOf_36 : lk (tX5_constantOf d mc ms P) 36 = oAr 106 37 := rfl
theorem lX5_constantOf_37 : lk (tX5_constantOf d mc ms P) 37 = oAld 0 38 := rfl
theorem lX5_constantOf_38 : lk (tX5_constantOf d mc ms P) 38 = oGi2 2 4 2 41 := rfl
theorem lX5_constantOf_41 : lk (tX5_constantOf d mc ms P) 41 = oAi 100 42 := rfl
theorem lX5_constantOf_42 : lk (tX5_constantOf d mc ms P) 42 = oGoto 46 := rfl
theorem lX5_constantOf_45 : lk (tX5_constantOf d mc ms P) 45 = oIld 1 46 := rfl
theorem lX5_constantOf_46 : lk (tX5_constantOf d mc ms P) 46 = oRetI mc ms P := rfl
theorem lX5_countChanged_0 : lk (tX5_countChanged d mc ms P) 0 = oPush (.int 0) 1 := rfl
theorem lX5_countChanged_1 : lk (tX5_countChanged d mc ms P) 1 = oIst 1 2 := rfl
theorem lX5_countChanged_2 : lk (tX5_countChanged d mc ms P) 2 = oPush (.int 0) 3 := rfl
theorem lX5_countChanged_3 : lk (tX5_countChanged d mc ms P) 3 = oIst 2 4 := rfl
theorem lX5_countChanged_4 : lk (tX5_countChanged d mc ms P) 4 = oIld 2 5 := rfl
theorem lX5_countChanged_5 : lk (tX5_countChanged d mc ms P) 5 = oPush (.int 8) 7 := rfl
theorem lX5_countChanged_7 : lk (tX5_countChanged d mc ms P) 7 = oIc (fun x y => y ≤ x) 40 10 := rfl
theorem lX5_countChanged_10 : lk (tX5_countChanged d mc ms P) 10 = oAld 0 11 := rfl
theorem lX5_countChanged_11 : lk (tX5_countChanged d mc ms P) 11 = oPush (.int 16) 13 := rfl
theorem lX5_countChanged_13 : lk (tX5_countChanged d mc ms P) 13 = oIld 2 14 := rfl
theorem lX5_countChanged_14 : lk (tX5_countChanged d mc ms P) 14 = oDisp 2 [(2, oCallV d mc ms P 0 0 yX2_valueOf (Cond.code yX2_valueOf cX2_valueOf 3 (some .double)) 2 2 17), (4, oCallV d mc ms P 0 0 yX4_valueOf (Cond.code yX4_valueOf cX4_valueOf 3 (some .double)) 2 4 17)] := rfl
theorem lX5_countChanged_17 : lk (tX5_countChanged d mc ms P) 17 = oAld 0 18 := rfl
theorem lX5_countChanged_18 : lk (tX5_countChanged d mc ms P) 18 = oGr2 2 4 0 21 := rfl
theorem lX5_countChanged_21 : lk (tX5_countChanged d mc ms P) 21 = oGr 1 3 24 := rfl
theorem lX5_countChanged_24 : lk (tX5_countChanged d mc ms P) 24 = oIld 2 25 := rfl
theorem lX5_countChanged_25 : lk (tX5_countChanged d mc ms P) 25 = oAi 100 26 := rfl
theorem lX5_countChanged_26 : lk (tX5_countChanged d mc ms P) 26 = oIcv (fun x => .double (FP.i2d x)) 27 := rfl
theorem lX5_countChanged_27 : lk (tX5_countChanged d mc ms P) 27 = oDcmp .l 28 := rfl
theorem lX5_countChanged_28 : lk (tX5_countChanged d mc ms P) 28 = oIf (fun x => x = 0) 34 31 := rfl
theorem lX5_countChanged_31 : lk (tX5_countChanged d mc ms P) 31 = oInc 1 1 34 := rfl
theorem lX5_countChanged_34 : lk (tX5_countChanged d mc ms P) 34 = oInc 2 1 37 := rfl
theorem lX5_countChanged_37 : lk (tX5_countChanged d mc ms P) 37 = oGoto 4 := rfl
theorem lX5_countChanged_40 : lk (tX5_countChanged d mc ms P) 40 = oIld 1 41 := rfl
theorem lX5_countChanged_41 : lk (tX5_countChanged d mc ms P) 41 = oRetI mc ms P := rfl
theorem lX5_runOrder_0 : lk (tX5_runOrder d mc ms P) 0 = oIld 2 1 := rfl
theorem lX5_runOrder_1 : lk (tX5_runOrder d mc ms P) 1 = oIf (fun x => x = 0) 14 4 := rfl
theorem lX5_runOrder_4 : lk (tX5_runOrder d mc ms P) 4 = oAld 0 5 := rfl
theorem lX5_runOrder_5 : lk (tX5_runOrder d mc ms P) 5 = oGr2 2 4 0 8 := rfl
theorem lX5_runOrder_8 : lk (tX5_runOrder d mc ms P) 8 = oGi 1 1 11 := rfl
theorem lX5_runOrder_11 : lk (tX5_runOrder d mc ms P) 11 = oIf (fun x => x = 0) 14 22 := rfl
theorem lX5_runOrder_14 : lk (tX5_runOrder d mc ms P) 14 = oAld 0 15 := rfl
theorem lX5_runOrder_15 : lk (tX5_runOrder d mc ms P) 15 = oAld 1 16 := rfl
theorem lX5_runOrder_16 : lk (tX5_runOrder d mc ms P) 16 = oPush (.int 16) 18 := rfl
theorem lX5_runOrder_18 : lk (tX5_runOrder d mc ms P) 18 = oDisp 2 [(2, oCallV d mc ms P 0 0 yX5_runSequence (Cond.code yX5_runSequence cX5_runSequence 4 none) 2 2 21), (4, oCallV d mc ms P 0 0 yX5_runSequence (Cond.code yX5_runSequence cX5_runSequence 4 none) 2 4 21)] := rfl
theorem lX5_runOrder_21 : lk (tX5_runOrder d mc ms P) 21 = oRetV mc ms P := rfl
theorem lX5_runOrder_22 : lk (tX5_runOrder d mc ms P) 22 = oIld 2 23 := rfl
theorem lX5_runOrder_23 : lk (tX5_runOrder d mc ms P) 23 = oPush (.int 3) 24 := rfl
theorem lX5_runOrder_24 : lk (tX5_runOrder d mc ms P) 24 = oIc (fun x y => x = y) 27 37 := rfl
theorem lX5_runOrder_27 : lk (tX5_runOrder d mc ms P) 27 = oAld 0 28 := rfl
theorem lX5_runOrder_28 : lk (tX5_runOrder d mc ms P) 28 = oGr2 2 4 0 31 := rfl
theorem lX5_runOrder_31 : lk (tX5_runOrder d mc ms P) 31 = oGi 1 1 34 := rfl
theorem lX5_runOrder_34 : lk (tX5_runOrder d mc ms P) 34 = oGoto 43 := rfl
theorem lX5_runOrder_37 : lk (tX5_runOrder d mc ms P) 37 = oIld 3 38 := rfl
theorem lX5_runOrder_38 : lk (tX5_runOrder d mc ms P) 38 = oPush (.int 8) 40 := rfl
theorem lX5_runOrder_40 : lk (tX5_runOrder d mc ms P) 40 = oMm (fun x y => if y < x then y else x) mc ms 43 := rfl
theorem lX5_runOrder_43 : lk (tX5_runOrder d mc ms P) 43 = oIst 4 45 := rfl
theorem lX5_runOrder_45 : lk (tX5_runOrder d mc ms P) 45 = oPush (.int 0) 46 := rfl
theorem lX5_runOrder_46 : lk (tX5_runOrder d mc ms P) 46 = oIst 5 48 := rfl
theorem lX5_runOrder_48 : lk (tX5_runOrder d mc ms P) 48 = oIld 5 50 := rfl
theorem lX5_runOrder_50 : lk (tX5_runOrder d mc ms P) 50 = oIld 4 52 := rfl
theorem lX5_runOrder_52 : lk (tX5_runOrder d mc ms P) 52 = oIc (fun x y => y ≤ x) 71 55 := rfl
theorem lX5_runOrder_55 : lk (tX5_runOrder d mc ms P) 55 = oAld 0 56 := rfl
theorem lX5_runOrder_56 : lk (tX5_runOrder d mc ms P) 56 = oAld 1 57 := rfl
theorem lX5_runOrder_57 : lk (tX5_runOrder d mc ms P) 57 = oIld 2 58 := rfl
theorem lX5_runOrder_58 : lk (tX5_runOrder d mc ms P) 58 = oIld 5 60 := rfl
theorem lX5_runOrder_60 : lk (tX5_runOrder d mc ms P) 60 = oIld 4 62 := rfl
theorem lX5_runOrder_62 : lk (tX5_runOrder d mc ms P) 62 = oDisp 4 [(2, oCallV d mc ms P 0 0 yX5_runPart (Cond.code yX5_runPart cX5_runPart 10 none) 4 2 65), (4, oCallV d mc ms P 0 0 yX5_runPart (Cond.code yX5_runPart cX5_runPart 10 none) 4 4 65)] := rfl
theorem lX5_runOrder_65 : lk (tX5_runOrder d mc ms P) 65 = oInc 5 1 68 := rfl
theorem lX5_runOrder_68 : lk (tX5_runOrder d mc ms P) 68 = oGoto 48 := rfl
theorem lX5_runOrder_71 : lk (tX5_runOrder d mc ms P) 71 = oAld 0 72 := rfl
theorem lX5_runOrder_72 : lk (tX5_runOrder d mc ms P) 72 = oPush (.int 16) 74 := rfl
theorem lX5_runOrder_74 : lk (tX5_runOrder d mc ms P) 74 = oDisp 1 [(2, oCallV d mc ms P 0 0 yX5_beginRow (Cond.code yX5_beginRow cX5_beginRow 3 none) 1 2 77), (4, oCallV d mc ms P 0 0 yX5_beginRow (Cond.code yX5_beginRow cX5_beginRow 3 none) 1 4 77)] := rfl
theorem lX5_runOrder_77 : lk (tX5_runOrder d mc ms P) 77 = oAld 0 78 := rfl
theorem lX5_runOrder_78 : lk (tX5_runOrder d mc ms P) 78 = oAld 1 79 := rfl
theorem lX5_runOrder_79 : lk (tX5_runOrder d mc ms P) 79 = oPush (.int 16) 81 := rfl
theorem lX5_runOrder_81 : lk (tX5_runOrder d mc ms P) 81 = oAld 0 82 := rfl
theorem lX5_runOrder_82 : lk (tX5_runOrder d mc ms P) 82 = oGr2 2 4 0 85 := rfl
theorem lX5_runOrder_85 : lk (tX5_runOrder d mc ms P) 85 = oGi 1 1 88 := rfl
theorem lX5_runOrder_88 : lk (tX5_runOrder d mc ms P) 88 = oPush (.int 1) 89 := rfl
theorem lX5_runOrder_89 : lk (tX5_runOrder d mc ms P) 89 = oI2 (fun x y => x - y) 90 := rfl
theorem lX5_runOrder_90 : lk (tX5_runOrder d mc ms P) 90 = oDisp 3 [(2, oCallV d mc ms P 0 0 yX5_runIteration (Cond.code yX5_runIteration cX5_runIteration 5 none) 3 2 93), (4, oCallV d mc ms P 0 0 yX5_runIteration (Cond.code yX5_runIteration cX5_runIteration 5 none) 3 4 93)] := rfl
theorem lX5_runOrder_93 : lk (tX5_runOrder d mc ms P) 93 = oIld 2 94 := rfl
theorem lX5_runOrder_94 : lk (tX5_runOrder d mc ms P) 94 = oPush (.int 3) 95 := rfl
theorem lX5_runOrder_95 : lk (tX5_runOrder d mc ms P) 95 = oIc (fun x y => x = y) 98 114 := rfl
theorem lX5_runOrder_98 : lk (tX5_runOrder d mc ms P) 98 = oAld 0 99 := rfl
set_option maxRecDepth 20000 in
theorem lX5_runOrder_99 : lk (tX5_runOrder d mc ms P) 99 = oAld 1 100 := rfl
set_option maxRecDepth 20000 in
theorem lX5_runOrder_100 : lk (tX5_runOrder d mc ms P) 100 = oIld 4 102 := rfl
set_option maxRecDepth 20000 in
theorem lX5_runOrder_102 : lk (tX5_runOrder d mc ms P) 102 = oDisp 2 [(2, oCallV d mc ms P 0 0 yX5_joinTree (Cond.code yX5_joinTree cX5_joinTree 5 none) 2 2 105), (4, oCallV d mc ms P 0 0 yX5_joinTree (Cond.code yX5_joinTree cX5_joinTree 5 none) 2 4 105)] := rfl
set_option maxRecDepth 20000 in
theorem lX5_runOrder_105 : lk (tX5_runOrder d mc ms P) 105 = oAld 0 106 := rfl
set_option maxRecDepth 20000 in
theorem lX5_runOrder_106 : lk (tX5_runOrder d mc ms P) 106 = oAld 1 107 := rfl
set_option maxRecDepth 20000 in
theorem lX5_runOrder_107 : lk (tX5_runOrder d mc ms P) 107 = oPush (.int 1) 108 := rfl
set_option maxRecDepth 20000 in
theorem lX5_runOrder_108 : lk (tX5_runOrder d mc ms P) 108 = oDisp 2 [(2, oCallV d mc ms P 0 0 yX5_joinParts (Cond.code yX5_joinParts cX5_joinParts 4 none) 2 2 111), (4, oCallV d mc ms P 0 0 yX5_joinParts (Cond.code yX5_joinParts cX5_joinParts 4 none) 2 4 111)] := rfl
set_option maxRecDepth 20000 in
theorem lX5_runOrder_111 : lk (tX5_runOrder d mc ms P) 111 = oGoto 121 := rfl
set_option maxRecDepth 20000 in
theorem lX5_runOrder_114 : lk (tX5_runOrder d mc ms P) 114 = oAld 0 115 := rfl
set_option maxRecDepth 20000 in
theorem lX5_runOrder_115 : lk (tX5_runOrder d mc ms P) 115 = oAld 1 116 := rfl
set_option maxRecDepth 20000 in
theorem lX5_runOrder_116 : lk (tX5_runOrder d mc ms P) 116 = oIld 4 118 := rfl
set_option maxRecDepth 20000 in
theorem lX5_runOrder_118 : lk (tX5_runOrder d mc ms P) 118 = oDisp 2 [(2, oCallV d mc ms P 0 0 yX5_joinParts (Cond.code yX5_joinParts cX5_joinParts 4 none) 2 2 121), (4, oCallV d mc ms P 0 0 yX5_joinParts (Cond.code yX5_joinParts cX5_joinParts 4 none) 2 4 121)] := rfl
set_option maxRecDepth 20000 in
theorem lX5_runOrder_121 : lk (tX5_runOrder d mc ms P) 121 = oRetV mc ms P := rfl
theorem lX5_runSequence_0 : lk (tX5_runSequence d mc ms P) 0 = oAld 0 1 := rfl
theorem lX5_runSequence_1 : lk (tX5_runSequence d mc ms P) 1 = oIld 2 2 := rfl
theorem lX5_runSequence_2 : lk (tX5_runSequence d mc ms P) 2 = oDisp 1 [(2, oCallV d mc ms P 0 0 yX5_beginRow (Cond.code yX5_beginRow cX5_beginRow 3 none) 1 2 5), (4, oCallV d mc ms P 0 0 yX5_beginRow (Cond.code yX5_beginRow cX5_beginRow 3 none) 1 4 5)] := rfl
theorem lX5_runSequence_5 : lk (tX5_runSequence d mc ms P) 5 = oPush (.int 0) 6 := rfl
theorem lX5_runSequence_6 : lk (tX5_runSequence d mc ms P) 6 = oIst 3 7 := rfl
theorem lX5_runSequence_7 : lk (tX5_runSequence d mc ms P) 7 = oIld 3 8 := rfl
theorem lX5_runSequence_8 : lk (tX5_runSequence d mc ms P) 8 = oAld 0 9 := rfl
theorem lX5_runSequence_9 : lk (tX5_runSequence d mc ms P) 9 = oGr2 2 4 0 12 := rfl
theorem lX5_runSequence_12 : lk (tX5_runSequence d mc ms P) 12 = oGi 1 1 15 := rfl
theorem lX5_runSequence_15 : lk (tX5_runSequence d mc ms P) 15 = oIc (fun x y => y ≤ x) 31 18 := rfl
theorem lX5_runSequence_18 : lk (tX5_runSequence d mc ms P) 18 = oAld 0 19 := rfl
theorem lX5_runSequence_19 : lk (tX5_runSequence d mc ms P) 19 = oAld 1 20 := rfl
theorem lX5_runSequence_20 : lk (tX5_runSequence d mc ms P) 20 = oIld 2 21 := rfl
theorem lX5_runSequence_21 : lk (tX5_runSequence d mc ms P) 21 = oIld 3 22 := rfl
theorem lX5_runSequence_22 : lk (tX5_runSequence d mc ms P) 22 = oDisp 3 [(2, oCallV d mc ms P 0 0 yX5_runIteration (Cond.code yX5_runIteration cX5_runIteration 5 none) 3 2 25), (4, oCallV d mc ms P 0 0 yX5_runIteration (Cond.code yX5_runIteration cX5_runIteration 5 none) 3 4 25)] := rfl
theorem lX5_runSequence_25 : lk (tX5_runSequence d mc ms P) 25 = oInc 3 1 28 := rfl
theorem lX5_runSequence_28 : lk (tX5_runSequence d mc ms P) 28 = oGoto 7 := rfl
theorem lX5_runSequence_31 : lk (tX5_runSequence d mc ms P) 31 = oRetV mc ms P := rfl
theorem lX5_runPart_0 : lk (tX5_runPart d mc ms P) 0 = oAld 0 1 := rfl
theorem lX5_runPart_1 : lk (tX5_runPart d mc ms P) 1 = oIld 3 2 := rfl
theorem lX5_runPart_2 : lk (tX5_runPart d mc ms P) 2 = oDisp 1 [(2, oCallV d mc ms P 0 0 yX5_beginRow (Cond.code yX5_beginRow cX5_beginRow 3 none) 1 2 5), (4, oCallV d mc ms P 0 0 yX5_beginRow (Cond.code yX5_beginRow cX5_beginRow 3 none) 1 4 5)] := rfl
theorem lX5_runPart_5 : lk (tX5_runPart d mc ms P) 5 = oPush (.int 0) 6 := rfl
theorem lX5_runPart_6 : lk (tX5_runPart d mc ms P) 6 = oIst 5 8 := rfl
theorem lX5_runPart_8 : lk (tX5_runPart d mc ms P) 8 = oIld 5 10 := rfl
theorem lX5_runPart_10 : lk (tX5_runPart d mc ms P) 10 = oPush (.int 8) 12 := rfl
theorem lX5_runPart_12 : lk (tX5_runPart d mc ms P) 12 = oIc (fun x y => y ≤ x) 50 15 := rfl
theorem lX5_runPart_15 : lk (tX5_runPart d mc ms P) 15 = oAld 1 16 := rfl
theorem lX5_runPart_16 : lk (tX5_runPart d mc ms P) 16 = oGr 6 11 19 := rfl
theorem lX5_runPart_19 : lk (tX5_runPart d mc ms P) 19 = oIld 5 21 := rfl
theorem lX5_runPart_21 : lk (tX5_runPart d mc ms P) 21 = oAi 100 22 := rfl
theorem lX5_runPart_22 : lk (tX5_runPart d mc ms P) 22 = oPush (.int 2) 23 := rfl
theorem lX5_runPart_23 : lk (tX5_runPart d mc ms P) 23 = oIc (fun x y => x = y) 26 44 := rfl
theorem lX5_runPart_26 : lk (tX5_runPart d mc ms P) 26 = oAld 0 27 := rfl
theorem lX5_runPart_27 : lk (tX5_runPart d mc ms P) 27 = oIld 3 28 := rfl
theorem lX5_runPart_28 : lk (tX5_runPart d mc ms P) 28 = oIld 5 30 := rfl
theorem lX5_runPart_30 : lk (tX5_runPart d mc ms P) 30 = oPush (.int 300) 33 := rfl
theorem lX5_runPart_33 : lk (tX5_runPart d mc ms P) 33 = oAld 1 34 := rfl
theorem lX5_runPart_34 : lk (tX5_runPart d mc ms P) 34 = oGr 6 12 37 := rfl
theorem lX5_runPart_37 : lk (tX5_runPart d mc ms P) 37 = oIld 5 39 := rfl
theorem lX5_runPart_39 : lk (tX5_runPart d mc ms P) 39 = oAi 100 40 := rfl
theorem lX5_runPart_40 : lk (tX5_runPart d mc ms P) 40 = oI2 (fun x y => x + y) 41 := rfl
theorem lX5_runPart_41 : lk (tX5_runPart d mc ms P) 41 = oDisp 3 [(2, oCallV d mc ms P 0 0 yX2_setNeutral (Cond.code yX2_setNeutral cX2_setNeutral 4 none) 3 2 44), (4, oCallV d mc ms P 0 0 yX4_setNeutral (Cond.code yX4_setNeutral cX4_setNeutral 4 none) 3 4 44)] := rfl
theorem lX5_runPart_44 : lk (tX5_runPart d mc ms P) 44 = oInc 5 1 47 := rfl
theorem lX5_runPart_47 : lk (tX5_runPart d mc ms P) 47 = oGoto 8 := rfl
theorem lX5_runPart_50 : lk (tX5_runPart d mc ms P) 50 = oAld 0 51 := rfl
theorem lX5_runPart_51 : lk (tX5_runPart d mc ms P) 51 = oGr2 2 4 0 54 := rfl
theorem lX5_runPart_54 : lk (tX5_runPart d mc ms P) 54 = oGi 1 1 57 := rfl
theorem lX5_runPart_57 : lk (tX5_runPart d mc ms P) 57 = oIld 4 59 := rfl
theorem lX5_runPart_59 : lk (tX5_runPart d mc ms P) 59 = oCallS d mc ms P 0 0 yX9_quotientUp (Cond.code yX9_quotientUp cX9_quotientUp 2 (some .int)) 2 62 := rfl
theorem lX5_runPart_62 : lk (tX5_runPart d mc ms P) 62 = oIst 5 64 := rfl
theorem lX5_runPart_64 : lk (tX5_runPart d mc ms P) 64 = oIld 2 65 := rfl
theorem lX5_runPart_65 : lk (tX5_runPart d mc ms P) 65 = oPush (.int 2) 66 := rfl
theorem lX5_runPart_66 : lk (tX5_runPart d mc ms P) 66 = oIc (fun x y => x = y) 69 76 := rfl
theorem lX5_runPart_69 : lk (tX5_runPart d mc ms P) 69 = oIld 3 70 := rfl
theorem lX5_runPart_70 : lk (tX5_runPart d mc ms P) 70 = oIld 5 72 := rfl
theorem lX5_runPart_72 : lk (tX5_runPart d mc ms P) 72 = oI2 (fun x y => x * y) 73 := rfl
theorem lX5_runPart_73 : lk (tX5_runPart d mc ms P) 73 = oGoto 77 := rfl
theorem lX5_runPart_76 : lk (tX5_runPart d mc ms P) 76 = oIld 3 77 := rfl
theorem lX5_runPart_77 : lk (tX5_runPart d mc ms P) 77 = oIst 6 79 := rfl
theorem lX5_runPart_79 : lk (tX5_runPart d mc ms P) 79 = oIld 2 80 := rfl
theorem lX5_runPart_80 : lk (tX5_runPart d mc ms P) 80 = oPush (.int 2) 81 := rfl
theorem lX5_runPart_81 : lk (tX5_runPart d mc ms P) 81 = oIc (fun x y => x = y) 84 102 := rfl
theorem lX5_runPart_84 : lk (tX5_runPart d mc ms P) 84 = oIld 6 86 := rfl
theorem lX5_runPart_86 : lk (tX5_runPart d mc ms P) 86 = oIld 5 88 := rfl
theorem lX5_runPart_88 : lk (tX5_runPart d mc ms P) 88 = oI2 (fun x y => x + y) 89 := rfl
theorem lX5_runPart_89 : lk (tX5_runPart d mc ms P) 89 = oAld 0 90 := rfl
theorem lX5_runPart_90 : lk (tX5_runPart d mc ms P) 90 = oGr2 2 4 0 93 := rfl
theorem lX5_runPart_93 : lk (tX5_runPart d mc ms P) 93 = oGi 1 1 96 := rfl
theorem lX5_runPart_96 : lk (tX5_runPart d mc ms P) 96 = oMm (fun x y => if y < x then y else x) mc ms 99 := rfl
set_option maxRecDepth 20000 in
theorem lX5_runPart_99 : lk (tX5_runPart d mc ms P) 99 = oGoto 109 := rfl
set_option maxRecDepth 20000 in
theorem lX5_runPart_102 : lk (tX5_runPart d mc ms P) 102 = oAld 0 103 := rfl
set_option maxRecDepth 20000 in
theorem lX5_runPart_103 : lk (tX5_runPart d mc ms P) 103 = oGr2 2 4 0 106 := rfl
set_option maxRecDepth 20000 in
theorem lX5_runPart_106 : lk (tX5_runPart d mc ms P) 106 = oGi 1 1 109 := rfl
set_option maxRecDepth 20000 in
theorem lX5_runPart_109 : lk (tX5_runPart d mc ms P) 109 = oIst 7 111 := rfl
set_option maxRecDepth 20000 in
theorem lX5_runPart_111 : lk (tX5_runPart d mc ms P) 111 = oIld 2 112 := rfl
set_option maxRecDepth 20000 in
theorem lX5_runPart_112 : lk (tX5_runPart d mc ms P) 112 = oPush (.int 2) 113 := rfl
set_option maxRecDepth 20000 in
theorem lX5_runPart_113 : lk (tX5_runPart d mc ms P) 113 = oIc (fun x y => x = y) 116 120 := rfl
set_option maxRecDepth 20000 in
theorem lX5_runPart_116 : lk (tX5_runPart d mc ms P) 116 = oPush (.int 1) 117 := rfl
set_option maxRecDepth 20000 in
theorem lX5_runPart_117 : lk (tX5_runPart d mc ms P) 117 = oGoto 126 := rfl
set_option maxRecDepth 20000 in
theorem lX5_runPart_120 : lk (tX5_runPart d mc ms P) 120 = oIld 4 122 := rfl
set_option maxRecDepth 20000 in
theorem lX5_runPart_122 : lk (tX5_runPart d mc ms P) 122 = oPush (.int 1) 123 := rfl
set_option maxRecDepth 20000 in
theorem lX5_runPart_123 : lk (tX5_runPart d mc ms P) 123 = oMm (fun x y => if x < y then y else x) mc ms 126 := rfl
set_option maxRecDepth 20000 in
theorem lX5_runPart_126 : lk (tX5_runPart d mc ms P) 126 = oIst 8 128 := rfl
set_option maxRecDepth 20000 in
theorem lX5_runPart_128 : lk (tX5_runPart d mc ms P) 128 = oIld 6 130 := rfl
set_option maxRecDepth 20000 in
theorem lX5_runPart_130 : lk (tX5_runPart d mc ms P) 130 = oIst 9 132 := rfl
set_option maxRecDepth 20000 in
theorem lX5_runPart_132 : lk (tX5_runPart d mc ms P) 132 = oIld 9 134 := rfl
set_option maxRecDepth 20000 in
theorem lX5_runPart_134 : lk (tX5_runPart d mc ms P) 134 = oIld 7 136 := rfl
set_option maxRecDepth 20000 in
theorem lX5_runPart_136 : lk (tX5_runPart d mc ms P) 136 = oIc (fun x y => y ≤ x) 157 139 := rfl
set_option maxRecDepth 20000 in
theorem lX5_runPart_139 : lk (tX5_runPart d mc ms P) 139 = oAld 0 140 := rfl
set_option maxRecDepth 20000 in
theorem lX5_runPart_140 : lk (tX5_runPart d mc ms P) 140 = oAld 1 141 := rfl
set_option maxRecDepth 20000 in
theorem lX5_runPart_141 : lk (tX5_runPart d mc ms P) 141 = oIld 3 142 := rfl
set_option maxRecDepth 20000 in
theorem lX5_runPart_142 : lk (tX5_runPart d mc ms P) 142 = oIld 9 144 := rfl
set_option maxRecDepth 20000 in
theorem lX5_runPart_144 : lk (tX5_runPart d mc ms P) 144 = oDisp 3 [(2, oCallV d mc ms P 0 0 yX5_runIteration (Cond.code yX5_runIteration cX5_runIteration 5 none) 3 2 147), (4, oCallV d mc ms P 0 0 yX5_runIteration (Cond.code yX5_runIteration cX5_runIteration 5 none) 3 4 147)] := rfl
set_option maxRecDepth 20000 in
theorem lX5_runPart_147 : lk (tX5_runPart d mc ms P) 147 = oIld 9 149 := rfl
set_option maxRecDepth 20000 in
theorem lX5_runPart_149 : lk (tX5_runPart d mc ms P) 149 = oIld 8 151 := rfl
set_option maxRecDepth 20000 in
theorem lX5_runPart_151 : lk (tX5_runPart d mc ms P) 151 = oI2 (fun x y => x + y) 152 := rfl
set_option maxRecDepth 20000 in
theorem lX5_runPart_152 : lk (tX5_runPart d mc ms P) 152 = oIst 9 154 := rfl
set_option maxRecDepth 20000 in
theorem lX5_runPart_154 : lk (tX5_runPart d mc ms P) 154 = oGoto 132 := rfl
set_option maxRecDepth 20000 in
theorem lX5_runPart_157 : lk (tX5_runPart d mc ms P) 157 = oRetV mc ms P := rfl
theorem lX5_joinTree_0 : lk (tX5_joinTree d mc ms P) 0 = oIld 2 1 := rfl
theorem lX5_joinTree_1 : lk (tX5_joinTree d mc ms P) 1 = oIst 3 2 := rfl
theorem lX5_joinTree_2 : lk (tX5_joinTree d mc ms P) 2 = oIld 3 3 := rfl
theorem lX5_joinTree_3 : lk (tX5_joinTree d mc ms P) 3 = oPush (.int 1) 4 := rfl
theorem lX5_joinTree_4 : lk (tX5_joinTree d mc ms P) 4 = oIc (fun x y => x ≤ y) 75 7 := rfl
theorem lX5_joinTree_7 : lk (tX5_joinTree d mc ms P) 7 = oPush (.int 0) 8 := rfl
theorem lX5_joinTree_8 : lk (tX5_joinTree d mc ms P) 8 = oIst 4 10 := rfl
theorem lX5_joinTree_10 : lk (tX5_joinTree d mc ms P) 10 = oIld 4 12 := rfl
theorem lX5_joinTree_12 : lk (tX5_joinTree d mc ms P) 12 = oIld 3 13 := rfl
theorem lX5_joinTree_13 : lk (tX5_joinTree d mc ms P) 13 = oPush (.int 2) 14 := rfl
theorem lX5_joinTree_14 : lk (tX5_joinTree d mc ms P) 14 = oI2n (fun x y => x / y) 15 := rfl
theorem lX5_joinTree_15 : lk (tX5_joinTree d mc ms P) 15 = oIc (fun x y => y ≤ x) 48 18 := rfl
theorem lX5_joinTree_18 : lk (tX5_joinTree d mc ms P) 18 = oAld 0 19 := rfl
theorem lX5_joinTree_19 : lk (tX5_joinTree d mc ms P) 19 = oAld 1 20 := rfl
theorem lX5_joinTree_20 : lk (tX5_joinTree d mc ms P) 20 = oIld 4 22 := rfl
theorem lX5_joinTree_22 : lk (tX5_joinTree d mc ms P) 22 = oPush (.int 2) 23 := rfl
theorem lX5_joinTree_23 : lk (tX5_joinTree d mc ms P) 23 = oIld 4 25 := rfl
theorem lX5_joinTree_25 : lk (tX5_joinTree d mc ms P) 25 = oI2 (fun x y => x * y) 26 := rfl
theorem lX5_joinTree_26 : lk (tX5_joinTree d mc ms P) 26 = oDisp 3 [(2, oCallV d mc ms P 0 0 yX5_copyReductions (Cond.code yX5_copyReductions cX5_copyReductions 5 none) 3 2 29), (4, oCallV d mc ms P 0 0 yX5_copyReductions (Cond.code yX5_copyReductions cX5_copyReductions 5 none) 3 4 29)] := rfl
theorem lX5_joinTree_29 : lk (tX5_joinTree d mc ms P) 29 = oAld 0 30 := rfl
theorem lX5_joinTree_30 : lk (tX5_joinTree d mc ms P) 30 = oAld 1 31 := rfl
theorem lX5_joinTree_31 : lk (tX5_joinTree d mc ms P) 31 = oIld 4 33 := rfl
theorem lX5_joinTree_33 : lk (tX5_joinTree d mc ms P) 33 = oPush (.int 2) 34 := rfl
theorem lX5_joinTree_34 : lk (tX5_joinTree d mc ms P) 34 = oIld 4 36 := rfl
theorem lX5_joinTree_36 : lk (tX5_joinTree d mc ms P) 36 = oI2 (fun x y => x * y) 37 := rfl
theorem lX5_joinTree_37 : lk (tX5_joinTree d mc ms P) 37 = oPush (.int 1) 38 := rfl
theorem lX5_joinTree_38 : lk (tX5_joinTree d mc ms P) 38 = oI2 (fun x y => x + y) 39 := rfl
theorem lX5_joinTree_39 : lk (tX5_joinTree d mc ms P) 39 = oDisp 3 [(2, oCallV d mc ms P 0 0 yX5_combineReductions (Cond.code yX5_combineReductions cX5_combineReductions 5 none) 3 2 42), (4, oCallV d mc ms P 0 0 yX5_combineReductions (Cond.code yX5_combineReductions cX5_combineReductions 5 none) 3 4 42)] := rfl
theorem lX5_joinTree_42 : lk (tX5_joinTree d mc ms P) 42 = oInc 4 1 45 := rfl
theorem lX5_joinTree_45 : lk (tX5_joinTree d mc ms P) 45 = oGoto 10 := rfl
theorem lX5_joinTree_48 : lk (tX5_joinTree d mc ms P) 48 = oIld 3 49 := rfl
theorem lX5_joinTree_49 : lk (tX5_joinTree d mc ms P) 49 = oPush (.int 2) 50 := rfl
theorem lX5_joinTree_50 : lk (tX5_joinTree d mc ms P) 50 = oI2n (fun x y => x - x / y * y) 51 := rfl
theorem lX5_joinTree_51 : lk (tX5_joinTree d mc ms P) 51 = oPush (.int 1) 52 := rfl
theorem lX5_joinTree_52 : lk (tX5_joinTree d mc ms P) 52 = oIc (fun x y => x = y) 55 66 := rfl
theorem lX5_joinTree_55 : lk (tX5_joinTree d mc ms P) 55 = oAld 0 56 := rfl
theorem lX5_joinTree_56 : lk (tX5_joinTree d mc ms P) 56 = oAld 1 57 := rfl
theorem lX5_joinTree_57 : lk (tX5_joinTree d mc ms P) 57 = oIld 3 58 := rfl
theorem lX5_joinTree_58 : lk (tX5_joinTree d mc ms P) 58 = oPush (.int 2) 59 := rfl
theorem lX5_joinTree_59 : lk (tX5_joinTree d mc ms P) 59 = oI2n (fun x y => x / y) 60 := rfl
theorem lX5_joinTree_60 : lk (tX5_joinTree d mc ms P) 60 = oIld 3 61 := rfl
theorem lX5_joinTree_61 : lk (tX5_joinTree d mc ms P) 61 = oPush (.int 1) 62 := rfl
theorem lX5_joinTree_62 : lk (tX5_joinTree d mc ms P) 62 = oI2 (fun x y => x - y) 63 := rfl
theorem lX5_joinTree_63 : lk (tX5_joinTree d mc ms P) 63 = oDisp 3 [(2, oCallV d mc ms P 0 0 yX5_copyReductions (Cond.code yX5_copyReductions cX5_copyReductions 5 none) 3 2 66), (4, oCallV d mc ms P 0 0 yX5_copyReductions (Cond.code yX5_copyReductions cX5_copyReductions 5 none) 3 4 66)] := rfl
theorem lX5_joinTree_66 : lk (tX5_joinTree d mc ms P) 66 = oIld 3 67 := rfl
theorem lX5_joinTree_67 : lk (tX5_joinTree d mc ms P) 67 = oPush (.int 1) 68 := rfl
theorem lX5_joinTree_68 : lk (tX5_joinTree d mc ms P) 68 = oI2 (fun x y => x + y) 69 := rfl
theorem lX5_joinTree_69 : lk (tX5_joinTree d mc ms P) 69 = oPush (.int 2) 70 := rfl
theorem lX5_joinTree_70 : lk (tX5_joinTree d mc ms P) 70 = oI2n (fun x y => x / y) 71 := rfl
theorem lX5_joinTree_71 : lk (tX5_joinTree d mc ms P) 71 = oIst 3 72 := rfl
theorem lX5_joinTree_72 : lk (tX5_joinTree d mc ms P) 72 = oGoto 2 := rfl
set_option maxRecDepth 20000 in
theorem lX5_joinTree_75 : lk (tX5_joinTree d mc ms P) 75 = oRetV mc ms P := rfl
theorem lX5_joinParts_0 : lk (tX5_joinParts d mc ms P) 0 = oPush (.int 0) 1 := rfl
theorem lX5_joinParts_1 : lk (tX5_joinParts d mc ms P) 1 = oIst 3 2 := rfl
theorem lX5_joinParts_2 : lk (tX5_joinParts d mc ms P) 2 = oIld 3 3 := rfl
theorem lX5_joinParts_3 : lk (tX5_joinParts d mc ms P) 3 = oPush (.int 8) 5 := rfl
theorem lX5_joinParts_5 : lk (tX5_joinParts d mc ms P) 5 = oIc (fun x y => y ≤ x) 40 8 := rfl
theorem lX5_joinParts_8 : lk (tX5_joinParts d mc ms P) 8 = oAld 1 9 := rfl
theorem lX5_joinParts_9 : lk (tX5_joinParts d mc ms P) 9 = oGr 6 11 12 := rfl
theorem lX5_joinParts_12 : lk (tX5_joinParts d mc ms P) 12 = oIld 3 13 := rfl
theorem lX5_joinParts_13 : lk (tX5_joinParts d mc ms P) 13 = oAi 100 14 := rfl
theorem lX5_joinParts_14 : lk (tX5_joinParts d mc ms P) 14 = oPush (.int 2) 15 := rfl
theorem lX5_joinParts_15 : lk (tX5_joinParts d mc ms P) 15 = oIc (fun x y => x = y) 18 34 := rfl
theorem lX5_joinParts_18 : lk (tX5_joinParts d mc ms P) 18 = oAld 0 19 := rfl
theorem lX5_joinParts_19 : lk (tX5_joinParts d mc ms P) 19 = oPush (.int 16) 21 := rfl
theorem lX5_joinParts_21 : lk (tX5_joinParts d mc ms P) 21 = oIld 3 22 := rfl
theorem lX5_joinParts_22 : lk (tX5_joinParts d mc ms P) 22 = oAld 0 23 := rfl
theorem lX5_joinParts_23 : lk (tX5_joinParts d mc ms P) 23 = oGr2 2 4 0 26 := rfl
theorem lX5_joinParts_26 : lk (tX5_joinParts d mc ms P) 26 = oGr 1 3 29 := rfl
theorem lX5_joinParts_29 : lk (tX5_joinParts d mc ms P) 29 = oIld 3 30 := rfl
theorem lX5_joinParts_30 : lk (tX5_joinParts d mc ms P) 30 = oAi 100 31 := rfl
theorem lX5_joinParts_31 : lk (tX5_joinParts d mc ms P) 31 = oDisp 3 [(2, oCallV d mc ms P 0 0 yX2_setInitialValue (Cond.code yX2_setInitialValue cX2_setInitialValue 4 none) 3 2 34), (4, oCallV d mc ms P 0 0 yX4_setInitialValue (Cond.code yX4_setInitialValue cX4_setInitialValue 4 none) 3 4 34)] := rfl
theorem lX5_joinParts_34 : lk (tX5_joinParts d mc ms P) 34 = oInc 3 1 37 := rfl
theorem lX5_joinParts_37 : lk (tX5_joinParts d mc ms P) 37 = oGoto 2 := rfl
theorem lX5_joinParts_40 : lk (tX5_joinParts d mc ms P) 40 = oPush (.int 0) 41 := rfl
theorem lX5_joinParts_41 : lk (tX5_joinParts d mc ms P) 41 = oIst 3 42 := rfl
theorem lX5_joinParts_42 : lk (tX5_joinParts d mc ms P) 42 = oIld 3 43 := rfl
theorem lX5_joinParts_43 : lk (tX5_joinParts d mc ms P) 43 = oIld 2 44 := rfl
theorem lX5_joinParts_44 : lk (tX5_joinParts d mc ms P) 44 = oIc (fun x y => y ≤ x) 61 47 := rfl
theorem lX5_joinParts_47 : lk (tX5_joinParts d mc ms P) 47 = oAld 0 48 := rfl
theorem lX5_joinParts_48 : lk (tX5_joinParts d mc ms P) 48 = oAld 1 49 := rfl
theorem lX5_joinParts_49 : lk (tX5_joinParts d mc ms P) 49 = oPush (.int 16) 51 := rfl
theorem lX5_joinParts_51 : lk (tX5_joinParts d mc ms P) 51 = oIld 3 52 := rfl
theorem lX5_joinParts_52 : lk (tX5_joinParts d mc ms P) 52 = oDisp 3 [(2, oCallV d mc ms P 0 0 yX5_combineReductions (Cond.code yX5_combineReductions cX5_combineReductions 5 none) 3 2 55), (4, oCallV d mc ms P 0 0 yX5_combineReductions (Cond.code yX5_combineReductions cX5_combineReductions 5 none) 3 4 55)] := rfl
theorem lX5_joinParts_55 : lk (tX5_joinParts d mc ms P) 55 = oInc 3 1 58 := rfl
theorem lX5_joinParts_58 : lk (tX5_joinParts d mc ms P) 58 = oGoto 42 := rfl
theorem lX5_joinParts_61 : lk (tX5_joinParts d mc ms P) 61 = oRetV mc ms P := rfl
theorem lX5_combineReductions_0 : lk (tX5_combineReductions d mc ms P) 0 = oPush (.int 0) 1 := rfl
theorem lX5_combineReductions_1 : lk (tX5_combineReductions d mc ms P) 1 = oIst 4 3 := rfl
theorem lX5_combineReductions_3 : lk (tX5_combineReductions d mc ms P) 3 = oIld 4 5 := rfl
theorem lX5_combineReductions_5 : lk (tX5_combineReductions d mc ms P) 5 = oPush (.int 8) 7 := rfl
theorem lX5_combineReductions_7 : lk (tX5_combineReductions d mc ms P) 7 = oIc (fun x y => y ≤ x) 46 10 := rfl
theorem lX5_combineReductions_10 : lk (tX5_combineReductions d mc ms P) 10 = oAld 1 11 := rfl
theorem lX5_combineReductions_11 : lk (tX5_combineReductions d mc ms P) 11 = oGr 6 11 14 := rfl
theorem lX5_combineReductions_14 : lk (tX5_combineReductions d mc ms P) 14 = oIld 4 16 := rfl
theorem lX5_combineReductions_16 : lk (tX5_combineReductions d mc ms P) 16 = oAi 100 17 := rfl
theorem lX5_combineReductions_17 : lk (tX5_combineReductions d mc ms P) 17 = oPush (.int 2) 18 := rfl
theorem lX5_combineReductions_18 : lk (tX5_combineReductions d mc ms P) 18 = oIc (fun x y => x = y) 21 40 := rfl
theorem lX5_combineReductions_21 : lk (tX5_combineReductions d mc ms P) 21 = oAld 0 22 := rfl
theorem lX5_combineReductions_22 : lk (tX5_combineReductions d mc ms P) 22 = oIld 2 23 := rfl
theorem lX5_combineReductions_23 : lk (tX5_combineReductions d mc ms P) 23 = oIld 3 24 := rfl
theorem lX5_combineReductions_24 : lk (tX5_combineReductions d mc ms P) 24 = oIld 4 26 := rfl
theorem lX5_combineReductions_26 : lk (tX5_combineReductions d mc ms P) 26 = oPush (.int 300) 29 := rfl
theorem lX5_combineReductions_29 : lk (tX5_combineReductions d mc ms P) 29 = oAld 1 30 := rfl
theorem lX5_combineReductions_30 : lk (tX5_combineReductions d mc ms P) 30 = oGr 6 12 33 := rfl
theorem lX5_combineReductions_33 : lk (tX5_combineReductions d mc ms P) 33 = oIld 4 35 := rfl
theorem lX5_combineReductions_35 : lk (tX5_combineReductions d mc ms P) 35 = oAi 100 36 := rfl
theorem lX5_combineReductions_36 : lk (tX5_combineReductions d mc ms P) 36 = oI2 (fun x y => x + y) 37 := rfl
theorem lX5_combineReductions_37 : lk (tX5_combineReductions d mc ms P) 37 = oDisp 4 [(2, oCallV d mc ms P 0 0 yX2_combine (Cond.code yX2_combine cX2_combine 5 none) 4 2 40), (4, oCallV d mc ms P 0 0 yX4_combine (Cond.code yX4_combine cX4_combine 5 none) 4 4 40)] := rfl
theorem lX5_combineReductions_40 : lk (tX5_combineReductions d mc ms P) 40 = oInc 4 1 43 := rfl
theorem lX5_combineReductions_43 : lk (tX5_combineReductions d mc ms P) 43 = oGoto 3 := rfl
theorem lX5_combineReductions_46 : lk (tX5_combineReductions d mc ms P) 46 = oRetV mc ms P := rfl
theorem lX5_copyReductions_0 : lk (tX5_copyReductions d mc ms P) 0 = oPush (.int 0) 1 := rfl
theorem lX5_copyReductions_1 : lk (tX5_copyReductions d mc ms P) 1 = oIst 4 3 := rfl
theorem lX5_copyReductions_3 : lk (tX5_copyReductions d mc ms P) 3 = oIld 4 5 := rfl
theorem lX5_copyReductions_5 : lk (tX5_copyReductions d mc ms P) 5 = oPush (.int 8) 7 := rfl
theorem lX5_copyReductions_7 : lk (tX5_copyReductions d mc ms P) 7 = oIc (fun x y => y ≤ x) 35 10 := rfl
theorem lX5_copyReductions_10 : lk (tX5_copyReductions d mc ms P) 10 = oAld 1 11 := rfl
theorem lX5_copyReductions_11 : lk (tX5_copyReductions d mc ms P) 11 = oGr 6 11 14 := rfl
theorem lX5_copyReductions_14 : lk (tX5_copyReductions d mc ms P) 14 = oIld 4 16 := rfl
theorem lX5_copyReductions_16 : lk (tX5_copyReductions d mc ms P) 16 = oAi 100 17 := rfl
theorem lX5_copyReductions_17 : lk (tX5_copyReductions d mc ms P) 17 = oPush (.int 2) 18 := rfl
theorem lX5_copyReductions_18 : lk (tX5_copyReductions d mc ms P) 18 = oIc (fun x y => x = y) 21 29 := rfl
theorem lX5_copyReductions_21 : lk (tX5_copyReductions d mc ms P) 21 = oAld 0 22 := rfl
theorem lX5_copyReductions_22 : lk (tX5_copyReductions d mc ms P) 22 = oIld 2 23 := rfl
theorem lX5_copyReductions_23 : lk (tX5_copyReductions d mc ms P) 23 = oIld 3 24 := rfl
theorem lX5_copyReductions_24 : lk (tX5_copyReductions d mc ms P) 24 = oIld 4 26 := rfl
theorem lX5_copyReductions_26 : lk (tX5_copyReductions d mc ms P) 26 = oDisp 3 [(2, oCallV d mc ms P 0 0 yX2_copyValue (Cond.code yX2_copyValue cX2_copyValue 4 none) 3 2 29), (4, oCallV d mc ms P 0 0 yX4_copyValue (Cond.code yX4_copyValue cX4_copyValue 4 none) 3 4 29)] := rfl
theorem lX5_copyReductions_29 : lk (tX5_copyReductions d mc ms P) 29 = oInc 4 1 32 := rfl
theorem lX5_copyReductions_32 : lk (tX5_copyReductions d mc ms P) 32 = oGoto 3 := rfl
theorem lX5_copyReductions_35 : lk (tX5_copyReductions d mc ms P) 35 = oRetV mc ms P := rfl
theorem lX5_beginRow_0 : lk (tX5_beginRow d mc ms P) 0 = oPush (.int 0) 1 := rfl
theorem lX5_beginRow_1 : lk (tX5_beginRow d mc ms P) 1 = oIst 2 2 := rfl
theorem lX5_beginRow_2 : lk (tX5_beginRow d mc ms P) 2 = oIld 2 3 := rfl
theorem lX5_beginRow_3 : lk (tX5_beginRow d mc ms P) 3 = oPush (.int 8) 5 := rfl
theorem lX5_beginRow_5 : lk (tX5_beginRow d mc ms P) 5 = oIc (fun x y => y ≤ x) 29 8 := rfl
theorem lX5_beginRow_8 : lk (tX5_beginRow d mc ms P) 8 = oAld 0 9 := rfl
theorem lX5_beginRow_9 : lk (tX5_beginRow d mc ms P) 9 = oIld 1 10 := rfl
theorem lX5_beginRow_10 : lk (tX5_beginRow d mc ms P) 10 = oIld 2 11 := rfl
theorem lX5_beginRow_11 : lk (tX5_beginRow d mc ms P) 11 = oAld 0 12 := rfl
theorem lX5_beginRow_12 : lk (tX5_beginRow d mc ms P) 12 = oGr2 2 4 0 15 := rfl
theorem lX5_beginRow_15 : lk (tX5_beginRow d mc ms P) 15 = oGr 1 3 18 := rfl
theorem lX5_beginRow_18 : lk (tX5_beginRow d mc ms P) 18 = oIld 2 19 := rfl
theorem lX5_beginRow_19 : lk (tX5_beginRow d mc ms P) 19 = oAi 100 20 := rfl
theorem lX5_beginRow_20 : lk (tX5_beginRow d mc ms P) 20 = oDisp 3 [(2, oCallV d mc ms P 0 0 yX2_setInitialValue (Cond.code yX2_setInitialValue cX2_setInitialValue 4 none) 3 2 23), (4, oCallV d mc ms P 0 0 yX4_setInitialValue (Cond.code yX4_setInitialValue cX4_setInitialValue 4 none) 3 4 23)] := rfl
theorem lX5_beginRow_23 : lk (tX5_beginRow d mc ms P) 23 = oInc 2 1 26 := rfl
theorem lX5_beginRow_26 : lk (tX5_beginRow d mc ms P) 26 = oGoto 2 := rfl
theorem lX5_beginRow_29 : lk (tX5_beginRow d mc ms P) 29 = oRetV mc ms P := rfl
theorem lX5_runIteration_0 : lk (tX5_runIteration d mc ms P) 0 = oAld 0 1 := rfl
theorem lX5_runIteration_1 : lk (tX5_runIteration d mc ms P) 1 = oIld 2 2 := rfl
theorem lX5_runIteration_2 : lk (tX5_runIteration d mc ms P) 2 = oPi2 2 4 1 5 := rfl
theorem lX5_runIteration_5 : lk (tX5_runIteration d mc ms P) 5 = oAld 0 6 := rfl
theorem lX5_runIteration_6 : lk (tX5_runIteration d mc ms P) 6 = oIld 3 7 := rfl
theorem lX5_runIteration_7 : lk (tX5_runIteration d mc ms P) 7 = oPi2 2 4 2 10 := rfl
theorem lX5_runIteration_10 : lk (tX5_runIteration d mc ms P) 10 = oPush (.int 0) 11 := rfl
theorem lX5_runIteration_11 : lk (tX5_runIteration d mc ms P) 11 = oIst 4 13 := rfl
theorem lX5_runIteration_13 : lk (tX5_runIteration d mc ms P) 13 = oIld 4 15 := rfl
theorem lX5_runIteration_15 : lk (tX5_runIteration d mc ms P) 15 = oAld 1 16 := rfl
theorem lX5_runIteration_16 : lk (tX5_runIteration d mc ms P) 16 = oGi 6 3 19 := rfl
theorem lX5_runIteration_19 : lk (tX5_runIteration d mc ms P) 19 = oIc (fun x y => y ≤ x) 61 22 := rfl
theorem lX5_runIteration_22 : lk (tX5_runIteration d mc ms P) 22 = oAld 0 23 := rfl
theorem lX5_runIteration_23 : lk (tX5_runIteration d mc ms P) 23 = oAld 1 24 := rfl
theorem lX5_runIteration_24 : lk (tX5_runIteration d mc ms P) 24 = oGr 6 0 27 := rfl
theorem lX5_runIteration_27 : lk (tX5_runIteration d mc ms P) 27 = oAld 1 28 := rfl
theorem lX5_runIteration_28 : lk (tX5_runIteration d mc ms P) 28 = oIld 4 30 := rfl
theorem lX5_runIteration_30 : lk (tX5_runIteration d mc ms P) 30 = oCallV d mc ms P 0 0 yX6_firstCodeOf (Cond.code yX6_firstCodeOf cX6_firstCodeOf 2 (some .int)) 1 6 33 := rfl
theorem lX5_runIteration_33 : lk (tX5_runIteration d mc ms P) 33 = oAld 1 34 := rfl
theorem lX5_runIteration_34 : lk (tX5_runIteration d mc ms P) 34 = oGr 6 2 37 := rfl
theorem lX5_runIteration_37 : lk (tX5_runIteration d mc ms P) 37 = oIld 4 39 := rfl
theorem lX5_runIteration_39 : lk (tX5_runIteration d mc ms P) 39 = oAi 100 40 := rfl
theorem lX5_runIteration_40 : lk (tX5_runIteration d mc ms P) 40 = oDisp 3 [(2, oCallV d mc ms P 0 0 yX8_walk (Cond.code yX8_walk cX8_walk 9 none) 3 2 43), (4, oCallV d mc ms P 0 0 yX8_walk (Cond.code yX8_walk cX8_walk 9 none) 3 4 43)] := rfl
theorem lX5_runIteration_43 : lk (tX5_runIteration d mc ms P) 43 = oAld 0 44 := rfl
theorem lX5_runIteration_44 : lk (tX5_runIteration d mc ms P) 44 = oIld 2 45 := rfl
theorem lX5_runIteration_45 : lk (tX5_runIteration d mc ms P) 45 = oAld 1 46 := rfl
theorem lX5_runIteration_46 : lk (tX5_runIteration d mc ms P) 46 = oGr 6 1 49 := rfl
theorem lX5_runIteration_49 : lk (tX5_runIteration d mc ms P) 49 = oIld 4 51 := rfl
theorem lX5_runIteration_51 : lk (tX5_runIteration d mc ms P) 51 = oAi 100 52 := rfl
theorem lX5_runIteration_52 : lk (tX5_runIteration d mc ms P) 52 = oDisp 2 [(2, oCallV d mc ms P 0 0 yX2_storeValue (Cond.code yX2_storeValue cX2_storeValue 3 none) 2 2 55), (4, oCallV d mc ms P 0 0 yX4_storeValue (Cond.code yX4_storeValue cX4_storeValue 3 none) 2 4 55)] := rfl
theorem lX5_runIteration_55 : lk (tX5_runIteration d mc ms P) 55 = oInc 4 1 58 := rfl
theorem lX5_runIteration_58 : lk (tX5_runIteration d mc ms P) 58 = oGoto 13 := rfl
theorem lX5_runIteration_61 : lk (tX5_runIteration d mc ms P) 61 = oRetV mc ms P := rfl
end
