section
variable {d mc ms : Nat} {P : PO}
theorem lX8_walk_0 : lk (tX8_walk d mc ms P) 0 = oPush (.int 0) 1 := rfl
theorem lX8_walk_1 : lk (tX8_walk d mc ms P) 1 = oIst 4 3 := rfl
theorem lX8_walk_3 : lk (tX8_walk d mc ms P) 3 = oIld 3 4 := rfl
theorem lX8_walk_4 : lk (tX8_walk d mc ms P) 4 = oAld 1 5 := rfl
theorem lX8_walk_5 : lk (tX8_walk d mc ms P) 5 = oAlen 6 := rfl
theorem lX8_walk_6 : lk (tX8_walk d mc ms P) 6 = oMm (fun x y => if y < x then y else x) mc ms 9 := rfl
theorem lX8_walk_9 : lk (tX8_walk d mc ms P) 9 = oPush (.int 1) 10 := rfl
theorem lX8_walk_10 : lk (tX8_walk d mc ms P) 10 = oI2 (fun x y => x - y) 11 := rfl
theorem lX8_walk_11 : lk (tX8_walk d mc ms P) 11 = oIst 5 13 := rfl
theorem lX8_walk_13 : lk (tX8_walk d mc ms P) 13 = oIld 5 15 := rfl
theorem lX8_walk_15 : lk (tX8_walk d mc ms P) 15 = oIst 6 17 := rfl
theorem lX8_walk_17 : lk (tX8_walk d mc ms P) 17 = oIld 6 19 := rfl
theorem lX8_walk_19 : lk (tX8_walk d mc ms P) 19 = oIld 2 20 := rfl
theorem lX8_walk_20 : lk (tX8_walk d mc ms P) 20 = oIc (fun x y => x < y) 125 23 := rfl
theorem lX8_walk_23 : lk (tX8_walk d mc ms P) 23 = oIld 6 25 := rfl
theorem lX8_walk_25 : lk (tX8_walk d mc ms P) 25 = oIf (fun x => x < 0) 125 28 := rfl
theorem lX8_walk_28 : lk (tX8_walk d mc ms P) 28 = oAld 1 29 := rfl
theorem lX8_walk_29 : lk (tX8_walk d mc ms P) 29 = oIld 6 31 := rfl
theorem lX8_walk_31 : lk (tX8_walk d mc ms P) 31 = oAi 100 32 := rfl
theorem lX8_walk_32 : lk (tX8_walk d mc ms P) 32 = oIst 7 34 := rfl
theorem lX8_walk_34 : lk (tX8_walk d mc ms P) 34 = oIld 7 36 := rfl
theorem lX8_walk_36 : lk (tX8_walk d mc ms P) 36 = oCallS d mc ms P 0 0 yX9_operandsOf (Cond.code yX9_operandsOf cX9_operandsOf 1 (some .int)) 1 39 := rfl
theorem lX8_walk_39 : lk (tX8_walk d mc ms P) 39 = oIst 8 41 := rfl
theorem lX8_walk_41 : lk (tX8_walk d mc ms P) 41 = oIld 8 43 := rfl
theorem lX8_walk_43 : lk (tX8_walk d mc ms P) 43 = oIf (fun x => x = 0) 46 68 := rfl
theorem lX8_walk_46 : lk (tX8_walk d mc ms P) 46 = oIld 4 48 := rfl
theorem lX8_walk_48 : lk (tX8_walk d mc ms P) 48 = oPush (.int 200) 51 := rfl
theorem lX8_walk_51 : lk (tX8_walk d mc ms P) 51 = oIc (fun x y => y ≤ x) 68 54 := rfl
theorem lX8_walk_54 : lk (tX8_walk d mc ms P) 54 = oAld 0 55 := rfl
theorem lX8_walk_55 : lk (tX8_walk d mc ms P) 55 = oIld 4 57 := rfl
theorem lX8_walk_57 : lk (tX8_walk d mc ms P) 57 = oIld 7 59 := rfl
theorem lX8_walk_59 : lk (tX8_walk d mc ms P) 59 = oDisp 2 [(0, oCallV d mc ms P 0 0 yX0_putLeaf (Cond.code yX0_putLeaf cX0_putLeaf 3 none) 2 0 62), (2, oCallV d mc ms P 0 0 yX2_putLeaf (Cond.code yX2_putLeaf cX2_putLeaf 3 none) 2 2 62), (3, oCallV d mc ms P 0 0 yX3_putLeaf (Cond.code yX3_putLeaf cX3_putLeaf 3 none) 2 3 62), (4, oCallV d mc ms P 0 0 yX4_putLeaf (Cond.code yX4_putLeaf cX4_putLeaf 3 none) 2 4 62)] := rfl
theorem lX8_walk_62 : lk (tX8_walk d mc ms P) 62 = oInc 4 1 65 := rfl
theorem lX8_walk_65 : lk (tX8_walk d mc ms P) 65 = oGoto 119 := rfl
theorem lX8_walk_68 : lk (tX8_walk d mc ms P) 68 = oIld 8 70 := rfl
theorem lX8_walk_70 : lk (tX8_walk d mc ms P) 70 = oPush (.int 2) 71 := rfl
theorem lX8_walk_71 : lk (tX8_walk d mc ms P) 71 = oIc (fun x y => x = y) 74 96 := rfl
theorem lX8_walk_74 : lk (tX8_walk d mc ms P) 74 = oIld 4 76 := rfl
theorem lX8_walk_76 : lk (tX8_walk d mc ms P) 76 = oPush (.int 2) 77 := rfl
theorem lX8_walk_77 : lk (tX8_walk d mc ms P) 77 = oIc (fun x y => x < y) 96 80 := rfl
theorem lX8_walk_80 : lk (tX8_walk d mc ms P) 80 = oInc 4 (-1) 83 := rfl
theorem lX8_walk_83 : lk (tX8_walk d mc ms P) 83 = oAld 0 84 := rfl
theorem lX8_walk_84 : lk (tX8_walk d mc ms P) 84 = oIld 4 86 := rfl
theorem lX8_walk_86 : lk (tX8_walk d mc ms P) 86 = oPush (.int 1) 87 := rfl
theorem lX8_walk_87 : lk (tX8_walk d mc ms P) 87 = oI2 (fun x y => x - y) 88 := rfl
theorem lX8_walk_88 : lk (tX8_walk d mc ms P) 88 = oIld 7 90 := rfl
theorem lX8_walk_90 : lk (tX8_walk d mc ms P) 90 = oDisp 2 [(0, oCallV d mc ms P 0 0 yX0_joinPair (Cond.code yX0_joinPair cX0_joinPair 6 none) 2 0 93), (2, oCallV d mc ms P 0 0 yX2_joinPair (Cond.code yX2_joinPair cX2_joinPair 3 none) 2 2 93), (3, oCallV d mc ms P 0 0 yX3_joinPair (Cond.code yX3_joinPair cX3_joinPair 3 none) 2 3 93), (4, oCallV d mc ms P 0 0 yX4_joinPair (Cond.code yX4_joinPair cX4_joinPair 3 none) 2 4 93)] := rfl
theorem lX8_walk_93 : lk (tX8_walk d mc ms P) 93 = oGoto 119 := rfl
theorem lX8_walk_96 : lk (tX8_walk d mc ms P) 96 = oIld 8 98 := rfl
theorem lX8_walk_98 : lk (tX8_walk d mc ms P) 98 = oPush (.int 3) 99 := rfl
theorem lX8_walk_99 : lk (tX8_walk d mc ms P) 99 = oIc (fun x y => x = y) 102 119 := rfl
set_option maxRecDepth 20000 in
theorem lX8_walk_102 : lk (tX8_walk d mc ms P) 102 = oIld 4 104 := rfl
set_option maxRecDepth 20000 in
theorem lX8_walk_104 : lk (tX8_walk d mc ms P) 104 = oPush (.int 3) 105 := rfl
set_option maxRecDepth 20000 in
theorem lX8_walk_105 : lk (tX8_walk d mc ms P) 105 = oIc (fun x y => x < y) 119 108 := rfl
set_option maxRecDepth 20000 in
theorem lX8_walk_108 : lk (tX8_walk d mc ms P) 108 = oInc 4 (-2) 111 := rfl
set_option maxRecDepth 20000 in
theorem lX8_walk_111 : lk (tX8_walk d mc ms P) 111 = oAld 0 112 := rfl
set_option maxRecDepth 20000 in
theorem lX8_walk_112 : lk (tX8_walk d mc ms P) 112 = oIld 4 114 := rfl
set_option maxRecDepth 20000 in
theorem lX8_walk_114 : lk (tX8_walk d mc ms P) 114 = oPush (.int 1) 115 := rfl
set_option maxRecDepth 20000 in
theorem lX8_walk_115 : lk (tX8_walk d mc ms P) 115 = oI2 (fun x y => x - y) 116 := rfl
set_option maxRecDepth 20000 in
theorem lX8_walk_116 : lk (tX8_walk d mc ms P) 116 = oDisp 1 [(0, oCallV d mc ms P 0 0 yX0_joinChoice (Cond.code yX0_joinChoice cX0_joinChoice 5 none) 1 0 119), (2, oCallV d mc ms P 0 0 yX2_joinChoice (Cond.code yX2_joinChoice cX2_joinChoice 2 none) 1 2 119), (3, oCallV d mc ms P 0 0 yX3_joinChoice (Cond.code yX3_joinChoice cX3_joinChoice 2 none) 1 3 119), (4, oCallV d mc ms P 0 0 yX4_joinChoice (Cond.code yX4_joinChoice cX4_joinChoice 2 none) 1 4 119)] := rfl
set_option maxRecDepth 20000 in
theorem lX8_walk_119 : lk (tX8_walk d mc ms P) 119 = oInc 6 (-1) 122 := rfl
set_option maxRecDepth 20000 in
theorem lX8_walk_122 : lk (tX8_walk d mc ms P) 122 = oGoto 17 := rfl
set_option maxRecDepth 20000 in
theorem lX8_walk_125 : lk (tX8_walk d mc ms P) 125 = oRetV mc ms P := rfl
end
