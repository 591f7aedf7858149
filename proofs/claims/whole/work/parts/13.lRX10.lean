section
variable {d mc ms : Nat} {P : PO}
theorem lX10_thrown_0 : lk (tX10_thrown d mc ms P) 0 = oAld 0 1 := rfl
theorem lX10_thrown_1 : lk (tX10_thrown d mc ms P) 1 = oGi 10 0 4 := rfl
theorem lX10_thrown_4 : lk (tX10_thrown d mc ms P) 4 = oRetI mc ms P := rfl
theorem lX10_in_0 : lk (tX10_in d mc ms P) 0 = oIld 0 1 := rfl
theorem lX10_in_1 : lk (tX10_in d mc ms P) 1 = oIld 1 2 := rfl
theorem lX10_in_2 : lk (tX10_in d mc ms P) 2 = oIc (fun x y => x < y) 14 5 := rfl
theorem lX10_in_5 : lk (tX10_in d mc ms P) 5 = oIld 0 6 := rfl
theorem lX10_in_6 : lk (tX10_in d mc ms P) 6 = oIld 2 7 := rfl
theorem lX10_in_7 : lk (tX10_in d mc ms P) 7 = oIc (fun x y => y < x) 14 10 := rfl
theorem lX10_in_10 : lk (tX10_in d mc ms P) 10 = oPush (.int 1) 11 := rfl
theorem lX10_in_11 : lk (tX10_in d mc ms P) 11 = oGoto 15 := rfl
theorem lX10_in_14 : lk (tX10_in d mc ms P) 14 = oPush (.int 0) 15 := rfl
theorem lX10_in_15 : lk (tX10_in d mc ms P) 15 = oRetZ mc ms P := rfl
theorem lX10_raises_0 : lk (tX10_raises d mc ms P) 0 = oAld 0 1 := rfl
theorem lX10_raises_1 : lk (tX10_raises d mc ms P) 1 = oIld 1 2 := rfl
theorem lX10_raises_2 : lk (tX10_raises d mc ms P) 2 = oPi 10 0 5 := rfl
theorem lX10_raises_5 : lk (tX10_raises d mc ms P) 5 = oPush (.int 0) 6 := rfl
theorem lX10_raises_6 : lk (tX10_raises d mc ms P) 6 = oRetI mc ms P := rfl
theorem lX10_isVariable_0 : lk (tX10_isVariable d mc ms P) 0 = oIld 0 1 := rfl
theorem lX10_isVariable_1 : lk (tX10_isVariable d mc ms P) 1 = oPush (.int 0) 2 := rfl
theorem lX10_isVariable_2 : lk (tX10_isVariable d mc ms P) 2 = oPush (.int 7) 4 := rfl
theorem lX10_isVariable_4 : lk (tX10_isVariable d mc ms P) 4 = oCallS d mc ms P 0 0 yX10_in (Cond.code yX10_in cX10_in 3 (some .boolean)) 3 7 := rfl
theorem lX10_isVariable_7 : lk (tX10_isVariable d mc ms P) 7 = oRetZ mc ms P := rfl
theorem lX10_append_0 : lk (tX10_append d mc ms P) 0 = oAld 0 1 := rfl
theorem lX10_append_1 : lk (tX10_append d mc ms P) 1 = oPush (.int 0) 2 := rfl
theorem lX10_append_2 : lk (tX10_append d mc ms P) 2 = oPi 10 0 5 := rfl
theorem lX10_append_5 : lk (tX10_append d mc ms P) 5 = oPush (.int 0) 6 := rfl
theorem lX10_append_6 : lk (tX10_append d mc ms P) 6 = oIst 2 7 := rfl
theorem lX10_append_7 : lk (tX10_append d mc ms P) 7 = oPush (.int 24) 9 := rfl
theorem lX10_append_9 : lk (tX10_append d mc ms P) 9 = oIst 3 10 := rfl
theorem lX10_append_10 : lk (tX10_append d mc ms P) 10 = oIld 3 11 := rfl
theorem lX10_append_11 : lk (tX10_append d mc ms P) 11 = oIf (fun x => x < 0) 58 14 := rfl
theorem lX10_append_14 : lk (tX10_append d mc ms P) 14 = oIld 1 15 := rfl
theorem lX10_append_15 : lk (tX10_append d mc ms P) 15 = oIld 3 16 := rfl
theorem lX10_append_16 : lk (tX10_append d mc ms P) 16 = oI2 (fun x y => (x.toUInt32 >>> (y.toUInt32 &&& Int32.toUInt32 31)).toInt32) 17 := rfl
theorem lX10_append_17 : lk (tX10_append d mc ms P) 17 = oPush (.int 255) 20 := rfl
theorem lX10_append_20 : lk (tX10_append d mc ms P) 20 = oI2 (fun x y => x &&& y) 21 := rfl
theorem lX10_append_21 : lk (tX10_append d mc ms P) 21 = oIst 4 23 := rfl
theorem lX10_append_23 : lk (tX10_append d mc ms P) 23 = oIld 4 25 := rfl
theorem lX10_append_25 : lk (tX10_append d mc ms P) 25 = oIf (fun x => x = 0) 28 31 := rfl
theorem lX10_append_28 : lk (tX10_append d mc ms P) 28 = oGoto 52 := rfl
theorem lX10_append_31 : lk (tX10_append d mc ms P) 31 = oIld 4 33 := rfl
theorem lX10_append_33 : lk (tX10_append d mc ms P) 33 = oPush (.int 33) 35 := rfl
theorem lX10_append_35 : lk (tX10_append d mc ms P) 35 = oPush (.int 126) 37 := rfl
theorem lX10_append_37 : lk (tX10_append d mc ms P) 37 = oCallS d mc ms P 0 0 yX10_in (Cond.code yX10_in cX10_in 3 (some .boolean)) 3 40 := rfl
theorem lX10_append_40 : lk (tX10_append d mc ms P) 40 = oIf (fun x => x = 0) 43 49 := rfl
theorem lX10_append_43 : lk (tX10_append d mc ms P) 43 = oAld 0 44 := rfl
theorem lX10_append_44 : lk (tX10_append d mc ms P) 44 = oPush (.int 1) 45 := rfl
theorem lX10_append_45 : lk (tX10_append d mc ms P) 45 = oCallV d mc ms P 0 0 yX10_raises (Cond.code yX10_raises cX10_raises 2 (some .int)) 1 10 48 := rfl
theorem lX10_append_48 : lk (tX10_append d mc ms P) 48 = oRetI mc ms P := rfl
theorem lX10_append_49 : lk (tX10_append d mc ms P) 49 = oInc 2 1 52 := rfl
theorem lX10_append_52 : lk (tX10_append d mc ms P) 52 = oInc 3 (-8) 55 := rfl
theorem lX10_append_55 : lk (tX10_append d mc ms P) 55 = oGoto 10 := rfl
theorem lX10_append_58 : lk (tX10_append d mc ms P) 58 = oAld 0 59 := rfl
theorem lX10_append_59 : lk (tX10_append d mc ms P) 59 = oGi 10 6 62 := rfl
theorem lX10_append_62 : lk (tX10_append d mc ms P) 62 = oIld 2 63 := rfl
theorem lX10_append_63 : lk (tX10_append d mc ms P) 63 = oI2 (fun x y => x + y) 64 := rfl
theorem lX10_append_64 : lk (tX10_append d mc ms P) 64 = oPush (.int 100) 66 := rfl
theorem lX10_append_66 : lk (tX10_append d mc ms P) 66 = oIc (fun x y => x ≤ y) 75 69 := rfl
theorem lX10_append_69 : lk (tX10_append d mc ms P) 69 = oAld 0 70 := rfl
theorem lX10_append_70 : lk (tX10_append d mc ms P) 70 = oPush (.int 2) 71 := rfl
theorem lX10_append_71 : lk (tX10_append d mc ms P) 71 = oCallV d mc ms P 0 0 yX10_raises (Cond.code yX10_raises cX10_raises 2 (some .int)) 1 10 74 := rfl
theorem lX10_append_74 : lk (tX10_append d mc ms P) 74 = oRetI mc ms P := rfl
theorem lX10_append_75 : lk (tX10_append d mc ms P) 75 = oPush (.int 24) 77 := rfl
theorem lX10_append_77 : lk (tX10_append d mc ms P) 77 = oIst 3 78 := rfl
theorem lX10_append_78 : lk (tX10_append d mc ms P) 78 = oIld 3 79 := rfl
theorem lX10_append_79 : lk (tX10_append d mc ms P) 79 = oIf (fun x => x < 0) 120 82 := rfl
theorem lX10_append_82 : lk (tX10_append d mc ms P) 82 = oIld 1 83 := rfl
theorem lX10_append_83 : lk (tX10_append d mc ms P) 83 = oIld 3 84 := rfl
theorem lX10_append_84 : lk (tX10_append d mc ms P) 84 = oI2 (fun x y => (x.toUInt32 >>> (y.toUInt32 &&& Int32.toUInt32 31)).toInt32) 85 := rfl
theorem lX10_append_85 : lk (tX10_append d mc ms P) 85 = oPush (.int 255) 88 := rfl
theorem lX10_append_88 : lk (tX10_append d mc ms P) 88 = oI2 (fun x y => x &&& y) 89 := rfl
theorem lX10_append_89 : lk (tX10_append d mc ms P) 89 = oIst 4 91 := rfl
theorem lX10_append_91 : lk (tX10_append d mc ms P) 91 = oIld 4 93 := rfl
set_option maxRecDepth 20000 in
theorem lX10_append_93 : lk (tX10_append d mc ms P) 93 = oIf (fun x => x = 0) 114 96 := rfl
set_option maxRecDepth 20000 in
theorem lX10_append_96 : lk (tX10_append d mc ms P) 96 = oAld 0 97 := rfl
set_option maxRecDepth 20000 in
theorem lX10_append_97 : lk (tX10_append d mc ms P) 97 = oGr 10 5 100 := rfl
set_option maxRecDepth 20000 in
theorem lX10_append_100 : lk (tX10_append d mc ms P) 100 = oAld 0 101 := rfl
set_option maxRecDepth 20000 in
theorem lX10_append_101 : lk (tX10_append d mc ms P) 101 = oDup 102 := rfl
set_option maxRecDepth 20000 in
theorem lX10_append_102 : lk (tX10_append d mc ms P) 102 = oGi 10 6 105 := rfl
set_option maxRecDepth 20000 in
theorem lX10_append_105 : lk (tX10_append d mc ms P) 105 = oDupx1 106 := rfl
set_option maxRecDepth 20000 in
theorem lX10_append_106 : lk (tX10_append d mc ms P) 106 = oPush (.int 1) 107 := rfl
set_option maxRecDepth 20000 in
theorem lX10_append_107 : lk (tX10_append d mc ms P) 107 = oI2 (fun x y => x + y) 108 := rfl
set_option maxRecDepth 20000 in
theorem lX10_append_108 : lk (tX10_append d mc ms P) 108 = oPi 10 6 111 := rfl
set_option maxRecDepth 20000 in
theorem lX10_append_111 : lk (tX10_append d mc ms P) 111 = oIld 4 113 := rfl
set_option maxRecDepth 20000 in
theorem lX10_append_113 : lk (tX10_append d mc ms P) 113 = oSi 100 (fun x => x) 114 := rfl
set_option maxRecDepth 20000 in
theorem lX10_append_114 : lk (tX10_append d mc ms P) 114 = oInc 3 (-8) 117 := rfl
set_option maxRecDepth 20000 in
theorem lX10_append_117 : lk (tX10_append d mc ms P) 117 = oGoto 78 := rfl
set_option maxRecDepth 20000 in
theorem lX10_append_120 : lk (tX10_append d mc ms P) 120 = oAld 0 121 := rfl
set_option maxRecDepth 20000 in
theorem lX10_append_121 : lk (tX10_append d mc ms P) 121 = oGi 10 6 124 := rfl
set_option maxRecDepth 20000 in
theorem lX10_append_124 : lk (tX10_append d mc ms P) 124 = oRetI mc ms P := rfl
theorem lX10_here_0 : lk (tX10_here d mc ms P) 0 = oAld 0 1 := rfl
theorem lX10_here_1 : lk (tX10_here d mc ms P) 1 = oGi 10 7 4 := rfl
theorem lX10_here_4 : lk (tX10_here d mc ms P) 4 = oAld 0 5 := rfl
theorem lX10_here_5 : lk (tX10_here d mc ms P) 5 = oGi 10 6 8 := rfl
theorem lX10_here_8 : lk (tX10_here d mc ms P) 8 = oIc (fun x y => y ≤ x) 23 11 := rfl
theorem lX10_here_11 : lk (tX10_here d mc ms P) 11 = oAld 0 12 := rfl
theorem lX10_here_12 : lk (tX10_here d mc ms P) 12 = oGr 10 5 15 := rfl
theorem lX10_here_15 : lk (tX10_here d mc ms P) 15 = oAld 0 16 := rfl
theorem lX10_here_16 : lk (tX10_here d mc ms P) 16 = oGi 10 7 19 := rfl
theorem lX10_here_19 : lk (tX10_here d mc ms P) 19 = oAi 100 20 := rfl
theorem lX10_here_20 : lk (tX10_here d mc ms P) 20 = oGoto 24 := rfl
theorem lX10_here_23 : lk (tX10_here d mc ms P) 23 = oPush (.int 0) 24 := rfl
theorem lX10_here_24 : lk (tX10_here d mc ms P) 24 = oRetI mc ms P := rfl
theorem lX10_takes_0 : lk (tX10_takes d mc ms P) 0 = oAld 0 1 := rfl
theorem lX10_takes_1 : lk (tX10_takes d mc ms P) 1 = oGi 10 9 4 := rfl
theorem lX10_takes_4 : lk (tX10_takes d mc ms P) 4 = oIf (fun x => x = 0) 7 15 := rfl
theorem lX10_takes_7 : lk (tX10_takes d mc ms P) 7 = oAld 0 8 := rfl
theorem lX10_takes_8 : lk (tX10_takes d mc ms P) 8 = oCallV d mc ms P 0 0 yX10_here (Cond.code yX10_here cX10_here 1 (some .int)) 0 10 11 := rfl
theorem lX10_takes_11 : lk (tX10_takes d mc ms P) 11 = oIld 1 12 := rfl
theorem lX10_takes_12 : lk (tX10_takes d mc ms P) 12 = oIc (fun x y => x = y) 17 15 := rfl
theorem lX10_takes_15 : lk (tX10_takes d mc ms P) 15 = oPush (.int 0) 16 := rfl
theorem lX10_takes_16 : lk (tX10_takes d mc ms P) 16 = oRetZ mc ms P := rfl
theorem lX10_takes_17 : lk (tX10_takes d mc ms P) 17 = oAld 0 18 := rfl
theorem lX10_takes_18 : lk (tX10_takes d mc ms P) 18 = oDup 19 := rfl
theorem lX10_takes_19 : lk (tX10_takes d mc ms P) 19 = oGi 10 7 22 := rfl
theorem lX10_takes_22 : lk (tX10_takes d mc ms P) 22 = oPush (.int 1) 23 := rfl
theorem lX10_takes_23 : lk (tX10_takes d mc ms P) 23 = oI2 (fun x y => x + y) 24 := rfl
theorem lX10_takes_24 : lk (tX10_takes d mc ms P) 24 = oPi 10 7 27 := rfl
theorem lX10_takes_27 : lk (tX10_takes d mc ms P) 27 = oPush (.int 1) 28 := rfl
theorem lX10_takes_28 : lk (tX10_takes d mc ms P) 28 = oRetZ mc ms P := rfl
theorem lX10_expects_0 : lk (tX10_expects d mc ms P) 0 = oAld 0 1 := rfl
theorem lX10_expects_1 : lk (tX10_expects d mc ms P) 1 = oIld 1 2 := rfl
theorem lX10_expects_2 : lk (tX10_expects d mc ms P) 2 = oCallV d mc ms P 0 0 yX10_takes (Cond.code yX10_takes cX10_takes 2 (some .boolean)) 1 10 5 := rfl
theorem lX10_expects_5 : lk (tX10_expects d mc ms P) 5 = oIf (fun x => x = 0) 8 13 := rfl
theorem lX10_expects_8 : lk (tX10_expects d mc ms P) 8 = oAld 0 9 := rfl
theorem lX10_expects_9 : lk (tX10_expects d mc ms P) 9 = oPush (.int 1) 10 := rfl
theorem lX10_expects_10 : lk (tX10_expects d mc ms P) 10 = oPz 10 9 13 := rfl
theorem lX10_expects_13 : lk (tX10_expects d mc ms P) 13 = oRetV mc ms P := rfl
theorem lX10_node_0 : lk (tX10_node d mc ms P) 0 = oAld 0 1 := rfl
theorem lX10_node_1 : lk (tX10_node d mc ms P) 1 = oGr 10 11 4 := rfl
theorem lX10_node_4 : lk (tX10_node d mc ms P) 4 = oAld 0 5 := rfl
theorem lX10_node_5 : lk (tX10_node d mc ms P) 5 = oGi 10 15 8 := rfl
theorem lX10_node_8 : lk (tX10_node d mc ms P) 8 = oIld 1 9 := rfl
theorem lX10_node_9 : lk (tX10_node d mc ms P) 9 = oSi 100 (fun x => x) 10 := rfl
theorem lX10_node_10 : lk (tX10_node d mc ms P) 10 = oAld 0 11 := rfl
theorem lX10_node_11 : lk (tX10_node d mc ms P) 11 = oGr 10 12 14 := rfl
theorem lX10_node_14 : lk (tX10_node d mc ms P) 14 = oAld 0 15 := rfl
theorem lX10_node_15 : lk (tX10_node d mc ms P) 15 = oGi 10 15 18 := rfl
theorem lX10_node_18 : lk (tX10_node d mc ms P) 18 = oIld 2 19 := rfl
theorem lX10_node_19 : lk (tX10_node d mc ms P) 19 = oSi 100 (fun x => x) 20 := rfl
theorem lX10_node_20 : lk (tX10_node d mc ms P) 20 = oAld 0 21 := rfl
theorem lX10_node_21 : lk (tX10_node d mc ms P) 21 = oGr 10 13 24 := rfl
theorem lX10_node_24 : lk (tX10_node d mc ms P) 24 = oAld 0 25 := rfl
theorem lX10_node_25 : lk (tX10_node d mc ms P) 25 = oGi 10 15 28 := rfl
theorem lX10_node_28 : lk (tX10_node d mc ms P) 28 = oIld 3 29 := rfl
theorem lX10_node_29 : lk (tX10_node d mc ms P) 29 = oSi 100 (fun x => x) 30 := rfl
theorem lX10_node_30 : lk (tX10_node d mc ms P) 30 = oAld 0 31 := rfl
theorem lX10_node_31 : lk (tX10_node d mc ms P) 31 = oGr 10 14 34 := rfl
theorem lX10_node_34 : lk (tX10_node d mc ms P) 34 = oAld 0 35 := rfl
theorem lX10_node_35 : lk (tX10_node d mc ms P) 35 = oGi 10 15 38 := rfl
theorem lX10_node_38 : lk (tX10_node d mc ms P) 38 = oIld 4 40 := rfl
theorem lX10_node_40 : lk (tX10_node d mc ms P) 40 = oSi 100 (fun x => x) 41 := rfl
theorem lX10_node_41 : lk (tX10_node d mc ms P) 41 = oAld 0 42 := rfl
theorem lX10_node_42 : lk (tX10_node d mc ms P) 42 = oDup 43 := rfl
theorem lX10_node_43 : lk (tX10_node d mc ms P) 43 = oGi 10 15 46 := rfl
theorem lX10_node_46 : lk (tX10_node d mc ms P) 46 = oDupx1 47 := rfl
theorem lX10_node_47 : lk (tX10_node d mc ms P) 47 = oPush (.int 1) 48 := rfl
theorem lX10_node_48 : lk (tX10_node d mc ms P) 48 = oI2 (fun x y => x + y) 49 := rfl
theorem lX10_node_49 : lk (tX10_node d mc ms P) 49 = oPi 10 15 52 := rfl
theorem lX10_node_52 : lk (tX10_node d mc ms P) 52 = oRetI mc ms P := rfl
theorem lX10_expression_0 : lk (tX10_expression d mc ms P) 0 = oAld 0 1 := rfl
theorem lX10_expression_1 : lk (tX10_expression d mc ms P) 1 = oCallV d mc ms P 0 0 yX10_sum (Cond.code yX10_sum cX10_sum 3 (some .int)) 0 10 4 := rfl
theorem lX10_expression_4 : lk (tX10_expression d mc ms P) 4 = oIst 1 5 := rfl
theorem lX10_expression_5 : lk (tX10_expression d mc ms P) 5 = oAld 0 6 := rfl
theorem lX10_expression_6 : lk (tX10_expression d mc ms P) 6 = oGi 10 9 9 := rfl
theorem lX10_expression_9 : lk (tX10_expression d mc ms P) 9 = oIf (fun x => x = 0) 12 98 := rfl
theorem lX10_expression_12 : lk (tX10_expression d mc ms P) 12 = oAld 0 13 := rfl
theorem lX10_expression_13 : lk (tX10_expression d mc ms P) 13 = oCallV d mc ms P 0 0 yX10_here (Cond.code yX10_here cX10_here 1 (some .int)) 0 10 16 := rfl
theorem lX10_expression_16 : lk (tX10_expression d mc ms P) 16 = oPush (.int 38) 18 := rfl
theorem lX10_expression_18 : lk (tX10_expression d mc ms P) 18 = oIc (fun x y => x = y) 39 21 := rfl
theorem lX10_expression_21 : lk (tX10_expression d mc ms P) 21 = oAld 0 22 := rfl
theorem lX10_expression_22 : lk (tX10_expression d mc ms P) 22 = oCallV d mc ms P 0 0 yX10_here (Cond.code yX10_here cX10_here 1 (some .int)) 0 10 25 := rfl
theorem lX10_expression_25 : lk (tX10_expression d mc ms P) 25 = oPush (.int 124) 27 := rfl
theorem lX10_expression_27 : lk (tX10_expression d mc ms P) 27 = oIc (fun x y => x = y) 39 30 := rfl
theorem lX10_expression_30 : lk (tX10_expression d mc ms P) 30 = oAld 0 31 := rfl
theorem lX10_expression_31 : lk (tX10_expression d mc ms P) 31 = oCallV d mc ms P 0 0 yX10_here (Cond.code yX10_here cX10_here 1 (some .int)) 0 10 34 := rfl
theorem lX10_expression_34 : lk (tX10_expression d mc ms P) 34 = oPush (.int 94) 36 := rfl
theorem lX10_expression_36 : lk (tX10_expression d mc ms P) 36 = oIc (fun x y => x = y) 39 98 := rfl
theorem lX10_expression_39 : lk (tX10_expression d mc ms P) 39 = oAld 0 40 := rfl
theorem lX10_expression_40 : lk (tX10_expression d mc ms P) 40 = oCallV d mc ms P 0 0 yX10_here (Cond.code yX10_here cX10_here 1 (some .int)) 0 10 43 := rfl
theorem lX10_expression_43 : lk (tX10_expression d mc ms P) 43 = oPush (.int 38) 45 := rfl
theorem lX10_expression_45 : lk (tX10_expression d mc ms P) 45 = oIc (fun x y => x = y) 48 54 := rfl
theorem lX10_expression_48 : lk (tX10_expression d mc ms P) 48 = oPush (.int 302) 51 := rfl
theorem lX10_expression_51 : lk (tX10_expression d mc ms P) 51 = oGoto 72 := rfl
theorem lX10_expression_54 : lk (tX10_expression d mc ms P) 54 = oAld 0 55 := rfl
theorem lX10_expression_55 : lk (tX10_expression d mc ms P) 55 = oCallV d mc ms P 0 0 yX10_here (Cond.code yX10_here cX10_here 1 (some .int)) 0 10 58 := rfl
theorem lX10_expression_58 : lk (tX10_expression d mc ms P) 58 = oPush (.int 124) 60 := rfl
theorem lX10_expression_60 : lk (tX10_expression d mc ms P) 60 = oIc (fun x y => x = y) 63 69 := rfl
theorem lX10_expression_63 : lk (tX10_expression d mc ms P) 63 = oPush (.int 303) 66 := rfl
theorem lX10_expression_66 : lk (tX10_expression d mc ms P) 66 = oGoto 72 := rfl
theorem lX10_expression_69 : lk (tX10_expression d mc ms P) 69 = oPush (.int 304) 72 := rfl
theorem lX10_expression_72 : lk (tX10_expression d mc ms P) 72 = oIst 2 73 := rfl
theorem lX10_expression_73 : lk (tX10_expression d mc ms P) 73 = oAld 0 74 := rfl
theorem lX10_expression_74 : lk (tX10_expression d mc ms P) 74 = oDup 75 := rfl
theorem lX10_expression_75 : lk (tX10_expression d mc ms P) 75 = oGi 10 7 78 := rfl
theorem lX10_expression_78 : lk (tX10_expression d mc ms P) 78 = oPush (.int 1) 79 := rfl
theorem lX10_expression_79 : lk (tX10_expression d mc ms P) 79 = oI2 (fun x y => x + y) 80 := rfl
theorem lX10_expression_80 : lk (tX10_expression d mc ms P) 80 = oPi 10 7 83 := rfl
theorem lX10_expression_83 : lk (tX10_expression d mc ms P) 83 = oAld 0 84 := rfl
theorem lX10_expression_84 : lk (tX10_expression d mc ms P) 84 = oIld 2 85 := rfl
theorem lX10_expression_85 : lk (tX10_expression d mc ms P) 85 = oIld 1 86 := rfl
theorem lX10_expression_86 : lk (tX10_expression d mc ms P) 86 = oAld 0 87 := rfl
theorem lX10_expression_87 : lk (tX10_expression d mc ms P) 87 = oCallV d mc ms P 0 0 yX10_sum (Cond.code yX10_sum cX10_sum 3 (some .int)) 0 10 90 := rfl
theorem lX10_expression_90 : lk (tX10_expression d mc ms P) 90 = oPush (.int 0) 91 := rfl
theorem lX10_expression_91 : lk (tX10_expression d mc ms P) 91 = oCallV d mc ms P 0 0 yX10_node (Cond.code yX10_node cX10_node 5 (some .int)) 4 10 94 := rfl
theorem lX10_expression_94 : lk (tX10_expression d mc ms P) 94 = oIst 1 95 := rfl
theorem lX10_expression_95 : lk (tX10_expression d mc ms P) 95 = oGoto 5 := rfl
theorem lX10_expression_98 : lk (tX10_expression d mc ms P) 98 = oIld 1 99 := rfl
theorem lX10_expression_99 : lk (tX10_expression d mc ms P) 99 = oRetI mc ms P := rfl
theorem lX10_sum_0 : lk (tX10_sum d mc ms P) 0 = oAld 0 1 := rfl
theorem lX10_sum_1 : lk (tX10_sum d mc ms P) 1 = oCallV d mc ms P 0 0 yX10_product (Cond.code yX10_product cX10_product 2 (some .int)) 0 10 4 := rfl
theorem lX10_sum_4 : lk (tX10_sum d mc ms P) 4 = oIst 1 5 := rfl
theorem lX10_sum_5 : lk (tX10_sum d mc ms P) 5 = oAld 0 6 := rfl
theorem lX10_sum_6 : lk (tX10_sum d mc ms P) 6 = oGi 10 9 9 := rfl
theorem lX10_sum_9 : lk (tX10_sum d mc ms P) 9 = oIf (fun x => x = 0) 12 74 := rfl
theorem lX10_sum_12 : lk (tX10_sum d mc ms P) 12 = oAld 0 13 := rfl
theorem lX10_sum_13 : lk (tX10_sum d mc ms P) 13 = oCallV d mc ms P 0 0 yX10_here (Cond.code yX10_here cX10_here 1 (some .int)) 0 10 16 := rfl
theorem lX10_sum_16 : lk (tX10_sum d mc ms P) 16 = oPush (.int 43) 18 := rfl
theorem lX10_sum_18 : lk (tX10_sum d mc ms P) 18 = oIc (fun x y => x = y) 30 21 := rfl
theorem lX10_sum_21 : lk (tX10_sum d mc ms P) 21 = oAld 0 22 := rfl
theorem lX10_sum_22 : lk (tX10_sum d mc ms P) 22 = oCallV d mc ms P 0 0 yX10_here (Cond.code yX10_here cX10_here 1 (some .int)) 0 10 25 := rfl
theorem lX10_sum_25 : lk (tX10_sum d mc ms P) 25 = oPush (.int 45) 27 := rfl
theorem lX10_sum_27 : lk (tX10_sum d mc ms P) 27 = oIc (fun x y => x = y) 30 74 := rfl
theorem lX10_sum_30 : lk (tX10_sum d mc ms P) 30 = oAld 0 31 := rfl
theorem lX10_sum_31 : lk (tX10_sum d mc ms P) 31 = oCallV d mc ms P 0 0 yX10_here (Cond.code yX10_here cX10_here 1 (some .int)) 0 10 34 := rfl
theorem lX10_sum_34 : lk (tX10_sum d mc ms P) 34 = oPush (.int 43) 36 := rfl
theorem lX10_sum_36 : lk (tX10_sum d mc ms P) 36 = oIc (fun x y => x = y) 39 45 := rfl
theorem lX10_sum_39 : lk (tX10_sum d mc ms P) 39 = oPush (.int 300) 42 := rfl
theorem lX10_sum_42 : lk (tX10_sum d mc ms P) 42 = oGoto 48 := rfl
theorem lX10_sum_45 : lk (tX10_sum d mc ms P) 45 = oPush (.int 307) 48 := rfl
theorem lX10_sum_48 : lk (tX10_sum d mc ms P) 48 = oIst 2 49 := rfl
theorem lX10_sum_49 : lk (tX10_sum d mc ms P) 49 = oAld 0 50 := rfl
theorem lX10_sum_50 : lk (tX10_sum d mc ms P) 50 = oDup 51 := rfl
theorem lX10_sum_51 : lk (tX10_sum d mc ms P) 51 = oGi 10 7 54 := rfl
theorem lX10_sum_54 : lk (tX10_sum d mc ms P) 54 = oPush (.int 1) 55 := rfl
theorem lX10_sum_55 : lk (tX10_sum d mc ms P) 55 = oI2 (fun x y => x + y) 56 := rfl
theorem lX10_sum_56 : lk (tX10_sum d mc ms P) 56 = oPi 10 7 59 := rfl
theorem lX10_sum_59 : lk (tX10_sum d mc ms P) 59 = oAld 0 60 := rfl
theorem lX10_sum_60 : lk (tX10_sum d mc ms P) 60 = oIld 2 61 := rfl
theorem lX10_sum_61 : lk (tX10_sum d mc ms P) 61 = oIld 1 62 := rfl
theorem lX10_sum_62 : lk (tX10_sum d mc ms P) 62 = oAld 0 63 := rfl
theorem lX10_sum_63 : lk (tX10_sum d mc ms P) 63 = oCallV d mc ms P 0 0 yX10_product (Cond.code yX10_product cX10_product 2 (some .int)) 0 10 66 := rfl
theorem lX10_sum_66 : lk (tX10_sum d mc ms P) 66 = oPush (.int 0) 67 := rfl
theorem lX10_sum_67 : lk (tX10_sum d mc ms P) 67 = oCallV d mc ms P 0 0 yX10_node (Cond.code yX10_node cX10_node 5 (some .int)) 4 10 70 := rfl
theorem lX10_sum_70 : lk (tX10_sum d mc ms P) 70 = oIst 1 71 := rfl
theorem lX10_sum_71 : lk (tX10_sum d mc ms P) 71 = oGoto 5 := rfl
theorem lX10_sum_74 : lk (tX10_sum d mc ms P) 74 = oIld 1 75 := rfl
theorem lX10_sum_75 : lk (tX10_sum d mc ms P) 75 = oRetI mc ms P := rfl
theorem lX10_product_0 : lk (tX10_product d mc ms P) 0 = oAld 0 1 := rfl
theorem lX10_product_1 : lk (tX10_product d mc ms P) 1 = oCallV d mc ms P 0 0 yX10_factor (Cond.code yX10_factor cX10_factor 3 (some .int)) 0 10 4 := rfl
theorem lX10_product_4 : lk (tX10_product d mc ms P) 4 = oIst 1 5 := rfl
theorem lX10_product_5 : lk (tX10_product d mc ms P) 5 = oAld 0 6 := rfl
theorem lX10_product_6 : lk (tX10_product d mc ms P) 6 = oPush (.int 42) 8 := rfl
theorem lX10_product_8 : lk (tX10_product d mc ms P) 8 = oCallV d mc ms P 0 0 yX10_takes (Cond.code yX10_takes cX10_takes 2 (some .boolean)) 1 10 11 := rfl
theorem lX10_product_11 : lk (tX10_product d mc ms P) 11 = oIf (fun x => x = 0) 31 14 := rfl
theorem lX10_product_14 : lk (tX10_product d mc ms P) 14 = oAld 0 15 := rfl
theorem lX10_product_15 : lk (tX10_product d mc ms P) 15 = oPush (.int 301) 18 := rfl
theorem lX10_product_18 : lk (tX10_product d mc ms P) 18 = oIld 1 19 := rfl
theorem lX10_product_19 : lk (tX10_product d mc ms P) 19 = oAld 0 20 := rfl
theorem lX10_product_20 : lk (tX10_product d mc ms P) 20 = oCallV d mc ms P 0 0 yX10_factor (Cond.code yX10_factor cX10_factor 3 (some .int)) 0 10 23 := rfl
theorem lX10_product_23 : lk (tX10_product d mc ms P) 23 = oPush (.int 0) 24 := rfl
theorem lX10_product_24 : lk (tX10_product d mc ms P) 24 = oCallV d mc ms P 0 0 yX10_node (Cond.code yX10_node cX10_node 5 (some .int)) 4 10 27 := rfl
theorem lX10_product_27 : lk (tX10_product d mc ms P) 27 = oIst 1 28 := rfl
theorem lX10_product_28 : lk (tX10_product d mc ms P) 28 = oGoto 5 := rfl
theorem lX10_product_31 : lk (tX10_product d mc ms P) 31 = oIld 1 32 := rfl
theorem lX10_product_32 : lk (tX10_product d mc ms P) 32 = oRetI mc ms P := rfl
theorem lX10_opens_0 : lk (tX10_opens d mc ms P) 0 = oAld 0 1 := rfl
theorem lX10_opens_1 : lk (tX10_opens d mc ms P) 1 = oGi 10 10 4 := rfl
theorem lX10_opens_4 : lk (tX10_opens d mc ms P) 4 = oPush (.int 4) 5 := rfl
theorem lX10_opens_5 : lk (tX10_opens d mc ms P) 5 = oIc (fun x y => x = y) 8 13 := rfl
theorem lX10_opens_8 : lk (tX10_opens d mc ms P) 8 = oAld 0 9 := rfl
theorem lX10_opens_9 : lk (tX10_opens d mc ms P) 9 = oPush (.int 1) 10 := rfl
theorem lX10_opens_10 : lk (tX10_opens d mc ms P) 10 = oPz 10 9 13 := rfl
theorem lX10_opens_13 : lk (tX10_opens d mc ms P) 13 = oAld 0 14 := rfl
theorem lX10_opens_14 : lk (tX10_opens d mc ms P) 14 = oPush (.int 40) 16 := rfl
theorem lX10_opens_16 : lk (tX10_opens d mc ms P) 16 = oCallV d mc ms P 0 0 yX10_expects (Cond.code yX10_expects cX10_expects 2 none) 1 10 19 := rfl
theorem lX10_opens_19 : lk (tX10_opens d mc ms P) 19 = oAld 0 20 := rfl
theorem lX10_opens_20 : lk (tX10_opens d mc ms P) 20 = oDup 21 := rfl
theorem lX10_opens_21 : lk (tX10_opens d mc ms P) 21 = oGi 10 10 24 := rfl
theorem lX10_opens_24 : lk (tX10_opens d mc ms P) 24 = oPush (.int 1) 25 := rfl
theorem lX10_opens_25 : lk (tX10_opens d mc ms P) 25 = oI2 (fun x y => x + y) 26 := rfl
theorem lX10_opens_26 : lk (tX10_opens d mc ms P) 26 = oPi 10 10 29 := rfl
theorem lX10_opens_29 : lk (tX10_opens d mc ms P) 29 = oRetV mc ms P := rfl
theorem lX10_closes_0 : lk (tX10_closes d mc ms P) 0 = oAld 0 1 := rfl
theorem lX10_closes_1 : lk (tX10_closes d mc ms P) 1 = oPush (.int 41) 3 := rfl
theorem lX10_closes_3 : lk (tX10_closes d mc ms P) 3 = oCallV d mc ms P 0 0 yX10_expects (Cond.code yX10_expects cX10_expects 2 none) 1 10 6 := rfl
theorem lX10_closes_6 : lk (tX10_closes d mc ms P) 6 = oAld 0 7 := rfl
theorem lX10_closes_7 : lk (tX10_closes d mc ms P) 7 = oDup 8 := rfl
theorem lX10_closes_8 : lk (tX10_closes d mc ms P) 8 = oGi 10 10 11 := rfl
theorem lX10_closes_11 : lk (tX10_closes d mc ms P) 11 = oPush (.int 1) 12 := rfl
theorem lX10_closes_12 : lk (tX10_closes d mc ms P) 12 = oI2 (fun x y => x - y) 13 := rfl
theorem lX10_closes_13 : lk (tX10_closes d mc ms P) 13 = oPi 10 10 16 := rfl
theorem lX10_closes_16 : lk (tX10_closes d mc ms P) 16 = oRetV mc ms P := rfl
theorem lX10_function_0 : lk (tX10_function d mc ms P) 0 = oAld 0 1 := rfl
theorem lX10_function_1 : lk (tX10_function d mc ms P) 1 = oCallV d mc ms P 0 0 yX10_opens (Cond.code yX10_opens cX10_opens 1 none) 0 10 4 := rfl
theorem lX10_function_4 : lk (tX10_function d mc ms P) 4 = oAld 0 5 := rfl
theorem lX10_function_5 : lk (tX10_function d mc ms P) 5 = oCallV d mc ms P 0 0 yX10_expression (Cond.code yX10_expression cX10_expression 3 (some .int)) 0 10 8 := rfl
theorem lX10_function_8 : lk (tX10_function d mc ms P) 8 = oIst 2 9 := rfl
theorem lX10_function_9 : lk (tX10_function d mc ms P) 9 = oAld 0 10 := rfl
theorem lX10_function_10 : lk (tX10_function d mc ms P) 10 = oPush (.int 44) 12 := rfl
theorem lX10_function_12 : lk (tX10_function d mc ms P) 12 = oCallV d mc ms P 0 0 yX10_expects (Cond.code yX10_expects cX10_expects 2 none) 1 10 15 := rfl
theorem lX10_function_15 : lk (tX10_function d mc ms P) 15 = oAld 0 16 := rfl
theorem lX10_function_16 : lk (tX10_function d mc ms P) 16 = oCallV d mc ms P 0 0 yX10_expression (Cond.code yX10_expression cX10_expression 3 (some .int)) 0 10 19 := rfl
theorem lX10_function_19 : lk (tX10_function d mc ms P) 19 = oIst 3 20 := rfl
theorem lX10_function_20 : lk (tX10_function d mc ms P) 20 = oPush (.int 0) 21 := rfl
theorem lX10_function_21 : lk (tX10_function d mc ms P) 21 = oIst 4 23 := rfl
theorem lX10_function_23 : lk (tX10_function d mc ms P) 23 = oIld 1 24 := rfl
theorem lX10_function_24 : lk (tX10_function d mc ms P) 24 = oPush (.int 308) 27 := rfl
theorem lX10_function_27 : lk (tX10_function d mc ms P) 27 = oIc (fun x y => x = y) 30 42 := rfl
theorem lX10_function_30 : lk (tX10_function d mc ms P) 30 = oAld 0 31 := rfl
theorem lX10_function_31 : lk (tX10_function d mc ms P) 31 = oPush (.int 44) 33 := rfl
theorem lX10_function_33 : lk (tX10_function d mc ms P) 33 = oCallV d mc ms P 0 0 yX10_expects (Cond.code yX10_expects cX10_expects 2 none) 1 10 36 := rfl
theorem lX10_function_36 : lk (tX10_function d mc ms P) 36 = oAld 0 37 := rfl
theorem lX10_function_37 : lk (tX10_function d mc ms P) 37 = oCallV d mc ms P 0 0 yX10_expression (Cond.code yX10_expression cX10_expression 3 (some .int)) 0 10 40 := rfl
theorem lX10_function_40 : lk (tX10_function d mc ms P) 40 = oIst 4 42 := rfl
theorem lX10_function_42 : lk (tX10_function d mc ms P) 42 = oAld 0 43 := rfl
theorem lX10_function_43 : lk (tX10_function d mc ms P) 43 = oCallV d mc ms P 0 0 yX10_closes (Cond.code yX10_closes cX10_closes 1 none) 0 10 46 := rfl
theorem lX10_function_46 : lk (tX10_function d mc ms P) 46 = oAld 0 47 := rfl
theorem lX10_function_47 : lk (tX10_function d mc ms P) 47 = oIld 1 48 := rfl
theorem lX10_function_48 : lk (tX10_function d mc ms P) 48 = oIld 2 49 := rfl
theorem lX10_function_49 : lk (tX10_function d mc ms P) 49 = oIld 3 50 := rfl
theorem lX10_function_50 : lk (tX10_function d mc ms P) 50 = oIld 4 52 := rfl
theorem lX10_function_52 : lk (tX10_function d mc ms P) 52 = oCallV d mc ms P 0 0 yX10_node (Cond.code yX10_node cX10_node 5 (some .int)) 4 10 55 := rfl
theorem lX10_function_55 : lk (tX10_function d mc ms P) 55 = oRetI mc ms P := rfl
theorem lX10_factor_0 : lk (tX10_factor d mc ms P) 0 = oAld 0 1 := rfl
theorem lX10_factor_1 : lk (tX10_factor d mc ms P) 1 = oCallV d mc ms P 0 0 yX10_here (Cond.code yX10_here cX10_here 1 (some .int)) 0 10 4 := rfl
theorem lX10_factor_4 : lk (tX10_factor d mc ms P) 4 = oIst 1 5 := rfl
theorem lX10_factor_5 : lk (tX10_factor d mc ms P) 5 = oAld 0 6 := rfl
theorem lX10_factor_6 : lk (tX10_factor d mc ms P) 6 = oGi 10 9 9 := rfl
theorem lX10_factor_9 : lk (tX10_factor d mc ms P) 9 = oIf (fun x => x = 0) 14 12 := rfl
theorem lX10_factor_12 : lk (tX10_factor d mc ms P) 12 = oPush (.int 0) 13 := rfl
theorem lX10_factor_13 : lk (tX10_factor d mc ms P) 13 = oRetI mc ms P := rfl
theorem lX10_factor_14 : lk (tX10_factor d mc ms P) 14 = oIld 1 15 := rfl
theorem lX10_factor_15 : lk (tX10_factor d mc ms P) 15 = oPush (.int 48) 17 := rfl
theorem lX10_factor_17 : lk (tX10_factor d mc ms P) 17 = oPush (.int 57) 19 := rfl
theorem lX10_factor_19 : lk (tX10_factor d mc ms P) 19 = oCallS d mc ms P 0 0 yX10_in (Cond.code yX10_in cX10_in 3 (some .boolean)) 3 22 := rfl
theorem lX10_factor_22 : lk (tX10_factor d mc ms P) 22 = oIf (fun x => x = 0) 92 25 := rfl
theorem lX10_factor_25 : lk (tX10_factor d mc ms P) 25 = oAld 0 26 := rfl
theorem lX10_factor_26 : lk (tX10_factor d mc ms P) 26 = oDup 27 := rfl
theorem lX10_factor_27 : lk (tX10_factor d mc ms P) 27 = oGi 10 7 30 := rfl
theorem lX10_factor_30 : lk (tX10_factor d mc ms P) 30 = oPush (.int 1) 31 := rfl
theorem lX10_factor_31 : lk (tX10_factor d mc ms P) 31 = oI2 (fun x y => x + y) 32 := rfl
theorem lX10_factor_32 : lk (tX10_factor d mc ms P) 32 = oPi 10 7 35 := rfl
theorem lX10_factor_35 : lk (tX10_factor d mc ms P) 35 = oIld 1 36 := rfl
theorem lX10_factor_36 : lk (tX10_factor d mc ms P) 36 = oPush (.int 48) 38 := rfl
theorem lX10_factor_38 : lk (tX10_factor d mc ms P) 38 = oI2 (fun x y => x - y) 39 := rfl
theorem lX10_factor_39 : lk (tX10_factor d mc ms P) 39 = oIst 2 40 := rfl
theorem lX10_factor_40 : lk (tX10_factor d mc ms P) 40 = oIld 2 41 := rfl
theorem lX10_factor_41 : lk (tX10_factor d mc ms P) 41 = oIf (fun x => x ≤ 0) 83 44 := rfl
theorem lX10_factor_44 : lk (tX10_factor d mc ms P) 44 = oAld 0 45 := rfl
theorem lX10_factor_45 : lk (tX10_factor d mc ms P) 45 = oCallV d mc ms P 0 0 yX10_here (Cond.code yX10_here cX10_here 1 (some .int)) 0 10 48 := rfl
theorem lX10_factor_48 : lk (tX10_factor d mc ms P) 48 = oPush (.int 48) 50 := rfl
theorem lX10_factor_50 : lk (tX10_factor d mc ms P) 50 = oPush (.int 57) 52 := rfl
theorem lX10_factor_52 : lk (tX10_factor d mc ms P) 52 = oCallS d mc ms P 0 0 yX10_in (Cond.code yX10_in cX10_in 3 (some .boolean)) 3 55 := rfl
theorem lX10_factor_55 : lk (tX10_factor d mc ms P) 55 = oIf (fun x => x = 0) 83 58 := rfl
theorem lX10_factor_58 : lk (tX10_factor d mc ms P) 58 = oPush (.int 10) 60 := rfl
theorem lX10_factor_60 : lk (tX10_factor d mc ms P) 60 = oIld 2 61 := rfl
theorem lX10_factor_61 : lk (tX10_factor d mc ms P) 61 = oI2 (fun x y => x * y) 62 := rfl
theorem lX10_factor_62 : lk (tX10_factor d mc ms P) 62 = oAld 0 63 := rfl
theorem lX10_factor_63 : lk (tX10_factor d mc ms P) 63 = oGr 10 5 66 := rfl
theorem lX10_factor_66 : lk (tX10_factor d mc ms P) 66 = oAld 0 67 := rfl
theorem lX10_factor_67 : lk (tX10_factor d mc ms P) 67 = oDup 68 := rfl
theorem lX10_factor_68 : lk (tX10_factor d mc ms P) 68 = oGi 10 7 71 := rfl
theorem lX10_factor_71 : lk (tX10_factor d mc ms P) 71 = oDupx1 72 := rfl
theorem lX10_factor_72 : lk (tX10_factor d mc ms P) 72 = oPush (.int 1) 73 := rfl
theorem lX10_factor_73 : lk (tX10_factor d mc ms P) 73 = oI2 (fun x y => x + y) 74 := rfl
theorem lX10_factor_74 : lk (tX10_factor d mc ms P) 74 = oPi 10 7 77 := rfl
theorem lX10_factor_77 : lk (tX10_factor d mc ms P) 77 = oAi 100 78 := rfl
theorem lX10_factor_78 : lk (tX10_factor d mc ms P) 78 = oI2 (fun x y => x + y) 79 := rfl
theorem lX10_factor_79 : lk (tX10_factor d mc ms P) 79 = oPush (.int 48) 81 := rfl
theorem lX10_factor_81 : lk (tX10_factor d mc ms P) 81 = oI2 (fun x y => x - y) 82 := rfl
theorem lX10_factor_82 : lk (tX10_factor d mc ms P) 82 = oIst 2 83 := rfl
theorem lX10_factor_83 : lk (tX10_factor d mc ms P) 83 = oAld 0 84 := rfl
theorem lX10_factor_84 : lk (tX10_factor d mc ms P) 84 = oIld 2 85 := rfl
theorem lX10_factor_85 : lk (tX10_factor d mc ms P) 85 = oPush (.int 0) 86 := rfl
set_option maxRecDepth 20000 in
theorem lX10_factor_86 : lk (tX10_factor d mc ms P) 86 = oPush (.int 0) 87 := rfl
set_option maxRecDepth 20000 in
theorem lX10_factor_87 : lk (tX10_factor d mc ms P) 87 = oPush (.int 0) 88 := rfl
set_option maxRecDepth 20000 in
theorem lX10_factor_88 : lk (tX10_factor d mc ms P) 88 = oCallV d mc ms P 0 0 yX10_node (Cond.code yX10_node cX10_node 5 (some .int)) 4 10 91 := rfl
set_option maxRecDepth 20000 in
theorem lX10_factor_91 : lk (tX10_factor d mc ms P) 91 = oRetI mc ms P := rfl
set_option maxRecDepth 20000 in
theorem lX10_factor_92 : lk (tX10_factor d mc ms P) 92 = oIld 1 93 := rfl
set_option maxRecDepth 20000 in
theorem lX10_factor_93 : lk (tX10_factor d mc ms P) 93 = oPush (.int 115) 95 := rfl
set_option maxRecDepth 20000 in
theorem lX10_factor_95 : lk (tX10_factor d mc ms P) 95 = oPush (.int 122) 97 := rfl
set_option maxRecDepth 20000 in
theorem lX10_factor_97 : lk (tX10_factor d mc ms P) 97 = oCallS d mc ms P 0 0 yX10_in (Cond.code yX10_in cX10_in 3 (some .boolean)) 3 100 := rfl
set_option maxRecDepth 20000 in
theorem lX10_factor_100 : lk (tX10_factor d mc ms P) 100 = oIf (fun x => x = 0) 128 103 := rfl
set_option maxRecDepth 20000 in
theorem lX10_factor_103 : lk (tX10_factor d mc ms P) 103 = oAld 0 104 := rfl
set_option maxRecDepth 20000 in
theorem lX10_factor_104 : lk (tX10_factor d mc ms P) 104 = oDup 105 := rfl
set_option maxRecDepth 20000 in
theorem lX10_factor_105 : lk (tX10_factor d mc ms P) 105 = oGi 10 7 108 := rfl
set_option maxRecDepth 20000 in
theorem lX10_factor_108 : lk (tX10_factor d mc ms P) 108 = oPush (.int 1) 109 := rfl
set_option maxRecDepth 20000 in
theorem lX10_factor_109 : lk (tX10_factor d mc ms P) 109 = oI2 (fun x y => x + y) 110 := rfl
set_option maxRecDepth 20000 in
theorem lX10_factor_110 : lk (tX10_factor d mc ms P) 110 = oPi 10 7 113 := rfl
set_option maxRecDepth 20000 in
theorem lX10_factor_113 : lk (tX10_factor d mc ms P) 113 = oAld 0 114 := rfl
set_option maxRecDepth 20000 in
theorem lX10_factor_114 : lk (tX10_factor d mc ms P) 114 = oPush (.int 100) 116 := rfl
set_option maxRecDepth 20000 in
theorem lX10_factor_116 : lk (tX10_factor d mc ms P) 116 = oIld 1 117 := rfl
set_option maxRecDepth 20000 in
theorem lX10_factor_117 : lk (tX10_factor d mc ms P) 117 = oI2 (fun x y => x + y) 118 := rfl
set_option maxRecDepth 20000 in
theorem lX10_factor_118 : lk (tX10_factor d mc ms P) 118 = oPush (.int 115) 120 := rfl
set_option maxRecDepth 20000 in
theorem lX10_factor_120 : lk (tX10_factor d mc ms P) 120 = oI2 (fun x y => x - y) 121 := rfl
set_option maxRecDepth 20000 in
theorem lX10_factor_121 : lk (tX10_factor d mc ms P) 121 = oPush (.int 0) 122 := rfl
set_option maxRecDepth 20000 in
theorem lX10_factor_122 : lk (tX10_factor d mc ms P) 122 = oPush (.int 0) 123 := rfl
set_option maxRecDepth 20000 in
theorem lX10_factor_123 : lk (tX10_factor d mc ms P) 123 = oPush (.int 0) 124 := rfl
set_option maxRecDepth 20000 in
theorem lX10_factor_124 : lk (tX10_factor d mc ms P) 124 = oCallV d mc ms P 0 0 yX10_node (Cond.code yX10_node cX10_node 5 (some .int)) 4 10 127 := rfl
set_option maxRecDepth 20000 in
theorem lX10_factor_127 : lk (tX10_factor d mc ms P) 127 = oRetI mc ms P := rfl
set_option maxRecDepth 20000 in
theorem lX10_factor_128 : lk (tX10_factor d mc ms P) 128 = oIld 1 129 := rfl
set_option maxRecDepth 20000 in
theorem lX10_factor_129 : lk (tX10_factor d mc ms P) 129 = oPush (.int 97) 131 := rfl
set_option maxRecDepth 20000 in
theorem lX10_factor_131 : lk (tX10_factor d mc ms P) 131 = oPush (.int 99) 133 := rfl
set_option maxRecDepth 20000 in
theorem lX10_factor_133 : lk (tX10_factor d mc ms P) 133 = oCallS d mc ms P 0 0 yX10_in (Cond.code yX10_in cX10_in 3 (some .boolean)) 3 136 := rfl
set_option maxRecDepth 20000 in
theorem lX10_factor_136 : lk (tX10_factor d mc ms P) 136 = oIf (fun x => x = 0) 183 139 := rfl
set_option maxRecDepth 20000 in
theorem lX10_factor_139 : lk (tX10_factor d mc ms P) 139 = oAld 0 140 := rfl
set_option maxRecDepth 20000 in
theorem lX10_factor_140 : lk (tX10_factor d mc ms P) 140 = oDup 141 := rfl
set_option maxRecDepth 20000 in
theorem lX10_factor_141 : lk (tX10_factor d mc ms P) 141 = oGi 10 7 144 := rfl
set_option maxRecDepth 20000 in
theorem lX10_factor_144 : lk (tX10_factor d mc ms P) 144 = oPush (.int 1) 145 := rfl
set_option maxRecDepth 20000 in
theorem lX10_factor_145 : lk (tX10_factor d mc ms P) 145 = oI2 (fun x y => x + y) 146 := rfl
set_option maxRecDepth 20000 in
theorem lX10_factor_146 : lk (tX10_factor d mc ms P) 146 = oPi 10 7 149 := rfl
set_option maxRecDepth 20000 in
theorem lX10_factor_149 : lk (tX10_factor d mc ms P) 149 = oAld 0 150 := rfl
set_option maxRecDepth 20000 in
theorem lX10_factor_150 : lk (tX10_factor d mc ms P) 150 = oPush (.int 91) 152 := rfl
set_option maxRecDepth 20000 in
theorem lX10_factor_152 : lk (tX10_factor d mc ms P) 152 = oCallV d mc ms P 0 0 yX10_expects (Cond.code yX10_expects cX10_expects 2 none) 1 10 155 := rfl
set_option maxRecDepth 20000 in
theorem lX10_factor_155 : lk (tX10_factor d mc ms P) 155 = oAld 0 156 := rfl
set_option maxRecDepth 20000 in
theorem lX10_factor_156 : lk (tX10_factor d mc ms P) 156 = oPush (.int 105) 158 := rfl
set_option maxRecDepth 20000 in
theorem lX10_factor_158 : lk (tX10_factor d mc ms P) 158 = oCallV d mc ms P 0 0 yX10_expects (Cond.code yX10_expects cX10_expects 2 none) 1 10 161 := rfl
set_option maxRecDepth 20000 in
theorem lX10_factor_161 : lk (tX10_factor d mc ms P) 161 = oAld 0 162 := rfl
set_option maxRecDepth 20000 in
theorem lX10_factor_162 : lk (tX10_factor d mc ms P) 162 = oPush (.int 93) 164 := rfl
set_option maxRecDepth 20000 in
theorem lX10_factor_164 : lk (tX10_factor d mc ms P) 164 = oCallV d mc ms P 0 0 yX10_expects (Cond.code yX10_expects cX10_expects 2 none) 1 10 167 := rfl
set_option maxRecDepth 20000 in
theorem lX10_factor_167 : lk (tX10_factor d mc ms P) 167 = oAld 0 168 := rfl
set_option maxRecDepth 20000 in
theorem lX10_factor_168 : lk (tX10_factor d mc ms P) 168 = oPush (.int 200) 171 := rfl
set_option maxRecDepth 20000 in
theorem lX10_factor_171 : lk (tX10_factor d mc ms P) 171 = oIld 1 172 := rfl
set_option maxRecDepth 20000 in
theorem lX10_factor_172 : lk (tX10_factor d mc ms P) 172 = oI2 (fun x y => x + y) 173 := rfl
set_option maxRecDepth 20000 in
theorem lX10_factor_173 : lk (tX10_factor d mc ms P) 173 = oPush (.int 97) 175 := rfl
set_option maxRecDepth 20000 in
theorem lX10_factor_175 : lk (tX10_factor d mc ms P) 175 = oI2 (fun x y => x - y) 176 := rfl
set_option maxRecDepth 20000 in
theorem lX10_factor_176 : lk (tX10_factor d mc ms P) 176 = oPush (.int 0) 177 := rfl
set_option maxRecDepth 20000 in
theorem lX10_factor_177 : lk (tX10_factor d mc ms P) 177 = oPush (.int 0) 178 := rfl
set_option maxRecDepth 20000 in
theorem lX10_factor_178 : lk (tX10_factor d mc ms P) 178 = oPush (.int 0) 179 := rfl
set_option maxRecDepth 20000 in
theorem lX10_factor_179 : lk (tX10_factor d mc ms P) 179 = oCallV d mc ms P 0 0 yX10_node (Cond.code yX10_node cX10_node 5 (some .int)) 4 10 182 := rfl
set_option maxRecDepth 20000 in
theorem lX10_factor_182 : lk (tX10_factor d mc ms P) 182 = oRetI mc ms P := rfl
set_option maxRecDepth 20000 in
theorem lX10_factor_183 : lk (tX10_factor d mc ms P) 183 = oAld 0 184 := rfl
set_option maxRecDepth 20000 in
theorem lX10_factor_184 : lk (tX10_factor d mc ms P) 184 = oPush (.int 109) 186 := rfl
set_option maxRecDepth 20000 in
theorem lX10_factor_186 : lk (tX10_factor d mc ms P) 186 = oCallV d mc ms P 0 0 yX10_takes (Cond.code yX10_takes cX10_takes 2 (some .boolean)) 1 10 189 := rfl
set_option maxRecDepth 20000 in
theorem lX10_factor_189 : lk (tX10_factor d mc ms P) 189 = oIf (fun x => x = 0) 235 192 := rfl
set_option maxRecDepth 20000 in
theorem lX10_factor_192 : lk (tX10_factor d mc ms P) 192 = oAld 0 193 := rfl
set_option maxRecDepth 20000 in
theorem lX10_factor_193 : lk (tX10_factor d mc ms P) 193 = oPush (.int 105) 195 := rfl
set_option maxRecDepth 20000 in
theorem lX10_factor_195 : lk (tX10_factor d mc ms P) 195 = oCallV d mc ms P 0 0 yX10_takes (Cond.code yX10_takes cX10_takes 2 (some .boolean)) 1 10 198 := rfl
set_option maxRecDepth 20000 in
theorem lX10_factor_198 : lk (tX10_factor d mc ms P) 198 = oIf (fun x => x = 0) 215 201 := rfl
set_option maxRecDepth 20000 in
theorem lX10_factor_201 : lk (tX10_factor d mc ms P) 201 = oAld 0 202 := rfl
set_option maxRecDepth 20000 in
theorem lX10_factor_202 : lk (tX10_factor d mc ms P) 202 = oPush (.int 110) 204 := rfl
set_option maxRecDepth 20000 in
theorem lX10_factor_204 : lk (tX10_factor d mc ms P) 204 = oCallV d mc ms P 0 0 yX10_expects (Cond.code yX10_expects cX10_expects 2 none) 1 10 207 := rfl
set_option maxRecDepth 20000 in
theorem lX10_factor_207 : lk (tX10_factor d mc ms P) 207 = oAld 0 208 := rfl
set_option maxRecDepth 20000 in
theorem lX10_factor_208 : lk (tX10_factor d mc ms P) 208 = oPush (.int 305) 211 := rfl
set_option maxRecDepth 20000 in
theorem lX10_factor_211 : lk (tX10_factor d mc ms P) 211 = oCallV d mc ms P 0 0 yX10_function (Cond.code yX10_function cX10_function 5 (some .int)) 1 10 214 := rfl
set_option maxRecDepth 20000 in
theorem lX10_factor_214 : lk (tX10_factor d mc ms P) 214 = oRetI mc ms P := rfl
set_option maxRecDepth 20000 in
theorem lX10_factor_215 : lk (tX10_factor d mc ms P) 215 = oAld 0 216 := rfl
set_option maxRecDepth 20000 in
theorem lX10_factor_216 : lk (tX10_factor d mc ms P) 216 = oPush (.int 97) 218 := rfl
set_option maxRecDepth 20000 in
theorem lX10_factor_218 : lk (tX10_factor d mc ms P) 218 = oCallV d mc ms P 0 0 yX10_expects (Cond.code yX10_expects cX10_expects 2 none) 1 10 221 := rfl
set_option maxRecDepth 20000 in
theorem lX10_factor_221 : lk (tX10_factor d mc ms P) 221 = oAld 0 222 := rfl
set_option maxRecDepth 20000 in
theorem lX10_factor_222 : lk (tX10_factor d mc ms P) 222 = oPush (.int 120) 224 := rfl
set_option maxRecDepth 20000 in
theorem lX10_factor_224 : lk (tX10_factor d mc ms P) 224 = oCallV d mc ms P 0 0 yX10_expects (Cond.code yX10_expects cX10_expects 2 none) 1 10 227 := rfl
set_option maxRecDepth 20000 in
theorem lX10_factor_227 : lk (tX10_factor d mc ms P) 227 = oAld 0 228 := rfl
set_option maxRecDepth 20000 in
theorem lX10_factor_228 : lk (tX10_factor d mc ms P) 228 = oPush (.int 306) 231 := rfl
set_option maxRecDepth 20000 in
theorem lX10_factor_231 : lk (tX10_factor d mc ms P) 231 = oCallV d mc ms P 0 0 yX10_function (Cond.code yX10_function cX10_function 5 (some .int)) 1 10 234 := rfl
set_option maxRecDepth 20000 in
theorem lX10_factor_234 : lk (tX10_factor d mc ms P) 234 = oRetI mc ms P := rfl
set_option maxRecDepth 20000 in
theorem lX10_factor_235 : lk (tX10_factor d mc ms P) 235 = oAld 0 236 := rfl
set_option maxRecDepth 20000 in
theorem lX10_factor_236 : lk (tX10_factor d mc ms P) 236 = oPush (.int 105) 238 := rfl
set_option maxRecDepth 20000 in
theorem lX10_factor_238 : lk (tX10_factor d mc ms P) 238 = oCallV d mc ms P 0 0 yX10_takes (Cond.code yX10_takes cX10_takes 2 (some .boolean)) 1 10 241 := rfl
set_option maxRecDepth 20000 in
theorem lX10_factor_241 : lk (tX10_factor d mc ms P) 241 = oIf (fun x => x = 0) 258 244 := rfl
set_option maxRecDepth 20000 in
theorem lX10_factor_244 : lk (tX10_factor d mc ms P) 244 = oAld 0 245 := rfl
set_option maxRecDepth 20000 in
theorem lX10_factor_245 : lk (tX10_factor d mc ms P) 245 = oPush (.int 102) 247 := rfl
set_option maxRecDepth 20000 in
theorem lX10_factor_247 : lk (tX10_factor d mc ms P) 247 = oCallV d mc ms P 0 0 yX10_expects (Cond.code yX10_expects cX10_expects 2 none) 1 10 250 := rfl
set_option maxRecDepth 20000 in
theorem lX10_factor_250 : lk (tX10_factor d mc ms P) 250 = oAld 0 251 := rfl
set_option maxRecDepth 20000 in
theorem lX10_factor_251 : lk (tX10_factor d mc ms P) 251 = oPush (.int 308) 254 := rfl
set_option maxRecDepth 20000 in
theorem lX10_factor_254 : lk (tX10_factor d mc ms P) 254 = oCallV d mc ms P 0 0 yX10_function (Cond.code yX10_function cX10_function 5 (some .int)) 1 10 257 := rfl
set_option maxRecDepth 20000 in
theorem lX10_factor_257 : lk (tX10_factor d mc ms P) 257 = oRetI mc ms P := rfl
set_option maxRecDepth 20000 in
theorem lX10_factor_258 : lk (tX10_factor d mc ms P) 258 = oAld 0 259 := rfl
set_option maxRecDepth 20000 in
theorem lX10_factor_259 : lk (tX10_factor d mc ms P) 259 = oCallV d mc ms P 0 0 yX10_opens (Cond.code yX10_opens cX10_opens 1 none) 0 10 262 := rfl
set_option maxRecDepth 20000 in
theorem lX10_factor_262 : lk (tX10_factor d mc ms P) 262 = oAld 0 263 := rfl
set_option maxRecDepth 20000 in
theorem lX10_factor_263 : lk (tX10_factor d mc ms P) 263 = oCallV d mc ms P 0 0 yX10_expression (Cond.code yX10_expression cX10_expression 3 (some .int)) 0 10 266 := rfl
set_option maxRecDepth 20000 in
theorem lX10_factor_266 : lk (tX10_factor d mc ms P) 266 = oIst 2 267 := rfl
set_option maxRecDepth 20000 in
theorem lX10_factor_267 : lk (tX10_factor d mc ms P) 267 = oAld 0 268 := rfl
set_option maxRecDepth 20000 in
theorem lX10_factor_268 : lk (tX10_factor d mc ms P) 268 = oCallV d mc ms P 0 0 yX10_closes (Cond.code yX10_closes cX10_closes 1 none) 0 10 271 := rfl
set_option maxRecDepth 20000 in
theorem lX10_factor_271 : lk (tX10_factor d mc ms P) 271 = oIld 2 272 := rfl
set_option maxRecDepth 20000 in
theorem lX10_factor_272 : lk (tX10_factor d mc ms P) 272 = oRetI mc ms P := rfl
theorem lX10_operands_0 : lk (tX10_operands d mc ms P) 0 = oIld 0 1 := rfl
theorem lX10_operands_1 : lk (tX10_operands d mc ms P) 1 = oPush (.int 308) 4 := rfl
theorem lX10_operands_4 : lk (tX10_operands d mc ms P) 4 = oIc (fun x y => x = y) 7 11 := rfl
theorem lX10_operands_7 : lk (tX10_operands d mc ms P) 7 = oPush (.int 3) 8 := rfl
theorem lX10_operands_8 : lk (tX10_operands d mc ms P) 8 = oGoto 23 := rfl
theorem lX10_operands_11 : lk (tX10_operands d mc ms P) 11 = oIld 0 12 := rfl
theorem lX10_operands_12 : lk (tX10_operands d mc ms P) 12 = oPush (.int 300) 15 := rfl
theorem lX10_operands_15 : lk (tX10_operands d mc ms P) 15 = oIc (fun x y => x < y) 22 18 := rfl
theorem lX10_operands_18 : lk (tX10_operands d mc ms P) 18 = oPush (.int 2) 19 := rfl
theorem lX10_operands_19 : lk (tX10_operands d mc ms P) 19 = oGoto 23 := rfl
theorem lX10_operands_22 : lk (tX10_operands d mc ms P) 22 = oPush (.int 0) 23 := rfl
theorem lX10_operands_23 : lk (tX10_operands d mc ms P) 23 = oRetI mc ms P := rfl
theorem lX10_writes_0 : lk (tX10_writes d mc ms P) 0 = oAld 0 1 := rfl
theorem lX10_writes_1 : lk (tX10_writes d mc ms P) 1 = oGr 10 18 4 := rfl
theorem lX10_writes_4 : lk (tX10_writes d mc ms P) 4 = oAld 0 5 := rfl
theorem lX10_writes_5 : lk (tX10_writes d mc ms P) 5 = oDup 6 := rfl
theorem lX10_writes_6 : lk (tX10_writes d mc ms P) 6 = oGi 10 19 9 := rfl
theorem lX10_writes_9 : lk (tX10_writes d mc ms P) 9 = oDupx1 10 := rfl
theorem lX10_writes_10 : lk (tX10_writes d mc ms P) 10 = oPush (.int 1) 11 := rfl
theorem lX10_writes_11 : lk (tX10_writes d mc ms P) 11 = oI2 (fun x y => x + y) 12 := rfl
theorem lX10_writes_12 : lk (tX10_writes d mc ms P) 12 = oPi 10 19 15 := rfl
theorem lX10_writes_15 : lk (tX10_writes d mc ms P) 15 = oAld 0 16 := rfl
theorem lX10_writes_16 : lk (tX10_writes d mc ms P) 16 = oGr 10 11 19 := rfl
theorem lX10_writes_19 : lk (tX10_writes d mc ms P) 19 = oIld 1 20 := rfl
theorem lX10_writes_20 : lk (tX10_writes d mc ms P) 20 = oAi 100 21 := rfl
theorem lX10_writes_21 : lk (tX10_writes d mc ms P) 21 = oSi 100 (fun x => x) 22 := rfl
theorem lX10_writes_22 : lk (tX10_writes d mc ms P) 22 = oAld 0 23 := rfl
theorem lX10_writes_23 : lk (tX10_writes d mc ms P) 23 = oGr 10 11 26 := rfl
theorem lX10_writes_26 : lk (tX10_writes d mc ms P) 26 = oIld 1 27 := rfl
theorem lX10_writes_27 : lk (tX10_writes d mc ms P) 27 = oAi 100 28 := rfl
theorem lX10_writes_28 : lk (tX10_writes d mc ms P) 28 = oCallS d mc ms P 0 0 yX10_operands (Cond.code yX10_operands cX10_operands 1 (some .int)) 1 31 := rfl
theorem lX10_writes_31 : lk (tX10_writes d mc ms P) 31 = oIst 2 32 := rfl
theorem lX10_writes_32 : lk (tX10_writes d mc ms P) 32 = oIld 2 33 := rfl
theorem lX10_writes_33 : lk (tX10_writes d mc ms P) 33 = oIf (fun x => x ≤ 0) 46 36 := rfl
theorem lX10_writes_36 : lk (tX10_writes d mc ms P) 36 = oAld 0 37 := rfl
theorem lX10_writes_37 : lk (tX10_writes d mc ms P) 37 = oAld 0 38 := rfl
theorem lX10_writes_38 : lk (tX10_writes d mc ms P) 38 = oGr 10 12 41 := rfl
theorem lX10_writes_41 : lk (tX10_writes d mc ms P) 41 = oIld 1 42 := rfl
theorem lX10_writes_42 : lk (tX10_writes d mc ms P) 42 = oAi 100 43 := rfl
theorem lX10_writes_43 : lk (tX10_writes d mc ms P) 43 = oCallV d mc ms P 0 0 yX10_writes (Cond.code yX10_writes cX10_writes 3 none) 1 10 46 := rfl
theorem lX10_writes_46 : lk (tX10_writes d mc ms P) 46 = oIld 2 47 := rfl
theorem lX10_writes_47 : lk (tX10_writes d mc ms P) 47 = oPush (.int 1) 48 := rfl
theorem lX10_writes_48 : lk (tX10_writes d mc ms P) 48 = oIc (fun x y => x ≤ y) 61 51 := rfl
theorem lX10_writes_51 : lk (tX10_writes d mc ms P) 51 = oAld 0 52 := rfl
theorem lX10_writes_52 : lk (tX10_writes d mc ms P) 52 = oAld 0 53 := rfl
theorem lX10_writes_53 : lk (tX10_writes d mc ms P) 53 = oGr 10 13 56 := rfl
theorem lX10_writes_56 : lk (tX10_writes d mc ms P) 56 = oIld 1 57 := rfl
theorem lX10_writes_57 : lk (tX10_writes d mc ms P) 57 = oAi 100 58 := rfl
theorem lX10_writes_58 : lk (tX10_writes d mc ms P) 58 = oCallV d mc ms P 0 0 yX10_writes (Cond.code yX10_writes cX10_writes 3 none) 1 10 61 := rfl
theorem lX10_writes_61 : lk (tX10_writes d mc ms P) 61 = oIld 2 62 := rfl
theorem lX10_writes_62 : lk (tX10_writes d mc ms P) 62 = oPush (.int 2) 63 := rfl
theorem lX10_writes_63 : lk (tX10_writes d mc ms P) 63 = oIc (fun x y => x ≤ y) 76 66 := rfl
theorem lX10_writes_66 : lk (tX10_writes d mc ms P) 66 = oAld 0 67 := rfl
theorem lX10_writes_67 : lk (tX10_writes d mc ms P) 67 = oAld 0 68 := rfl
theorem lX10_writes_68 : lk (tX10_writes d mc ms P) 68 = oGr 10 14 71 := rfl
theorem lX10_writes_71 : lk (tX10_writes d mc ms P) 71 = oIld 1 72 := rfl
theorem lX10_writes_72 : lk (tX10_writes d mc ms P) 72 = oAi 100 73 := rfl
theorem lX10_writes_73 : lk (tX10_writes d mc ms P) 73 = oCallV d mc ms P 0 0 yX10_writes (Cond.code yX10_writes cX10_writes 3 none) 1 10 76 := rfl
theorem lX10_writes_76 : lk (tX10_writes d mc ms P) 76 = oRetV mc ms P := rfl
theorem lX10_reads_0 : lk (tX10_reads d mc ms P) 0 = oAld 0 1 := rfl
theorem lX10_reads_1 : lk (tX10_reads d mc ms P) 1 = oPush (.int 0) 2 := rfl
theorem lX10_reads_2 : lk (tX10_reads d mc ms P) 2 = oPi 10 7 5 := rfl
theorem lX10_reads_5 : lk (tX10_reads d mc ms P) 5 = oAld 0 6 := rfl
theorem lX10_reads_6 : lk (tX10_reads d mc ms P) 6 = oPush (.int 0) 7 := rfl
theorem lX10_reads_7 : lk (tX10_reads d mc ms P) 7 = oPz 10 9 10 := rfl
theorem lX10_reads_10 : lk (tX10_reads d mc ms P) 10 = oAld 0 11 := rfl
theorem lX10_reads_11 : lk (tX10_reads d mc ms P) 11 = oPush (.int 0) 12 := rfl
theorem lX10_reads_12 : lk (tX10_reads d mc ms P) 12 = oPi 10 19 15 := rfl
theorem lX10_reads_15 : lk (tX10_reads d mc ms P) 15 = oAld 0 16 := rfl
theorem lX10_reads_16 : lk (tX10_reads d mc ms P) 16 = oPush (.int 0) 17 := rfl
theorem lX10_reads_17 : lk (tX10_reads d mc ms P) 17 = oPi 10 15 20 := rfl
theorem lX10_reads_20 : lk (tX10_reads d mc ms P) 20 = oPush (.int 0) 21 := rfl
theorem lX10_reads_21 : lk (tX10_reads d mc ms P) 21 = oIst 1 22 := rfl
theorem lX10_reads_22 : lk (tX10_reads d mc ms P) 22 = oAld 0 23 := rfl
theorem lX10_reads_23 : lk (tX10_reads d mc ms P) 23 = oGi 10 9 26 := rfl
theorem lX10_reads_26 : lk (tX10_reads d mc ms P) 26 = oIf (fun x => x = 0) 29 143 := rfl
theorem lX10_reads_29 : lk (tX10_reads d mc ms P) 29 = oAld 0 30 := rfl
theorem lX10_reads_30 : lk (tX10_reads d mc ms P) 30 = oGi 10 7 33 := rfl
theorem lX10_reads_33 : lk (tX10_reads d mc ms P) 33 = oAld 0 34 := rfl
theorem lX10_reads_34 : lk (tX10_reads d mc ms P) 34 = oGi 10 6 37 := rfl
theorem lX10_reads_37 : lk (tX10_reads d mc ms P) 37 = oIc (fun x y => x < y) 44 40 := rfl
theorem lX10_reads_40 : lk (tX10_reads d mc ms P) 40 = oIld 1 41 := rfl
theorem lX10_reads_41 : lk (tX10_reads d mc ms P) 41 = oIf (fun x => x = 0) 44 143 := rfl
theorem lX10_reads_44 : lk (tX10_reads d mc ms P) 44 = oAld 0 45 := rfl
theorem lX10_reads_45 : lk (tX10_reads d mc ms P) 45 = oPush (.int 0) 46 := rfl
theorem lX10_reads_46 : lk (tX10_reads d mc ms P) 46 = oPi 10 10 49 := rfl
theorem lX10_reads_49 : lk (tX10_reads d mc ms P) 49 = oAld 0 50 := rfl
theorem lX10_reads_50 : lk (tX10_reads d mc ms P) 50 = oCallV d mc ms P 0 0 yX10_here (Cond.code yX10_here cX10_here 1 (some .int)) 0 10 53 := rfl
theorem lX10_reads_53 : lk (tX10_reads d mc ms P) 53 = oIst 2 54 := rfl
theorem lX10_reads_54 : lk (tX10_reads d mc ms P) 54 = oIld 2 55 := rfl
theorem lX10_reads_55 : lk (tX10_reads d mc ms P) 55 = oPush (.int 115) 57 := rfl
theorem lX10_reads_57 : lk (tX10_reads d mc ms P) 57 = oPush (.int 122) 59 := rfl
theorem lX10_reads_59 : lk (tX10_reads d mc ms P) 59 = oCallS d mc ms P 0 0 yX10_in (Cond.code yX10_in cX10_in 3 (some .boolean)) 3 62 := rfl
theorem lX10_reads_62 : lk (tX10_reads d mc ms P) 62 = oIf (fun x => x = 0) 65 67 := rfl
theorem lX10_reads_65 : lk (tX10_reads d mc ms P) 65 = oPush (.int (-1)) 66 := rfl
theorem lX10_reads_66 : lk (tX10_reads d mc ms P) 66 = oRetI mc ms P := rfl
theorem lX10_reads_67 : lk (tX10_reads d mc ms P) 67 = oAld 0 68 := rfl
theorem lX10_reads_68 : lk (tX10_reads d mc ms P) 68 = oDup 69 := rfl
theorem lX10_reads_69 : lk (tX10_reads d mc ms P) 69 = oGi 10 7 72 := rfl
theorem lX10_reads_72 : lk (tX10_reads d mc ms P) 72 = oPush (.int 1) 73 := rfl
theorem lX10_reads_73 : lk (tX10_reads d mc ms P) 73 = oI2 (fun x y => x + y) 74 := rfl
theorem lX10_reads_74 : lk (tX10_reads d mc ms P) 74 = oPi 10 7 77 := rfl
theorem lX10_reads_77 : lk (tX10_reads d mc ms P) 77 = oAld 0 78 := rfl
theorem lX10_reads_78 : lk (tX10_reads d mc ms P) 78 = oPush (.int 61) 80 := rfl
theorem lX10_reads_80 : lk (tX10_reads d mc ms P) 80 = oCallV d mc ms P 0 0 yX10_expects (Cond.code yX10_expects cX10_expects 2 none) 1 10 83 := rfl
theorem lX10_reads_83 : lk (tX10_reads d mc ms P) 83 = oAld 0 84 := rfl
theorem lX10_reads_84 : lk (tX10_reads d mc ms P) 84 = oCallV d mc ms P 0 0 yX10_expression (Cond.code yX10_expression cX10_expression 3 (some .int)) 0 10 87 := rfl
theorem lX10_reads_87 : lk (tX10_reads d mc ms P) 87 = oIst 3 88 := rfl
theorem lX10_reads_88 : lk (tX10_reads d mc ms P) 88 = oAld 0 89 := rfl
theorem lX10_reads_89 : lk (tX10_reads d mc ms P) 89 = oPush (.int 59) 91 := rfl
set_option maxRecDepth 20000 in
theorem lX10_reads_91 : lk (tX10_reads d mc ms P) 91 = oCallV d mc ms P 0 0 yX10_expects (Cond.code yX10_expects cX10_expects 2 none) 1 10 94 := rfl
set_option maxRecDepth 20000 in
theorem lX10_reads_94 : lk (tX10_reads d mc ms P) 94 = oAld 0 95 := rfl
set_option maxRecDepth 20000 in
theorem lX10_reads_95 : lk (tX10_reads d mc ms P) 95 = oGi 10 9 98 := rfl
set_option maxRecDepth 20000 in
theorem lX10_reads_98 : lk (tX10_reads d mc ms P) 98 = oIf (fun x => x = 0) 103 101 := rfl
set_option maxRecDepth 20000 in
theorem lX10_reads_101 : lk (tX10_reads d mc ms P) 101 = oPush (.int (-1)) 102 := rfl
set_option maxRecDepth 20000 in
theorem lX10_reads_102 : lk (tX10_reads d mc ms P) 102 = oRetI mc ms P := rfl
set_option maxRecDepth 20000 in
theorem lX10_reads_103 : lk (tX10_reads d mc ms P) 103 = oAld 0 104 := rfl
set_option maxRecDepth 20000 in
theorem lX10_reads_104 : lk (tX10_reads d mc ms P) 104 = oGi 10 19 107 := rfl
set_option maxRecDepth 20000 in
theorem lX10_reads_107 : lk (tX10_reads d mc ms P) 107 = oIst 4 109 := rfl
set_option maxRecDepth 20000 in
theorem lX10_reads_109 : lk (tX10_reads d mc ms P) 109 = oAld 0 110 := rfl
set_option maxRecDepth 20000 in
theorem lX10_reads_110 : lk (tX10_reads d mc ms P) 110 = oIld 3 111 := rfl
set_option maxRecDepth 20000 in
theorem lX10_reads_111 : lk (tX10_reads d mc ms P) 111 = oCallV d mc ms P 0 0 yX10_writes (Cond.code yX10_writes cX10_writes 3 none) 1 10 114 := rfl
set_option maxRecDepth 20000 in
theorem lX10_reads_114 : lk (tX10_reads d mc ms P) 114 = oAld 0 115 := rfl
set_option maxRecDepth 20000 in
theorem lX10_reads_115 : lk (tX10_reads d mc ms P) 115 = oGr 10 16 118 := rfl
set_option maxRecDepth 20000 in
theorem lX10_reads_118 : lk (tX10_reads d mc ms P) 118 = oIld 1 119 := rfl
set_option maxRecDepth 20000 in
theorem lX10_reads_119 : lk (tX10_reads d mc ms P) 119 = oIld 2 120 := rfl
set_option maxRecDepth 20000 in
theorem lX10_reads_120 : lk (tX10_reads d mc ms P) 120 = oPush (.int 115) 122 := rfl
set_option maxRecDepth 20000 in
theorem lX10_reads_122 : lk (tX10_reads d mc ms P) 122 = oI2 (fun x y => x - y) 123 := rfl
set_option maxRecDepth 20000 in
theorem lX10_reads_123 : lk (tX10_reads d mc ms P) 123 = oSi 100 (fun x => x) 124 := rfl
set_option maxRecDepth 20000 in
theorem lX10_reads_124 : lk (tX10_reads d mc ms P) 124 = oAld 0 125 := rfl
set_option maxRecDepth 20000 in
theorem lX10_reads_125 : lk (tX10_reads d mc ms P) 125 = oGr 10 17 128 := rfl
set_option maxRecDepth 20000 in
theorem lX10_reads_128 : lk (tX10_reads d mc ms P) 128 = oIld 1 129 := rfl
set_option maxRecDepth 20000 in
theorem lX10_reads_129 : lk (tX10_reads d mc ms P) 129 = oInc 1 1 132 := rfl
set_option maxRecDepth 20000 in
theorem lX10_reads_132 : lk (tX10_reads d mc ms P) 132 = oAld 0 133 := rfl
set_option maxRecDepth 20000 in
theorem lX10_reads_133 : lk (tX10_reads d mc ms P) 133 = oGi 10 19 136 := rfl
set_option maxRecDepth 20000 in
theorem lX10_reads_136 : lk (tX10_reads d mc ms P) 136 = oIld 4 138 := rfl
set_option maxRecDepth 20000 in
theorem lX10_reads_138 : lk (tX10_reads d mc ms P) 138 = oI2 (fun x y => x - y) 139 := rfl
set_option maxRecDepth 20000 in
theorem lX10_reads_139 : lk (tX10_reads d mc ms P) 139 = oSi 100 (fun x => x) 140 := rfl
set_option maxRecDepth 20000 in
theorem lX10_reads_140 : lk (tX10_reads d mc ms P) 140 = oGoto 22 := rfl
set_option maxRecDepth 20000 in
theorem lX10_reads_143 : lk (tX10_reads d mc ms P) 143 = oIld 1 144 := rfl
set_option maxRecDepth 20000 in
theorem lX10_reads_144 : lk (tX10_reads d mc ms P) 144 = oRetI mc ms P := rfl
theorem lX10_code_0 : lk (tX10_code d mc ms P) 0 = oPush (.int 75) 2 := rfl
theorem lX10_code_2 : lk (tX10_code d mc ms P) 2 = oPush (.int 100) 4 := rfl
theorem lX10_code_4 : lk (tX10_code d mc ms P) 4 = oIld 0 5 := rfl
theorem lX10_code_5 : lk (tX10_code d mc ms P) 5 = oI2 (fun x y => x * y) 6 := rfl
theorem lX10_code_6 : lk (tX10_code d mc ms P) 6 = oI2 (fun x y => x + y) 7 := rfl
theorem lX10_code_7 : lk (tX10_code d mc ms P) 7 = oRetI mc ms P := rfl
theorem lX10_ends_0 : lk (tX10_ends d mc ms P) 0 = oPush (.int 0) 1 := rfl
theorem lX10_ends_1 : lk (tX10_ends d mc ms P) 1 = oIst 1 2 := rfl
theorem lX10_ends_2 : lk (tX10_ends d mc ms P) 2 = oIld 1 3 := rfl
theorem lX10_ends_3 : lk (tX10_ends d mc ms P) 3 = oPush (.int 8) 5 := rfl
theorem lX10_ends_5 : lk (tX10_ends d mc ms P) 5 = oIc (fun x y => y ≤ x) 35 8 := rfl
theorem lX10_ends_8 : lk (tX10_ends d mc ms P) 8 = oAld 0 9 := rfl
theorem lX10_ends_9 : lk (tX10_ends d mc ms P) 9 = oGr 10 21 12 := rfl
theorem lX10_ends_12 : lk (tX10_ends d mc ms P) 12 = oIld 1 13 := rfl
theorem lX10_ends_13 : lk (tX10_ends d mc ms P) 13 = oPush (.int 1) 14 := rfl
theorem lX10_ends_14 : lk (tX10_ends d mc ms P) 14 = oSi 100 (fun x => x) 15 := rfl
theorem lX10_ends_15 : lk (tX10_ends d mc ms P) 15 = oAld 0 16 := rfl
theorem lX10_ends_16 : lk (tX10_ends d mc ms P) 16 = oGr 10 20 19 := rfl
theorem lX10_ends_19 : lk (tX10_ends d mc ms P) 19 = oPush (.int 200) 22 := rfl
theorem lX10_ends_22 : lk (tX10_ends d mc ms P) 22 = oIld 1 23 := rfl
theorem lX10_ends_23 : lk (tX10_ends d mc ms P) 23 = oI2 (fun x y => x * y) 24 := rfl
theorem lX10_ends_24 : lk (tX10_ends d mc ms P) 24 = oPush (.int 100) 26 := rfl
theorem lX10_ends_26 : lk (tX10_ends d mc ms P) 26 = oIld 1 27 := rfl
theorem lX10_ends_27 : lk (tX10_ends d mc ms P) 27 = oI2 (fun x y => x + y) 28 := rfl
theorem lX10_ends_28 : lk (tX10_ends d mc ms P) 28 = oSi 100 (fun x => x) 29 := rfl
theorem lX10_ends_29 : lk (tX10_ends d mc ms P) 29 = oInc 1 1 32 := rfl
theorem lX10_ends_32 : lk (tX10_ends d mc ms P) 32 = oGoto 2 := rfl
theorem lX10_ends_35 : lk (tX10_ends d mc ms P) 35 = oPush (.int 0) 36 := rfl
theorem lX10_ends_36 : lk (tX10_ends d mc ms P) 36 = oIst 1 37 := rfl
theorem lX10_ends_37 : lk (tX10_ends d mc ms P) 37 = oIld 1 38 := rfl
theorem lX10_ends_38 : lk (tX10_ends d mc ms P) 38 = oAld 0 39 := rfl
theorem lX10_ends_39 : lk (tX10_ends d mc ms P) 39 = oGr 10 1 42 := rfl
theorem lX10_ends_42 : lk (tX10_ends d mc ms P) 42 = oPush (.int 0) 43 := rfl
theorem lX10_ends_43 : lk (tX10_ends d mc ms P) 43 = oAi 100 44 := rfl
theorem lX10_ends_44 : lk (tX10_ends d mc ms P) 44 = oIc (fun x y => y ≤ x) 253 47 := rfl
theorem lX10_ends_47 : lk (tX10_ends d mc ms P) 47 = oAld 0 48 := rfl
theorem lX10_ends_48 : lk (tX10_ends d mc ms P) 48 = oPush (.int 0) 49 := rfl
theorem lX10_ends_49 : lk (tX10_ends d mc ms P) 49 = oPi 10 23 52 := rfl
theorem lX10_ends_52 : lk (tX10_ends d mc ms P) 52 = oPush (.int 0) 53 := rfl
theorem lX10_ends_53 : lk (tX10_ends d mc ms P) 53 = oIst 2 54 := rfl
theorem lX10_ends_54 : lk (tX10_ends d mc ms P) 54 = oIld 2 55 := rfl
theorem lX10_ends_55 : lk (tX10_ends d mc ms P) 55 = oAld 0 56 := rfl
theorem lX10_ends_56 : lk (tX10_ends d mc ms P) 56 = oGr 10 1 59 := rfl
theorem lX10_ends_59 : lk (tX10_ends d mc ms P) 59 = oPush (.int 11) 61 := rfl
theorem lX10_ends_61 : lk (tX10_ends d mc ms P) 61 = oIld 1 62 := rfl
theorem lX10_ends_62 : lk (tX10_ends d mc ms P) 62 = oI2 (fun x y => x + y) 63 := rfl
theorem lX10_ends_63 : lk (tX10_ends d mc ms P) 63 = oAi 100 64 := rfl
theorem lX10_ends_64 : lk (tX10_ends d mc ms P) 64 = oIc (fun x y => y ≤ x) 194 67 := rfl
theorem lX10_ends_67 : lk (tX10_ends d mc ms P) 67 = oAld 0 68 := rfl
theorem lX10_ends_68 : lk (tX10_ends d mc ms P) 68 = oGr 10 1 71 := rfl
theorem lX10_ends_71 : lk (tX10_ends d mc ms P) 71 = oIld 1 72 := rfl
theorem lX10_ends_72 : lk (tX10_ends d mc ms P) 72 = oCallS d mc ms P 0 0 yX10_code (Cond.code yX10_code cX10_code 1 (some .int)) 1 75 := rfl
theorem lX10_ends_75 : lk (tX10_ends d mc ms P) 75 = oIld 2 76 := rfl
theorem lX10_ends_76 : lk (tX10_ends d mc ms P) 76 = oI2 (fun x y => x + y) 77 := rfl
theorem lX10_ends_77 : lk (tX10_ends d mc ms P) 77 = oAi 100 78 := rfl
theorem lX10_ends_78 : lk (tX10_ends d mc ms P) 78 = oIst 3 79 := rfl
theorem lX10_ends_79 : lk (tX10_ends d mc ms P) 79 = oIld 3 80 := rfl
set_option maxRecDepth 20000 in
theorem lX10_ends_80 : lk (tX10_ends d mc ms P) 80 = oPush (.int 100) 82 := rfl
set_option maxRecDepth 20000 in
theorem lX10_ends_82 : lk (tX10_ends d mc ms P) 82 = oPush (.int 107) 84 := rfl
set_option maxRecDepth 20000 in
theorem lX10_ends_84 : lk (tX10_ends d mc ms P) 84 = oCallS d mc ms P 0 0 yX10_in (Cond.code yX10_in cX10_in 3 (some .boolean)) 3 87 := rfl
set_option maxRecDepth 20000 in
theorem lX10_ends_87 : lk (tX10_ends d mc ms P) 87 = oIf (fun x => x = 0) 97 90 := rfl
set_option maxRecDepth 20000 in
theorem lX10_ends_90 : lk (tX10_ends d mc ms P) 90 = oIld 3 91 := rfl
set_option maxRecDepth 20000 in
theorem lX10_ends_91 : lk (tX10_ends d mc ms P) 91 = oPush (.int 100) 93 := rfl
set_option maxRecDepth 20000 in
theorem lX10_ends_93 : lk (tX10_ends d mc ms P) 93 = oI2 (fun x y => x - y) 94 := rfl
set_option maxRecDepth 20000 in
theorem lX10_ends_94 : lk (tX10_ends d mc ms P) 94 = oGoto 98 := rfl
set_option maxRecDepth 20000 in
theorem lX10_ends_97 : lk (tX10_ends d mc ms P) 97 = oPush (.int (-1)) 98 := rfl
set_option maxRecDepth 20000 in
theorem lX10_ends_98 : lk (tX10_ends d mc ms P) 98 = oIst 4 100 := rfl
set_option maxRecDepth 20000 in
theorem lX10_ends_100 : lk (tX10_ends d mc ms P) 100 = oIld 4 102 := rfl
set_option maxRecDepth 20000 in
theorem lX10_ends_102 : lk (tX10_ends d mc ms P) 102 = oIf (fun x => 0 ≤ x) 109 105 := rfl
set_option maxRecDepth 20000 in
theorem lX10_ends_105 : lk (tX10_ends d mc ms P) 105 = oPush (.int 1) 106 := rfl
set_option maxRecDepth 20000 in
theorem lX10_ends_106 : lk (tX10_ends d mc ms P) 106 = oGoto 116 := rfl
set_option maxRecDepth 20000 in
theorem lX10_ends_109 : lk (tX10_ends d mc ms P) 109 = oAld 0 110 := rfl
set_option maxRecDepth 20000 in
theorem lX10_ends_110 : lk (tX10_ends d mc ms P) 110 = oGr 10 21 113 := rfl
set_option maxRecDepth 20000 in
theorem lX10_ends_113 : lk (tX10_ends d mc ms P) 113 = oIld 4 115 := rfl
set_option maxRecDepth 20000 in
theorem lX10_ends_115 : lk (tX10_ends d mc ms P) 115 = oAi 100 116 := rfl
set_option maxRecDepth 20000 in
theorem lX10_ends_116 : lk (tX10_ends d mc ms P) 116 = oIst 5 118 := rfl
set_option maxRecDepth 20000 in
theorem lX10_ends_118 : lk (tX10_ends d mc ms P) 118 = oAld 0 119 := rfl
set_option maxRecDepth 20000 in
theorem lX10_ends_119 : lk (tX10_ends d mc ms P) 119 = oGi 10 23 122 := rfl
set_option maxRecDepth 20000 in
theorem lX10_ends_122 : lk (tX10_ends d mc ms P) 122 = oIld 5 124 := rfl
set_option maxRecDepth 20000 in
theorem lX10_ends_124 : lk (tX10_ends d mc ms P) 124 = oI2 (fun x y => x + y) 125 := rfl
set_option maxRecDepth 20000 in
theorem lX10_ends_125 : lk (tX10_ends d mc ms P) 125 = oPush (.int 200) 128 := rfl
set_option maxRecDepth 20000 in
theorem lX10_ends_128 : lk (tX10_ends d mc ms P) 128 = oIc (fun x y => x ≤ y) 133 131 := rfl
set_option maxRecDepth 20000 in
theorem lX10_ends_131 : lk (tX10_ends d mc ms P) 131 = oPush (.int 0) 132 := rfl
set_option maxRecDepth 20000 in
theorem lX10_ends_132 : lk (tX10_ends d mc ms P) 132 = oRetZ mc ms P := rfl
set_option maxRecDepth 20000 in
theorem lX10_ends_133 : lk (tX10_ends d mc ms P) 133 = oPush (.int 0) 134 := rfl
set_option maxRecDepth 20000 in
theorem lX10_ends_134 : lk (tX10_ends d mc ms P) 134 = oIst 6 136 := rfl
set_option maxRecDepth 20000 in
theorem lX10_ends_136 : lk (tX10_ends d mc ms P) 136 = oIld 6 138 := rfl
set_option maxRecDepth 20000 in
theorem lX10_ends_138 : lk (tX10_ends d mc ms P) 138 = oIld 5 140 := rfl
set_option maxRecDepth 20000 in
theorem lX10_ends_140 : lk (tX10_ends d mc ms P) 140 = oIc (fun x y => y ≤ x) 188 143 := rfl
set_option maxRecDepth 20000 in
theorem lX10_ends_143 : lk (tX10_ends d mc ms P) 143 = oAld 0 144 := rfl
set_option maxRecDepth 20000 in
theorem lX10_ends_144 : lk (tX10_ends d mc ms P) 144 = oGr 10 22 147 := rfl
set_option maxRecDepth 20000 in
theorem lX10_ends_147 : lk (tX10_ends d mc ms P) 147 = oAld 0 148 := rfl
set_option maxRecDepth 20000 in
theorem lX10_ends_148 : lk (tX10_ends d mc ms P) 148 = oDup 149 := rfl
set_option maxRecDepth 20000 in
theorem lX10_ends_149 : lk (tX10_ends d mc ms P) 149 = oGi 10 23 152 := rfl
set_option maxRecDepth 20000 in
theorem lX10_ends_152 : lk (tX10_ends d mc ms P) 152 = oDupx1 153 := rfl
set_option maxRecDepth 20000 in
theorem lX10_ends_153 : lk (tX10_ends d mc ms P) 153 = oPush (.int 1) 154 := rfl
set_option maxRecDepth 20000 in
theorem lX10_ends_154 : lk (tX10_ends d mc ms P) 154 = oI2 (fun x y => x + y) 155 := rfl
set_option maxRecDepth 20000 in
theorem lX10_ends_155 : lk (tX10_ends d mc ms P) 155 = oPi 10 23 158 := rfl
set_option maxRecDepth 20000 in
theorem lX10_ends_158 : lk (tX10_ends d mc ms P) 158 = oIld 4 160 := rfl
set_option maxRecDepth 20000 in
theorem lX10_ends_160 : lk (tX10_ends d mc ms P) 160 = oIf (fun x => 0 ≤ x) 167 163 := rfl
set_option maxRecDepth 20000 in
theorem lX10_ends_163 : lk (tX10_ends d mc ms P) 163 = oIld 3 164 := rfl
set_option maxRecDepth 20000 in
theorem lX10_ends_164 : lk (tX10_ends d mc ms P) 164 = oGoto 181 := rfl
set_option maxRecDepth 20000 in
theorem lX10_ends_167 : lk (tX10_ends d mc ms P) 167 = oAld 0 168 := rfl
set_option maxRecDepth 20000 in
theorem lX10_ends_168 : lk (tX10_ends d mc ms P) 168 = oGr 10 20 171 := rfl
set_option maxRecDepth 20000 in
theorem lX10_ends_171 : lk (tX10_ends d mc ms P) 171 = oPush (.int 200) 174 := rfl
set_option maxRecDepth 20000 in
theorem lX10_ends_174 : lk (tX10_ends d mc ms P) 174 = oIld 4 176 := rfl
set_option maxRecDepth 20000 in
theorem lX10_ends_176 : lk (tX10_ends d mc ms P) 176 = oI2 (fun x y => x * y) 177 := rfl
set_option maxRecDepth 20000 in
theorem lX10_ends_177 : lk (tX10_ends d mc ms P) 177 = oIld 6 179 := rfl
set_option maxRecDepth 20000 in
theorem lX10_ends_179 : lk (tX10_ends d mc ms P) 179 = oI2 (fun x y => x + y) 180 := rfl
set_option maxRecDepth 20000 in
theorem lX10_ends_180 : lk (tX10_ends d mc ms P) 180 = oAi 100 181 := rfl
set_option maxRecDepth 20000 in
theorem lX10_ends_181 : lk (tX10_ends d mc ms P) 181 = oSi 100 (fun x => x) 182 := rfl
set_option maxRecDepth 20000 in
theorem lX10_ends_182 : lk (tX10_ends d mc ms P) 182 = oInc 6 1 185 := rfl
set_option maxRecDepth 20000 in
theorem lX10_ends_185 : lk (tX10_ends d mc ms P) 185 = oGoto 136 := rfl
set_option maxRecDepth 20000 in
theorem lX10_ends_188 : lk (tX10_ends d mc ms P) 188 = oInc 2 1 191 := rfl
set_option maxRecDepth 20000 in
theorem lX10_ends_191 : lk (tX10_ends d mc ms P) 191 = oGoto 54 := rfl
set_option maxRecDepth 20000 in
theorem lX10_ends_194 : lk (tX10_ends d mc ms P) 194 = oAld 0 195 := rfl
set_option maxRecDepth 20000 in
theorem lX10_ends_195 : lk (tX10_ends d mc ms P) 195 = oGr 10 1 198 := rfl
set_option maxRecDepth 20000 in
theorem lX10_ends_198 : lk (tX10_ends d mc ms P) 198 = oPush (.int 3) 199 := rfl
set_option maxRecDepth 20000 in
theorem lX10_ends_199 : lk (tX10_ends d mc ms P) 199 = oIld 1 200 := rfl
set_option maxRecDepth 20000 in
theorem lX10_ends_200 : lk (tX10_ends d mc ms P) 200 = oI2 (fun x y => x + y) 201 := rfl
set_option maxRecDepth 20000 in
theorem lX10_ends_201 : lk (tX10_ends d mc ms P) 201 = oAi 100 202 := rfl
set_option maxRecDepth 20000 in
theorem lX10_ends_202 : lk (tX10_ends d mc ms P) 202 = oIst 2 203 := rfl
set_option maxRecDepth 20000 in
theorem lX10_ends_203 : lk (tX10_ends d mc ms P) 203 = oAld 0 204 := rfl
set_option maxRecDepth 20000 in
theorem lX10_ends_204 : lk (tX10_ends d mc ms P) 204 = oGr 10 21 207 := rfl
set_option maxRecDepth 20000 in
theorem lX10_ends_207 : lk (tX10_ends d mc ms P) 207 = oIld 2 208 := rfl
set_option maxRecDepth 20000 in
theorem lX10_ends_208 : lk (tX10_ends d mc ms P) 208 = oAld 0 209 := rfl
set_option maxRecDepth 20000 in
theorem lX10_ends_209 : lk (tX10_ends d mc ms P) 209 = oGi 10 23 212 := rfl
set_option maxRecDepth 20000 in
theorem lX10_ends_212 : lk (tX10_ends d mc ms P) 212 = oSi 100 (fun x => x) 213 := rfl
set_option maxRecDepth 20000 in
theorem lX10_ends_213 : lk (tX10_ends d mc ms P) 213 = oPush (.int 0) 214 := rfl
set_option maxRecDepth 20000 in
theorem lX10_ends_214 : lk (tX10_ends d mc ms P) 214 = oIst 3 215 := rfl
set_option maxRecDepth 20000 in
theorem lX10_ends_215 : lk (tX10_ends d mc ms P) 215 = oIld 3 216 := rfl
set_option maxRecDepth 20000 in
theorem lX10_ends_216 : lk (tX10_ends d mc ms P) 216 = oAld 0 217 := rfl
set_option maxRecDepth 20000 in
theorem lX10_ends_217 : lk (tX10_ends d mc ms P) 217 = oGi 10 23 220 := rfl
set_option maxRecDepth 20000 in
theorem lX10_ends_220 : lk (tX10_ends d mc ms P) 220 = oIc (fun x y => y ≤ x) 247 223 := rfl
set_option maxRecDepth 20000 in
theorem lX10_ends_223 : lk (tX10_ends d mc ms P) 223 = oAld 0 224 := rfl
set_option maxRecDepth 20000 in
theorem lX10_ends_224 : lk (tX10_ends d mc ms P) 224 = oGr 10 20 227 := rfl
set_option maxRecDepth 20000 in
theorem lX10_ends_227 : lk (tX10_ends d mc ms P) 227 = oPush (.int 200) 230 := rfl
set_option maxRecDepth 20000 in
theorem lX10_ends_230 : lk (tX10_ends d mc ms P) 230 = oIld 2 231 := rfl
set_option maxRecDepth 20000 in
theorem lX10_ends_231 : lk (tX10_ends d mc ms P) 231 = oI2 (fun x y => x * y) 232 := rfl
set_option maxRecDepth 20000 in
theorem lX10_ends_232 : lk (tX10_ends d mc ms P) 232 = oIld 3 233 := rfl
set_option maxRecDepth 20000 in
theorem lX10_ends_233 : lk (tX10_ends d mc ms P) 233 = oI2 (fun x y => x + y) 234 := rfl
set_option maxRecDepth 20000 in
theorem lX10_ends_234 : lk (tX10_ends d mc ms P) 234 = oAld 0 235 := rfl
set_option maxRecDepth 20000 in
theorem lX10_ends_235 : lk (tX10_ends d mc ms P) 235 = oGr 10 22 238 := rfl
set_option maxRecDepth 20000 in
theorem lX10_ends_238 : lk (tX10_ends d mc ms P) 238 = oIld 3 239 := rfl
set_option maxRecDepth 20000 in
theorem lX10_ends_239 : lk (tX10_ends d mc ms P) 239 = oAi 100 240 := rfl
set_option maxRecDepth 20000 in
theorem lX10_ends_240 : lk (tX10_ends d mc ms P) 240 = oSi 100 (fun x => x) 241 := rfl
set_option maxRecDepth 20000 in
theorem lX10_ends_241 : lk (tX10_ends d mc ms P) 241 = oInc 3 1 244 := rfl
set_option maxRecDepth 20000 in
theorem lX10_ends_244 : lk (tX10_ends d mc ms P) 244 = oGoto 215 := rfl
set_option maxRecDepth 20000 in
theorem lX10_ends_247 : lk (tX10_ends d mc ms P) 247 = oInc 1 1 250 := rfl
set_option maxRecDepth 20000 in
theorem lX10_ends_250 : lk (tX10_ends d mc ms P) 250 = oGoto 37 := rfl
set_option maxRecDepth 20000 in
theorem lX10_ends_253 : lk (tX10_ends d mc ms P) 253 = oPush (.int 1) 254 := rfl
set_option maxRecDepth 20000 in
theorem lX10_ends_254 : lk (tX10_ends d mc ms P) 254 = oRetZ mc ms P := rfl
theorem lX10_keeps_0 : lk (tX10_keeps d mc ms P) 0 = oPush (.int 0) 1 := rfl
theorem lX10_keeps_1 : lk (tX10_keeps d mc ms P) 1 = oIst 3 2 := rfl
theorem lX10_keeps_2 : lk (tX10_keeps d mc ms P) 2 = oIld 3 3 := rfl
theorem lX10_keeps_3 : lk (tX10_keeps d mc ms P) 3 = oPush (.int 875) 6 := rfl
theorem lX10_keeps_6 : lk (tX10_keeps d mc ms P) 6 = oIc (fun x y => y ≤ x) 21 9 := rfl
theorem lX10_keeps_9 : lk (tX10_keeps d mc ms P) 9 = oAld 2 10 := rfl
theorem lX10_keeps_10 : lk (tX10_keeps d mc ms P) 10 = oIld 3 11 := rfl
theorem lX10_keeps_11 : lk (tX10_keeps d mc ms P) 11 = oAld 1 12 := rfl
theorem lX10_keeps_12 : lk (tX10_keeps d mc ms P) 12 = oIld 3 13 := rfl
theorem lX10_keeps_13 : lk (tX10_keeps d mc ms P) 13 = oAi 100 14 := rfl
theorem lX10_keeps_14 : lk (tX10_keeps d mc ms P) 14 = oSi 100 (fun x => x) 15 := rfl
theorem lX10_keeps_15 : lk (tX10_keeps d mc ms P) 15 = oInc 3 1 18 := rfl
theorem lX10_keeps_18 : lk (tX10_keeps d mc ms P) 18 = oGoto 2 := rfl
theorem lX10_keeps_21 : lk (tX10_keeps d mc ms P) 21 = oRetV mc ms P := rfl
theorem lX10_drops_0 : lk (tX10_drops d mc ms P) 0 = oAld 0 1 := rfl
theorem lX10_drops_1 : lk (tX10_drops d mc ms P) 1 = oPush (.int (-1)) 2 := rfl
theorem lX10_drops_2 : lk (tX10_drops d mc ms P) 2 = oPi 10 29 5 := rfl
theorem lX10_drops_5 : lk (tX10_drops d mc ms P) 5 = oAld 0 6 := rfl
theorem lX10_drops_6 : lk (tX10_drops d mc ms P) 6 = oPush (.int (-1)) 7 := rfl
theorem lX10_drops_7 : lk (tX10_drops d mc ms P) 7 = oPi 10 34 10 := rfl
theorem lX10_drops_10 : lk (tX10_drops d mc ms P) 10 = oRetV mc ms P := rfl
theorem lX10_load_0 : lk (tX10_load d mc ms P) 0 = oAld 0 1 := rfl
theorem lX10_load_1 : lk (tX10_load d mc ms P) 1 = oPush (.int 0) 2 := rfl
theorem lX10_load_2 : lk (tX10_load d mc ms P) 2 = oPi 10 0 5 := rfl
theorem lX10_load_5 : lk (tX10_load d mc ms P) 5 = oAld 0 6 := rfl
theorem lX10_load_6 : lk (tX10_load d mc ms P) 6 = oCallV d mc ms P 0 0 yX10_reads (Cond.code yX10_reads cX10_reads 5 (some .int)) 0 10 9 := rfl
theorem lX10_load_9 : lk (tX10_load d mc ms P) 9 = oIst 1 10 := rfl
theorem lX10_load_10 : lk (tX10_load d mc ms P) 10 = oAld 0 11 := rfl
theorem lX10_load_11 : lk (tX10_load d mc ms P) 11 = oPush (.int 0) 12 := rfl
theorem lX10_load_12 : lk (tX10_load d mc ms P) 12 = oPi 10 6 15 := rfl
theorem lX10_load_15 : lk (tX10_load d mc ms P) 15 = oAld 0 16 := rfl
theorem lX10_load_16 : lk (tX10_load d mc ms P) 16 = oIld 1 17 := rfl
theorem lX10_load_17 : lk (tX10_load d mc ms P) 17 = oIf (fun x => 0 ≤ x) 27 20 := rfl
theorem lX10_load_20 : lk (tX10_load d mc ms P) 20 = oAld 0 21 := rfl
theorem lX10_load_21 : lk (tX10_load d mc ms P) 21 = oGi 10 7 24 := rfl
theorem lX10_load_24 : lk (tX10_load d mc ms P) 24 = oGoto 28 := rfl
theorem lX10_load_27 : lk (tX10_load d mc ms P) 27 = oPush (.int (-1)) 28 := rfl
theorem lX10_load_28 : lk (tX10_load d mc ms P) 28 = oPi 10 8 31 := rfl
theorem lX10_load_31 : lk (tX10_load d mc ms P) 31 = oIld 1 32 := rfl
theorem lX10_load_32 : lk (tX10_load d mc ms P) 32 = oIf (fun x => 0 ≤ x) 41 35 := rfl
theorem lX10_load_35 : lk (tX10_load d mc ms P) 35 = oAld 0 36 := rfl
theorem lX10_load_36 : lk (tX10_load d mc ms P) 36 = oPush (.int 1) 37 := rfl
theorem lX10_load_37 : lk (tX10_load d mc ms P) 37 = oCallV d mc ms P 0 0 yX10_raises (Cond.code yX10_raises cX10_raises 2 (some .int)) 1 10 40 := rfl
theorem lX10_load_40 : lk (tX10_load d mc ms P) 40 = oRetI mc ms P := rfl
theorem lX10_load_41 : lk (tX10_load d mc ms P) 41 = oIld 1 42 := rfl
theorem lX10_load_42 : lk (tX10_load d mc ms P) 42 = oPush (.int 8) 44 := rfl
theorem lX10_load_44 : lk (tX10_load d mc ms P) 44 = oIc (fun x y => x ≤ y) 53 47 := rfl
theorem lX10_load_47 : lk (tX10_load d mc ms P) 47 = oAld 0 48 := rfl
theorem lX10_load_48 : lk (tX10_load d mc ms P) 48 = oPush (.int 2) 49 := rfl
theorem lX10_load_49 : lk (tX10_load d mc ms P) 49 = oCallV d mc ms P 0 0 yX10_raises (Cond.code yX10_raises cX10_raises 2 (some .int)) 1 10 52 := rfl
theorem lX10_load_52 : lk (tX10_load d mc ms P) 52 = oRetI mc ms P := rfl
theorem lX10_load_53 : lk (tX10_load d mc ms P) 53 = oAld 0 54 := rfl
theorem lX10_load_54 : lk (tX10_load d mc ms P) 54 = oAld 0 55 := rfl
theorem lX10_load_55 : lk (tX10_load d mc ms P) 55 = oGr 10 1 58 := rfl
theorem lX10_load_58 : lk (tX10_load d mc ms P) 58 = oAld 0 59 := rfl
theorem lX10_load_59 : lk (tX10_load d mc ms P) 59 = oGr 10 4 62 := rfl
theorem lX10_load_62 : lk (tX10_load d mc ms P) 62 = oCallV d mc ms P 0 0 yX10_keeps (Cond.code yX10_keeps cX10_keeps 4 none) 2 10 65 := rfl
theorem lX10_load_65 : lk (tX10_load d mc ms P) 65 = oAld 0 66 := rfl
theorem lX10_load_66 : lk (tX10_load d mc ms P) 66 = oGr 10 1 69 := rfl
theorem lX10_load_69 : lk (tX10_load d mc ms P) 69 = oPush (.int 0) 70 := rfl
theorem lX10_load_70 : lk (tX10_load d mc ms P) 70 = oIld 1 71 := rfl
theorem lX10_load_71 : lk (tX10_load d mc ms P) 71 = oSi 100 (fun x => x) 72 := rfl
theorem lX10_load_72 : lk (tX10_load d mc ms P) 72 = oPush (.int 0) 73 := rfl
theorem lX10_load_73 : lk (tX10_load d mc ms P) 73 = oIst 2 74 := rfl
theorem lX10_load_74 : lk (tX10_load d mc ms P) 74 = oPush (.int 0) 75 := rfl
theorem lX10_load_75 : lk (tX10_load d mc ms P) 75 = oIst 3 76 := rfl
theorem lX10_load_76 : lk (tX10_load d mc ms P) 76 = oIld 3 77 := rfl
theorem lX10_load_77 : lk (tX10_load d mc ms P) 77 = oIld 1 78 := rfl
theorem lX10_load_78 : lk (tX10_load d mc ms P) 78 = oIc (fun x y => y ≤ x) 157 81 := rfl
theorem lX10_load_81 : lk (tX10_load d mc ms P) 81 = oAld 0 82 := rfl
theorem lX10_load_82 : lk (tX10_load d mc ms P) 82 = oGr 10 1 85 := rfl
theorem lX10_load_85 : lk (tX10_load d mc ms P) 85 = oPush (.int 3) 86 := rfl
set_option maxRecDepth 20000 in
theorem lX10_load_86 : lk (tX10_load d mc ms P) 86 = oIld 3 87 := rfl
set_option maxRecDepth 20000 in
theorem lX10_load_87 : lk (tX10_load d mc ms P) 87 = oI2 (fun x y => x + y) 88 := rfl
set_option maxRecDepth 20000 in
theorem lX10_load_88 : lk (tX10_load d mc ms P) 88 = oAld 0 89 := rfl
set_option maxRecDepth 20000 in
theorem lX10_load_89 : lk (tX10_load d mc ms P) 89 = oGr 10 16 92 := rfl
set_option maxRecDepth 20000 in
theorem lX10_load_92 : lk (tX10_load d mc ms P) 92 = oIld 3 93 := rfl
set_option maxRecDepth 20000 in
theorem lX10_load_93 : lk (tX10_load d mc ms P) 93 = oAi 100 94 := rfl
set_option maxRecDepth 20000 in
theorem lX10_load_94 : lk (tX10_load d mc ms P) 94 = oSi 100 (fun x => x) 95 := rfl
set_option maxRecDepth 20000 in
theorem lX10_load_95 : lk (tX10_load d mc ms P) 95 = oAld 0 96 := rfl
set_option maxRecDepth 20000 in
theorem lX10_load_96 : lk (tX10_load d mc ms P) 96 = oGr 10 1 99 := rfl
set_option maxRecDepth 20000 in
theorem lX10_load_99 : lk (tX10_load d mc ms P) 99 = oPush (.int 11) 101 := rfl
set_option maxRecDepth 20000 in
theorem lX10_load_101 : lk (tX10_load d mc ms P) 101 = oIld 3 102 := rfl
set_option maxRecDepth 20000 in
theorem lX10_load_102 : lk (tX10_load d mc ms P) 102 = oI2 (fun x y => x + y) 103 := rfl
set_option maxRecDepth 20000 in
theorem lX10_load_103 : lk (tX10_load d mc ms P) 103 = oAld 0 104 := rfl
set_option maxRecDepth 20000 in
theorem lX10_load_104 : lk (tX10_load d mc ms P) 104 = oGr 10 17 107 := rfl
set_option maxRecDepth 20000 in
theorem lX10_load_107 : lk (tX10_load d mc ms P) 107 = oIld 3 108 := rfl
set_option maxRecDepth 20000 in
theorem lX10_load_108 : lk (tX10_load d mc ms P) 108 = oAi 100 109 := rfl
set_option maxRecDepth 20000 in
theorem lX10_load_109 : lk (tX10_load d mc ms P) 109 = oSi 100 (fun x => x) 110 := rfl
set_option maxRecDepth 20000 in
theorem lX10_load_110 : lk (tX10_load d mc ms P) 110 = oPush (.int 0) 111 := rfl
set_option maxRecDepth 20000 in
theorem lX10_load_111 : lk (tX10_load d mc ms P) 111 = oIst 4 113 := rfl
set_option maxRecDepth 20000 in
theorem lX10_load_113 : lk (tX10_load d mc ms P) 113 = oIld 4 115 := rfl
set_option maxRecDepth 20000 in
theorem lX10_load_115 : lk (tX10_load d mc ms P) 115 = oAld 0 116 := rfl
set_option maxRecDepth 20000 in
theorem lX10_load_116 : lk (tX10_load d mc ms P) 116 = oGr 10 17 119 := rfl
set_option maxRecDepth 20000 in
theorem lX10_load_119 : lk (tX10_load d mc ms P) 119 = oIld 3 120 := rfl
set_option maxRecDepth 20000 in
theorem lX10_load_120 : lk (tX10_load d mc ms P) 120 = oAi 100 121 := rfl
set_option maxRecDepth 20000 in
theorem lX10_load_121 : lk (tX10_load d mc ms P) 121 = oIc (fun x y => y ≤ x) 151 124 := rfl
set_option maxRecDepth 20000 in
theorem lX10_load_124 : lk (tX10_load d mc ms P) 124 = oAld 0 125 := rfl
set_option maxRecDepth 20000 in
theorem lX10_load_125 : lk (tX10_load d mc ms P) 125 = oGr 10 1 128 := rfl
set_option maxRecDepth 20000 in
theorem lX10_load_128 : lk (tX10_load d mc ms P) 128 = oIld 3 129 := rfl
set_option maxRecDepth 20000 in
theorem lX10_load_129 : lk (tX10_load d mc ms P) 129 = oCallS d mc ms P 0 0 yX10_code (Cond.code yX10_code cX10_code 1 (some .int)) 1 132 := rfl
set_option maxRecDepth 20000 in
theorem lX10_load_132 : lk (tX10_load d mc ms P) 132 = oIld 4 134 := rfl
set_option maxRecDepth 20000 in
theorem lX10_load_134 : lk (tX10_load d mc ms P) 134 = oI2 (fun x y => x + y) 135 := rfl
set_option maxRecDepth 20000 in
theorem lX10_load_135 : lk (tX10_load d mc ms P) 135 = oAld 0 136 := rfl
set_option maxRecDepth 20000 in
theorem lX10_load_136 : lk (tX10_load d mc ms P) 136 = oGr 10 18 139 := rfl
set_option maxRecDepth 20000 in
theorem lX10_load_139 : lk (tX10_load d mc ms P) 139 = oIld 2 140 := rfl
set_option maxRecDepth 20000 in
theorem lX10_load_140 : lk (tX10_load d mc ms P) 140 = oInc 2 1 143 := rfl
set_option maxRecDepth 20000 in
theorem lX10_load_143 : lk (tX10_load d mc ms P) 143 = oAi 100 144 := rfl
set_option maxRecDepth 20000 in
theorem lX10_load_144 : lk (tX10_load d mc ms P) 144 = oSi 100 (fun x => x) 145 := rfl
set_option maxRecDepth 20000 in
theorem lX10_load_145 : lk (tX10_load d mc ms P) 145 = oInc 4 1 148 := rfl
set_option maxRecDepth 20000 in
theorem lX10_load_148 : lk (tX10_load d mc ms P) 148 = oGoto 113 := rfl
set_option maxRecDepth 20000 in
theorem lX10_load_151 : lk (tX10_load d mc ms P) 151 = oInc 3 1 154 := rfl
set_option maxRecDepth 20000 in
theorem lX10_load_154 : lk (tX10_load d mc ms P) 154 = oGoto 76 := rfl
set_option maxRecDepth 20000 in
theorem lX10_load_157 : lk (tX10_load d mc ms P) 157 = oAld 0 158 := rfl
set_option maxRecDepth 20000 in
theorem lX10_load_158 : lk (tX10_load d mc ms P) 158 = oCallV d mc ms P 0 0 yX10_ends (Cond.code yX10_ends cX10_ends 7 (some .boolean)) 0 10 161 := rfl
set_option maxRecDepth 20000 in
theorem lX10_load_161 : lk (tX10_load d mc ms P) 161 = oIf (fun x => x = 0) 164 187 := rfl
set_option maxRecDepth 20000 in
theorem lX10_load_164 : lk (tX10_load d mc ms P) 164 = oAld 0 165 := rfl
set_option maxRecDepth 20000 in
theorem lX10_load_165 : lk (tX10_load d mc ms P) 165 = oAld 0 166 := rfl
set_option maxRecDepth 20000 in
theorem lX10_load_166 : lk (tX10_load d mc ms P) 166 = oGr 10 4 169 := rfl
set_option maxRecDepth 20000 in
theorem lX10_load_169 : lk (tX10_load d mc ms P) 169 = oAld 0 170 := rfl
set_option maxRecDepth 20000 in
theorem lX10_load_170 : lk (tX10_load d mc ms P) 170 = oGr 10 1 173 := rfl
set_option maxRecDepth 20000 in
theorem lX10_load_173 : lk (tX10_load d mc ms P) 173 = oCallV d mc ms P 0 0 yX10_keeps (Cond.code yX10_keeps cX10_keeps 4 none) 2 10 176 := rfl
set_option maxRecDepth 20000 in
theorem lX10_load_176 : lk (tX10_load d mc ms P) 176 = oAld 0 177 := rfl
set_option maxRecDepth 20000 in
theorem lX10_load_177 : lk (tX10_load d mc ms P) 177 = oCallV d mc ms P 0 0 yX10_ends (Cond.code yX10_ends cX10_ends 7 (some .boolean)) 0 10 180 := rfl
set_option maxRecDepth 20000 in
theorem lX10_load_180 : lk (tX10_load d mc ms P) 180 = oPop 181 := rfl
set_option maxRecDepth 20000 in
theorem lX10_load_181 : lk (tX10_load d mc ms P) 181 = oAld 0 182 := rfl
set_option maxRecDepth 20000 in
theorem lX10_load_182 : lk (tX10_load d mc ms P) 182 = oPush (.int 2) 183 := rfl
set_option maxRecDepth 20000 in
theorem lX10_load_183 : lk (tX10_load d mc ms P) 183 = oCallV d mc ms P 0 0 yX10_raises (Cond.code yX10_raises cX10_raises 2 (some .int)) 1 10 186 := rfl
set_option maxRecDepth 20000 in
theorem lX10_load_186 : lk (tX10_load d mc ms P) 186 = oRetI mc ms P := rfl
set_option maxRecDepth 20000 in
theorem lX10_load_187 : lk (tX10_load d mc ms P) 187 = oAld 0 188 := rfl
set_option maxRecDepth 20000 in
theorem lX10_load_188 : lk (tX10_load d mc ms P) 188 = oCallV d mc ms P 0 0 yX10_drops (Cond.code yX10_drops cX10_drops 1 none) 0 10 191 := rfl
set_option maxRecDepth 20000 in
theorem lX10_load_191 : lk (tX10_load d mc ms P) 191 = oIld 1 192 := rfl
set_option maxRecDepth 20000 in
theorem lX10_load_192 : lk (tX10_load d mc ms P) 192 = oRetI mc ms P := rfl
theorem lX10_faultPosition_0 : lk (tX10_faultPosition d mc ms P) 0 = oAld 0 1 := rfl
theorem lX10_faultPosition_1 : lk (tX10_faultPosition d mc ms P) 1 = oPush (.int 0) 2 := rfl
theorem lX10_faultPosition_2 : lk (tX10_faultPosition d mc ms P) 2 = oPi 10 0 5 := rfl
theorem lX10_faultPosition_5 : lk (tX10_faultPosition d mc ms P) 5 = oAld 0 6 := rfl
theorem lX10_faultPosition_6 : lk (tX10_faultPosition d mc ms P) 6 = oGi 10 8 9 := rfl
theorem lX10_faultPosition_9 : lk (tX10_faultPosition d mc ms P) 9 = oRetI mc ms P := rfl
theorem lX10_statements_0 : lk (tX10_statements d mc ms P) 0 = oAld 0 1 := rfl
theorem lX10_statements_1 : lk (tX10_statements d mc ms P) 1 = oPush (.int 0) 2 := rfl
theorem lX10_statements_2 : lk (tX10_statements d mc ms P) 2 = oPi 10 0 5 := rfl
theorem lX10_statements_5 : lk (tX10_statements d mc ms P) 5 = oAld 0 6 := rfl
theorem lX10_statements_6 : lk (tX10_statements d mc ms P) 6 = oGr 10 1 9 := rfl
theorem lX10_statements_9 : lk (tX10_statements d mc ms P) 9 = oPush (.int 0) 10 := rfl
theorem lX10_statements_10 : lk (tX10_statements d mc ms P) 10 = oAi 100 11 := rfl
theorem lX10_statements_11 : lk (tX10_statements d mc ms P) 11 = oRetI mc ms P := rfl
theorem lX10_setMode_0 : lk (tX10_setMode d mc ms P) 0 = oAld 0 1 := rfl
theorem lX10_setMode_1 : lk (tX10_setMode d mc ms P) 1 = oPush (.int 0) 2 := rfl
theorem lX10_setMode_2 : lk (tX10_setMode d mc ms P) 2 = oPi 10 0 5 := rfl
theorem lX10_setMode_5 : lk (tX10_setMode d mc ms P) 5 = oIld 1 6 := rfl
theorem lX10_setMode_6 : lk (tX10_setMode d mc ms P) 6 = oPush (.int 0) 7 := rfl
theorem lX10_setMode_7 : lk (tX10_setMode d mc ms P) 7 = oPush (.int 1) 8 := rfl
theorem lX10_setMode_8 : lk (tX10_setMode d mc ms P) 8 = oCallS d mc ms P 0 0 yX10_in (Cond.code yX10_in cX10_in 3 (some .boolean)) 3 11 := rfl
theorem lX10_setMode_11 : lk (tX10_setMode d mc ms P) 11 = oIf (fun x => x = 0) 14 20 := rfl
theorem lX10_setMode_14 : lk (tX10_setMode d mc ms P) 14 = oAld 0 15 := rfl
theorem lX10_setMode_15 : lk (tX10_setMode d mc ms P) 15 = oPush (.int 1) 16 := rfl
theorem lX10_setMode_16 : lk (tX10_setMode d mc ms P) 16 = oCallV d mc ms P 0 0 yX10_raises (Cond.code yX10_raises cX10_raises 2 (some .int)) 1 10 19 := rfl
theorem lX10_setMode_19 : lk (tX10_setMode d mc ms P) 19 = oRetI mc ms P := rfl
theorem lX10_setMode_20 : lk (tX10_setMode d mc ms P) 20 = oAld 0 21 := rfl
theorem lX10_setMode_21 : lk (tX10_setMode d mc ms P) 21 = oGr 10 1 24 := rfl
theorem lX10_setMode_24 : lk (tX10_setMode d mc ms P) 24 = oPush (.int 1) 25 := rfl
theorem lX10_setMode_25 : lk (tX10_setMode d mc ms P) 25 = oAi 100 26 := rfl
theorem lX10_setMode_26 : lk (tX10_setMode d mc ms P) 26 = oIst 2 27 := rfl
theorem lX10_setMode_27 : lk (tX10_setMode d mc ms P) 27 = oAld 0 28 := rfl
theorem lX10_setMode_28 : lk (tX10_setMode d mc ms P) 28 = oGr 10 1 31 := rfl
theorem lX10_setMode_31 : lk (tX10_setMode d mc ms P) 31 = oPush (.int 1) 32 := rfl
theorem lX10_setMode_32 : lk (tX10_setMode d mc ms P) 32 = oIld 1 33 := rfl
theorem lX10_setMode_33 : lk (tX10_setMode d mc ms P) 33 = oSi 100 (fun x => x) 34 := rfl
theorem lX10_setMode_34 : lk (tX10_setMode d mc ms P) 34 = oIld 2 35 := rfl
theorem lX10_setMode_35 : lk (tX10_setMode d mc ms P) 35 = oRetI mc ms P := rfl
theorem lX10_setCount_0 : lk (tX10_setCount d mc ms P) 0 = oAld 0 1 := rfl
theorem lX10_setCount_1 : lk (tX10_setCount d mc ms P) 1 = oPush (.int 0) 2 := rfl
theorem lX10_setCount_2 : lk (tX10_setCount d mc ms P) 2 = oPi 10 0 5 := rfl
theorem lX10_setCount_5 : lk (tX10_setCount d mc ms P) 5 = oIld 1 6 := rfl
theorem lX10_setCount_6 : lk (tX10_setCount d mc ms P) 6 = oPush (.int 0) 7 := rfl
theorem lX10_setCount_7 : lk (tX10_setCount d mc ms P) 7 = oPush (.int 16) 9 := rfl
theorem lX10_setCount_9 : lk (tX10_setCount d mc ms P) 9 = oCallS d mc ms P 0 0 yX10_in (Cond.code yX10_in cX10_in 3 (some .boolean)) 3 12 := rfl
theorem lX10_setCount_12 : lk (tX10_setCount d mc ms P) 12 = oIf (fun x => x = 0) 15 21 := rfl
theorem lX10_setCount_15 : lk (tX10_setCount d mc ms P) 15 = oAld 0 16 := rfl
theorem lX10_setCount_16 : lk (tX10_setCount d mc ms P) 16 = oPush (.int 1) 17 := rfl
theorem lX10_setCount_17 : lk (tX10_setCount d mc ms P) 17 = oCallV d mc ms P 0 0 yX10_raises (Cond.code yX10_raises cX10_raises 2 (some .int)) 1 10 20 := rfl
theorem lX10_setCount_20 : lk (tX10_setCount d mc ms P) 20 = oRetI mc ms P := rfl
theorem lX10_setCount_21 : lk (tX10_setCount d mc ms P) 21 = oAld 0 22 := rfl
theorem lX10_setCount_22 : lk (tX10_setCount d mc ms P) 22 = oGr 10 1 25 := rfl
theorem lX10_setCount_25 : lk (tX10_setCount d mc ms P) 25 = oPush (.int 2) 26 := rfl
theorem lX10_setCount_26 : lk (tX10_setCount d mc ms P) 26 = oAi 100 27 := rfl
theorem lX10_setCount_27 : lk (tX10_setCount d mc ms P) 27 = oIst 2 28 := rfl
theorem lX10_setCount_28 : lk (tX10_setCount d mc ms P) 28 = oAld 0 29 := rfl
theorem lX10_setCount_29 : lk (tX10_setCount d mc ms P) 29 = oGr 10 1 32 := rfl
theorem lX10_setCount_32 : lk (tX10_setCount d mc ms P) 32 = oPush (.int 2) 33 := rfl
theorem lX10_setCount_33 : lk (tX10_setCount d mc ms P) 33 = oIld 1 34 := rfl
theorem lX10_setCount_34 : lk (tX10_setCount d mc ms P) 34 = oSi 100 (fun x => x) 35 := rfl
theorem lX10_setCount_35 : lk (tX10_setCount d mc ms P) 35 = oIld 2 36 := rfl
theorem lX10_setCount_36 : lk (tX10_setCount d mc ms P) 36 = oRetI mc ms P := rfl
theorem lX10_isPlace_0 : lk (tX10_isPlace d mc ms P) 0 = oIld 0 1 := rfl
theorem lX10_isPlace_1 : lk (tX10_isPlace d mc ms P) 1 = oPush (.int 0) 2 := rfl
theorem lX10_isPlace_2 : lk (tX10_isPlace d mc ms P) 2 = oPush (.int 2) 3 := rfl
theorem lX10_isPlace_3 : lk (tX10_isPlace d mc ms P) 3 = oCallS d mc ms P 0 0 yX10_in (Cond.code yX10_in cX10_in 3 (some .boolean)) 3 6 := rfl
theorem lX10_isPlace_6 : lk (tX10_isPlace d mc ms P) 6 = oIf (fun x => x = 0) 23 9 := rfl
theorem lX10_isPlace_9 : lk (tX10_isPlace d mc ms P) 9 = oIld 1 10 := rfl
theorem lX10_isPlace_10 : lk (tX10_isPlace d mc ms P) 10 = oPush (.int 0) 11 := rfl
theorem lX10_isPlace_11 : lk (tX10_isPlace d mc ms P) 11 = oPush (.int 15) 13 := rfl
theorem lX10_isPlace_13 : lk (tX10_isPlace d mc ms P) 13 = oCallS d mc ms P 0 0 yX10_in (Cond.code yX10_in cX10_in 3 (some .boolean)) 3 16 := rfl
theorem lX10_isPlace_16 : lk (tX10_isPlace d mc ms P) 16 = oIf (fun x => x = 0) 23 19 := rfl
theorem lX10_isPlace_19 : lk (tX10_isPlace d mc ms P) 19 = oPush (.int 1) 20 := rfl
theorem lX10_isPlace_20 : lk (tX10_isPlace d mc ms P) 20 = oGoto 24 := rfl
theorem lX10_isPlace_23 : lk (tX10_isPlace d mc ms P) 23 = oPush (.int 0) 24 := rfl
theorem lX10_isPlace_24 : lk (tX10_isPlace d mc ms P) 24 = oRetZ mc ms P := rfl
theorem lX10_setElement_0 : lk (tX10_setElement d mc ms P) 0 = oAld 0 1 := rfl
theorem lX10_setElement_1 : lk (tX10_setElement d mc ms P) 1 = oPush (.int 0) 2 := rfl
theorem lX10_setElement_2 : lk (tX10_setElement d mc ms P) 2 = oPi 10 0 5 := rfl
theorem lX10_setElement_5 : lk (tX10_setElement d mc ms P) 5 = oIld 1 6 := rfl
theorem lX10_setElement_6 : lk (tX10_setElement d mc ms P) 6 = oIld 2 7 := rfl
theorem lX10_setElement_7 : lk (tX10_setElement d mc ms P) 7 = oCallS d mc ms P 0 0 yX10_isPlace (Cond.code yX10_isPlace cX10_isPlace 2 (some .boolean)) 2 10 := rfl
theorem lX10_setElement_10 : lk (tX10_setElement d mc ms P) 10 = oIf (fun x => x = 0) 13 19 := rfl
theorem lX10_setElement_13 : lk (tX10_setElement d mc ms P) 13 = oAld 0 14 := rfl
theorem lX10_setElement_14 : lk (tX10_setElement d mc ms P) 14 = oPush (.int 1) 15 := rfl
theorem lX10_setElement_15 : lk (tX10_setElement d mc ms P) 15 = oCallV d mc ms P 0 0 yX10_raises (Cond.code yX10_raises cX10_raises 2 (some .int)) 1 10 18 := rfl
theorem lX10_setElement_18 : lk (tX10_setElement d mc ms P) 18 = oRetI mc ms P := rfl
theorem lX10_setElement_19 : lk (tX10_setElement d mc ms P) 19 = oIld 3 20 := rfl
theorem lX10_setElement_20 : lk (tX10_setElement d mc ms P) 20 = oPush (.int (-99)) 22 := rfl
theorem lX10_setElement_22 : lk (tX10_setElement d mc ms P) 22 = oPush (.int 99) 24 := rfl
theorem lX10_setElement_24 : lk (tX10_setElement d mc ms P) 24 = oCallS d mc ms P 0 0 yX10_in (Cond.code yX10_in cX10_in 3 (some .boolean)) 3 27 := rfl
theorem lX10_setElement_27 : lk (tX10_setElement d mc ms P) 27 = oIf (fun x => x = 0) 30 36 := rfl
theorem lX10_setElement_30 : lk (tX10_setElement d mc ms P) 30 = oAld 0 31 := rfl
theorem lX10_setElement_31 : lk (tX10_setElement d mc ms P) 31 = oPush (.int 2) 32 := rfl
theorem lX10_setElement_32 : lk (tX10_setElement d mc ms P) 32 = oCallV d mc ms P 0 0 yX10_raises (Cond.code yX10_raises cX10_raises 2 (some .int)) 1 10 35 := rfl
theorem lX10_setElement_35 : lk (tX10_setElement d mc ms P) 35 = oRetI mc ms P := rfl
theorem lX10_setElement_36 : lk (tX10_setElement d mc ms P) 36 = oAld 0 37 := rfl
theorem lX10_setElement_37 : lk (tX10_setElement d mc ms P) 37 = oGr 10 1 40 := rfl
theorem lX10_setElement_40 : lk (tX10_setElement d mc ms P) 40 = oPush (.int 19) 42 := rfl
theorem lX10_setElement_42 : lk (tX10_setElement d mc ms P) 42 = oPush (.int 16) 44 := rfl
theorem lX10_setElement_44 : lk (tX10_setElement d mc ms P) 44 = oIld 1 45 := rfl
theorem lX10_setElement_45 : lk (tX10_setElement d mc ms P) 45 = oI2 (fun x y => x * y) 46 := rfl
theorem lX10_setElement_46 : lk (tX10_setElement d mc ms P) 46 = oI2 (fun x y => x + y) 47 := rfl
theorem lX10_setElement_47 : lk (tX10_setElement d mc ms P) 47 = oIld 2 48 := rfl
theorem lX10_setElement_48 : lk (tX10_setElement d mc ms P) 48 = oI2 (fun x y => x + y) 49 := rfl
theorem lX10_setElement_49 : lk (tX10_setElement d mc ms P) 49 = oAi 100 50 := rfl
theorem lX10_setElement_50 : lk (tX10_setElement d mc ms P) 50 = oIst 4 52 := rfl
theorem lX10_setElement_52 : lk (tX10_setElement d mc ms P) 52 = oAld 0 53 := rfl
theorem lX10_setElement_53 : lk (tX10_setElement d mc ms P) 53 = oGr 10 1 56 := rfl
theorem lX10_setElement_56 : lk (tX10_setElement d mc ms P) 56 = oPush (.int 19) 58 := rfl
theorem lX10_setElement_58 : lk (tX10_setElement d mc ms P) 58 = oPush (.int 16) 60 := rfl
theorem lX10_setElement_60 : lk (tX10_setElement d mc ms P) 60 = oIld 1 61 := rfl
theorem lX10_setElement_61 : lk (tX10_setElement d mc ms P) 61 = oI2 (fun x y => x * y) 62 := rfl
theorem lX10_setElement_62 : lk (tX10_setElement d mc ms P) 62 = oI2 (fun x y => x + y) 63 := rfl
theorem lX10_setElement_63 : lk (tX10_setElement d mc ms P) 63 = oIld 2 64 := rfl
theorem lX10_setElement_64 : lk (tX10_setElement d mc ms P) 64 = oI2 (fun x y => x + y) 65 := rfl
theorem lX10_setElement_65 : lk (tX10_setElement d mc ms P) 65 = oIld 3 66 := rfl
theorem lX10_setElement_66 : lk (tX10_setElement d mc ms P) 66 = oSi 100 (fun x => x) 67 := rfl
theorem lX10_setElement_67 : lk (tX10_setElement d mc ms P) 67 = oIld 4 69 := rfl
theorem lX10_setElement_69 : lk (tX10_setElement d mc ms P) 69 = oRetI mc ms P := rfl
theorem lX10_fill_0 : lk (tX10_fill d mc ms P) 0 = oAld 0 1 := rfl
theorem lX10_fill_1 : lk (tX10_fill d mc ms P) 1 = oPush (.int 0) 2 := rfl
theorem lX10_fill_2 : lk (tX10_fill d mc ms P) 2 = oPi 10 0 5 := rfl
theorem lX10_fill_5 : lk (tX10_fill d mc ms P) 5 = oIld 1 6 := rfl
theorem lX10_fill_6 : lk (tX10_fill d mc ms P) 6 = oPush (.int 0) 7 := rfl
theorem lX10_fill_7 : lk (tX10_fill d mc ms P) 7 = oPush (.int 2) 8 := rfl
theorem lX10_fill_8 : lk (tX10_fill d mc ms P) 8 = oCallS d mc ms P 0 0 yX10_in (Cond.code yX10_in cX10_in 3 (some .boolean)) 3 11 := rfl
theorem lX10_fill_11 : lk (tX10_fill d mc ms P) 11 = oIf (fun x => x = 0) 14 20 := rfl
theorem lX10_fill_14 : lk (tX10_fill d mc ms P) 14 = oAld 0 15 := rfl
theorem lX10_fill_15 : lk (tX10_fill d mc ms P) 15 = oPush (.int 1) 16 := rfl
theorem lX10_fill_16 : lk (tX10_fill d mc ms P) 16 = oCallV d mc ms P 0 0 yX10_raises (Cond.code yX10_raises cX10_raises 2 (some .int)) 1 10 19 := rfl
theorem lX10_fill_19 : lk (tX10_fill d mc ms P) 19 = oRetI mc ms P := rfl
theorem lX10_fill_20 : lk (tX10_fill d mc ms P) 20 = oIld 2 21 := rfl
theorem lX10_fill_21 : lk (tX10_fill d mc ms P) 21 = oIst 3 22 := rfl
theorem lX10_fill_22 : lk (tX10_fill d mc ms P) 22 = oPush (.int 0) 23 := rfl
theorem lX10_fill_23 : lk (tX10_fill d mc ms P) 23 = oIst 4 25 := rfl
theorem lX10_fill_25 : lk (tX10_fill d mc ms P) 25 = oPush (.int 0) 26 := rfl
theorem lX10_fill_26 : lk (tX10_fill d mc ms P) 26 = oIst 5 28 := rfl
theorem lX10_fill_28 : lk (tX10_fill d mc ms P) 28 = oIld 5 30 := rfl
theorem lX10_fill_30 : lk (tX10_fill d mc ms P) 30 = oPush (.int 16) 32 := rfl
theorem lX10_fill_32 : lk (tX10_fill d mc ms P) 32 = oIc (fun x y => y ≤ x) 95 35 := rfl
theorem lX10_fill_35 : lk (tX10_fill d mc ms P) 35 = oIld 3 36 := rfl
theorem lX10_fill_36 : lk (tX10_fill d mc ms P) 36 = oPush (.int 1664525) 38 := rfl
theorem lX10_fill_38 : lk (tX10_fill d mc ms P) 38 = oI2 (fun x y => x * y) 39 := rfl
theorem lX10_fill_39 : lk (tX10_fill d mc ms P) 39 = oPush (.int 1013904223) 41 := rfl
theorem lX10_fill_41 : lk (tX10_fill d mc ms P) 41 = oI2 (fun x y => x + y) 42 := rfl
theorem lX10_fill_42 : lk (tX10_fill d mc ms P) 42 = oIst 3 43 := rfl
theorem lX10_fill_43 : lk (tX10_fill d mc ms P) 43 = oAld 0 44 := rfl
theorem lX10_fill_44 : lk (tX10_fill d mc ms P) 44 = oGr 10 1 47 := rfl
theorem lX10_fill_47 : lk (tX10_fill d mc ms P) 47 = oPush (.int 19) 49 := rfl
theorem lX10_fill_49 : lk (tX10_fill d mc ms P) 49 = oPush (.int 16) 51 := rfl
theorem lX10_fill_51 : lk (tX10_fill d mc ms P) 51 = oIld 1 52 := rfl
theorem lX10_fill_52 : lk (tX10_fill d mc ms P) 52 = oI2 (fun x y => x * y) 53 := rfl
theorem lX10_fill_53 : lk (tX10_fill d mc ms P) 53 = oI2 (fun x y => x + y) 54 := rfl
theorem lX10_fill_54 : lk (tX10_fill d mc ms P) 54 = oIld 5 56 := rfl
theorem lX10_fill_56 : lk (tX10_fill d mc ms P) 56 = oI2 (fun x y => x + y) 57 := rfl
theorem lX10_fill_57 : lk (tX10_fill d mc ms P) 57 = oIld 3 58 := rfl
theorem lX10_fill_58 : lk (tX10_fill d mc ms P) 58 = oPush (.int 8) 60 := rfl
theorem lX10_fill_60 : lk (tX10_fill d mc ms P) 60 = oI2 (fun x y => (x.toUInt32 >>> (y.toUInt32 &&& Int32.toUInt32 31)).toInt32) 61 := rfl
theorem lX10_fill_61 : lk (tX10_fill d mc ms P) 61 = oPush (.int 199) 64 := rfl
theorem lX10_fill_64 : lk (tX10_fill d mc ms P) 64 = oI2n (fun x y => x - x / y * y) 65 := rfl
theorem lX10_fill_65 : lk (tX10_fill d mc ms P) 65 = oPush (.int 99) 67 := rfl
theorem lX10_fill_67 : lk (tX10_fill d mc ms P) 67 = oI2 (fun x y => x - y) 68 := rfl
theorem lX10_fill_68 : lk (tX10_fill d mc ms P) 68 = oSi 100 (fun x => x) 69 := rfl
theorem lX10_fill_69 : lk (tX10_fill d mc ms P) 69 = oIld 4 71 := rfl
theorem lX10_fill_71 : lk (tX10_fill d mc ms P) 71 = oAld 0 72 := rfl
theorem lX10_fill_72 : lk (tX10_fill d mc ms P) 72 = oGr 10 1 75 := rfl
theorem lX10_fill_75 : lk (tX10_fill d mc ms P) 75 = oPush (.int 19) 77 := rfl
theorem lX10_fill_77 : lk (tX10_fill d mc ms P) 77 = oPush (.int 16) 79 := rfl
theorem lX10_fill_79 : lk (tX10_fill d mc ms P) 79 = oIld 1 80 := rfl
theorem lX10_fill_80 : lk (tX10_fill d mc ms P) 80 = oI2 (fun x y => x * y) 81 := rfl
set_option maxRecDepth 20000 in
theorem lX10_fill_81 : lk (tX10_fill d mc ms P) 81 = oI2 (fun x y => x + y) 82 := rfl
set_option maxRecDepth 20000 in
theorem lX10_fill_82 : lk (tX10_fill d mc ms P) 82 = oIld 5 84 := rfl
set_option maxRecDepth 20000 in
theorem lX10_fill_84 : lk (tX10_fill d mc ms P) 84 = oI2 (fun x y => x + y) 85 := rfl
set_option maxRecDepth 20000 in
theorem lX10_fill_85 : lk (tX10_fill d mc ms P) 85 = oAi 100 86 := rfl
set_option maxRecDepth 20000 in
theorem lX10_fill_86 : lk (tX10_fill d mc ms P) 86 = oI2 (fun x y => x + y) 87 := rfl
set_option maxRecDepth 20000 in
theorem lX10_fill_87 : lk (tX10_fill d mc ms P) 87 = oIst 4 89 := rfl
set_option maxRecDepth 20000 in
theorem lX10_fill_89 : lk (tX10_fill d mc ms P) 89 = oInc 5 1 92 := rfl
set_option maxRecDepth 20000 in
theorem lX10_fill_92 : lk (tX10_fill d mc ms P) 92 = oGoto 28 := rfl
set_option maxRecDepth 20000 in
theorem lX10_fill_95 : lk (tX10_fill d mc ms P) 95 = oIld 4 97 := rfl
set_option maxRecDepth 20000 in
theorem lX10_fill_97 : lk (tX10_fill d mc ms P) 97 = oRetI mc ms P := rfl
theorem lX10_element_0 : lk (tX10_element d mc ms P) 0 = oAld 0 1 := rfl
theorem lX10_element_1 : lk (tX10_element d mc ms P) 1 = oPush (.int 0) 2 := rfl
theorem lX10_element_2 : lk (tX10_element d mc ms P) 2 = oPi 10 0 5 := rfl
theorem lX10_element_5 : lk (tX10_element d mc ms P) 5 = oIld 1 6 := rfl
theorem lX10_element_6 : lk (tX10_element d mc ms P) 6 = oIld 2 7 := rfl
theorem lX10_element_7 : lk (tX10_element d mc ms P) 7 = oCallS d mc ms P 0 0 yX10_isPlace (Cond.code yX10_isPlace cX10_isPlace 2 (some .boolean)) 2 10 := rfl
theorem lX10_element_10 : lk (tX10_element d mc ms P) 10 = oIf (fun x => x = 0) 30 13 := rfl
theorem lX10_element_13 : lk (tX10_element d mc ms P) 13 = oAld 0 14 := rfl
theorem lX10_element_14 : lk (tX10_element d mc ms P) 14 = oGr 10 1 17 := rfl
theorem lX10_element_17 : lk (tX10_element d mc ms P) 17 = oPush (.int 19) 19 := rfl
theorem lX10_element_19 : lk (tX10_element d mc ms P) 19 = oPush (.int 16) 21 := rfl
theorem lX10_element_21 : lk (tX10_element d mc ms P) 21 = oIld 1 22 := rfl
theorem lX10_element_22 : lk (tX10_element d mc ms P) 22 = oI2 (fun x y => x * y) 23 := rfl
theorem lX10_element_23 : lk (tX10_element d mc ms P) 23 = oI2 (fun x y => x + y) 24 := rfl
theorem lX10_element_24 : lk (tX10_element d mc ms P) 24 = oIld 2 25 := rfl
theorem lX10_element_25 : lk (tX10_element d mc ms P) 25 = oI2 (fun x y => x + y) 26 := rfl
theorem lX10_element_26 : lk (tX10_element d mc ms P) 26 = oAi 100 27 := rfl
theorem lX10_element_27 : lk (tX10_element d mc ms P) 27 = oGoto 35 := rfl
theorem lX10_element_30 : lk (tX10_element d mc ms P) 30 = oAld 0 31 := rfl
theorem lX10_element_31 : lk (tX10_element d mc ms P) 31 = oPush (.int 1) 32 := rfl
theorem lX10_element_32 : lk (tX10_element d mc ms P) 32 = oCallV d mc ms P 0 0 yX10_raises (Cond.code yX10_raises cX10_raises 2 (some .int)) 1 10 35 := rfl
theorem lX10_element_35 : lk (tX10_element d mc ms P) 35 = oRetI mc ms P := rfl
theorem lX10_setInitial_0 : lk (tX10_setInitial d mc ms P) 0 = oAld 0 1 := rfl
theorem lX10_setInitial_1 : lk (tX10_setInitial d mc ms P) 1 = oPush (.int 0) 2 := rfl
theorem lX10_setInitial_2 : lk (tX10_setInitial d mc ms P) 2 = oPi 10 0 5 := rfl
theorem lX10_setInitial_5 : lk (tX10_setInitial d mc ms P) 5 = oIld 1 6 := rfl
theorem lX10_setInitial_6 : lk (tX10_setInitial d mc ms P) 6 = oCallS d mc ms P 0 0 yX10_isVariable (Cond.code yX10_isVariable cX10_isVariable 1 (some .boolean)) 1 9 := rfl
theorem lX10_setInitial_9 : lk (tX10_setInitial d mc ms P) 9 = oIf (fun x => x = 0) 12 18 := rfl
theorem lX10_setInitial_12 : lk (tX10_setInitial d mc ms P) 12 = oAld 0 13 := rfl
theorem lX10_setInitial_13 : lk (tX10_setInitial d mc ms P) 13 = oPush (.int 1) 14 := rfl
theorem lX10_setInitial_14 : lk (tX10_setInitial d mc ms P) 14 = oCallV d mc ms P 0 0 yX10_raises (Cond.code yX10_raises cX10_raises 2 (some .int)) 1 10 17 := rfl
theorem lX10_setInitial_17 : lk (tX10_setInitial d mc ms P) 17 = oRetI mc ms P := rfl
theorem lX10_setInitial_18 : lk (tX10_setInitial d mc ms P) 18 = oIld 2 19 := rfl
theorem lX10_setInitial_19 : lk (tX10_setInitial d mc ms P) 19 = oPush (.int (-999)) 22 := rfl
theorem lX10_setInitial_22 : lk (tX10_setInitial d mc ms P) 22 = oPush (.int 999) 25 := rfl
theorem lX10_setInitial_25 : lk (tX10_setInitial d mc ms P) 25 = oCallS d mc ms P 0 0 yX10_in (Cond.code yX10_in cX10_in 3 (some .boolean)) 3 28 := rfl
theorem lX10_setInitial_28 : lk (tX10_setInitial d mc ms P) 28 = oIf (fun x => x = 0) 31 37 := rfl
theorem lX10_setInitial_31 : lk (tX10_setInitial d mc ms P) 31 = oAld 0 32 := rfl
theorem lX10_setInitial_32 : lk (tX10_setInitial d mc ms P) 32 = oPush (.int 2) 33 := rfl
theorem lX10_setInitial_33 : lk (tX10_setInitial d mc ms P) 33 = oCallV d mc ms P 0 0 yX10_raises (Cond.code yX10_raises cX10_raises 2 (some .int)) 1 10 36 := rfl
theorem lX10_setInitial_36 : lk (tX10_setInitial d mc ms P) 36 = oRetI mc ms P := rfl
theorem lX10_setInitial_37 : lk (tX10_setInitial d mc ms P) 37 = oAld 0 38 := rfl
theorem lX10_setInitial_38 : lk (tX10_setInitial d mc ms P) 38 = oGr 10 1 41 := rfl
theorem lX10_setInitial_41 : lk (tX10_setInitial d mc ms P) 41 = oPush (.int 67) 43 := rfl
theorem lX10_setInitial_43 : lk (tX10_setInitial d mc ms P) 43 = oIld 1 44 := rfl
theorem lX10_setInitial_44 : lk (tX10_setInitial d mc ms P) 44 = oI2 (fun x y => x + y) 45 := rfl
theorem lX10_setInitial_45 : lk (tX10_setInitial d mc ms P) 45 = oAi 100 46 := rfl
theorem lX10_setInitial_46 : lk (tX10_setInitial d mc ms P) 46 = oIst 3 47 := rfl
theorem lX10_setInitial_47 : lk (tX10_setInitial d mc ms P) 47 = oAld 0 48 := rfl
theorem lX10_setInitial_48 : lk (tX10_setInitial d mc ms P) 48 = oGr 10 1 51 := rfl
theorem lX10_setInitial_51 : lk (tX10_setInitial d mc ms P) 51 = oPush (.int 67) 53 := rfl
theorem lX10_setInitial_53 : lk (tX10_setInitial d mc ms P) 53 = oIld 1 54 := rfl
theorem lX10_setInitial_54 : lk (tX10_setInitial d mc ms P) 54 = oI2 (fun x y => x + y) 55 := rfl
theorem lX10_setInitial_55 : lk (tX10_setInitial d mc ms P) 55 = oIld 2 56 := rfl
theorem lX10_setInitial_56 : lk (tX10_setInitial d mc ms P) 56 = oSi 100 (fun x => x) 57 := rfl
theorem lX10_setInitial_57 : lk (tX10_setInitial d mc ms P) 57 = oIld 3 58 := rfl
theorem lX10_setInitial_58 : lk (tX10_setInitial d mc ms P) 58 = oRetI mc ms P := rfl
theorem lX10_part_0 : lk (tX10_part d mc ms P) 0 = oAld 0 1 := rfl
theorem lX10_part_1 : lk (tX10_part d mc ms P) 1 = oGr 10 20 4 := rfl
theorem lX10_part_4 : lk (tX10_part d mc ms P) 4 = oPush (.int 200) 7 := rfl
theorem lX10_part_7 : lk (tX10_part d mc ms P) 7 = oIld 1 8 := rfl
theorem lX10_part_8 : lk (tX10_part d mc ms P) 8 = oI2 (fun x y => x * y) 9 := rfl
theorem lX10_part_9 : lk (tX10_part d mc ms P) 9 = oIld 2 10 := rfl
theorem lX10_part_10 : lk (tX10_part d mc ms P) 10 = oI2 (fun x y => x + y) 11 := rfl
theorem lX10_part_11 : lk (tX10_part d mc ms P) 11 = oAi 100 12 := rfl
theorem lX10_part_12 : lk (tX10_part d mc ms P) 12 = oRetI mc ms P := rfl
theorem lX10_behind_0 : lk (tX10_behind d mc ms P) 0 = oPush (.int 1) 1 := rfl
theorem lX10_behind_1 : lk (tX10_behind d mc ms P) 1 = oIst 3 2 := rfl
theorem lX10_behind_2 : lk (tX10_behind d mc ms P) 2 = oIld 2 3 := rfl
theorem lX10_behind_3 : lk (tX10_behind d mc ms P) 3 = oIst 4 5 := rfl
theorem lX10_behind_5 : lk (tX10_behind d mc ms P) 5 = oIld 3 6 := rfl
theorem lX10_behind_6 : lk (tX10_behind d mc ms P) 6 = oIf (fun x => x ≤ 0) 30 9 := rfl
theorem lX10_behind_9 : lk (tX10_behind d mc ms P) 9 = oIld 3 10 := rfl
theorem lX10_behind_10 : lk (tX10_behind d mc ms P) 10 = oAld 0 11 := rfl
theorem lX10_behind_11 : lk (tX10_behind d mc ms P) 11 = oIld 1 12 := rfl
theorem lX10_behind_12 : lk (tX10_behind d mc ms P) 12 = oIld 4 14 := rfl
theorem lX10_behind_14 : lk (tX10_behind d mc ms P) 14 = oInc 4 1 17 := rfl
theorem lX10_behind_17 : lk (tX10_behind d mc ms P) 17 = oCallV d mc ms P 0 0 yX10_part (Cond.code yX10_part cX10_part 3 (some .int)) 2 10 20 := rfl
theorem lX10_behind_20 : lk (tX10_behind d mc ms P) 20 = oCallS d mc ms P 0 0 yX10_operands (Cond.code yX10_operands cX10_operands 1 (some .int)) 1 23 := rfl
theorem lX10_behind_23 : lk (tX10_behind d mc ms P) 23 = oPush (.int 1) 24 := rfl
theorem lX10_behind_24 : lk (tX10_behind d mc ms P) 24 = oI2 (fun x y => x - y) 25 := rfl
theorem lX10_behind_25 : lk (tX10_behind d mc ms P) 25 = oI2 (fun x y => x + y) 26 := rfl
theorem lX10_behind_26 : lk (tX10_behind d mc ms P) 26 = oIst 3 27 := rfl
theorem lX10_behind_27 : lk (tX10_behind d mc ms P) 27 = oGoto 5 := rfl
theorem lX10_behind_30 : lk (tX10_behind d mc ms P) 30 = oIld 4 32 := rfl
theorem lX10_behind_32 : lk (tX10_behind d mc ms P) 32 = oRetI mc ms P := rfl
theorem lX10_has_0 : lk (tX10_has d mc ms P) 0 = oIld 2 1 := rfl
theorem lX10_has_1 : lk (tX10_has d mc ms P) 1 = oIst 5 3 := rfl
theorem lX10_has_3 : lk (tX10_has d mc ms P) 3 = oIld 5 5 := rfl
theorem lX10_has_5 : lk (tX10_has d mc ms P) 5 = oIld 3 6 := rfl
theorem lX10_has_6 : lk (tX10_has d mc ms P) 6 = oIc (fun x y => y ≤ x) 32 9 := rfl
theorem lX10_has_9 : lk (tX10_has d mc ms P) 9 = oAld 0 10 := rfl
theorem lX10_has_10 : lk (tX10_has d mc ms P) 10 = oIld 1 11 := rfl
theorem lX10_has_11 : lk (tX10_has d mc ms P) 11 = oIld 5 13 := rfl
theorem lX10_has_13 : lk (tX10_has d mc ms P) 13 = oCallV d mc ms P 0 0 yX10_part (Cond.code yX10_part cX10_part 3 (some .int)) 2 10 16 := rfl
theorem lX10_has_16 : lk (tX10_has d mc ms P) 16 = oPush (.int 100) 18 := rfl
theorem lX10_has_18 : lk (tX10_has d mc ms P) 18 = oIld 4 20 := rfl
theorem lX10_has_20 : lk (tX10_has d mc ms P) 20 = oI2 (fun x y => x + y) 21 := rfl
theorem lX10_has_21 : lk (tX10_has d mc ms P) 21 = oIc (fun x y => x = y) 24 26 := rfl
theorem lX10_has_24 : lk (tX10_has d mc ms P) 24 = oPush (.int 1) 25 := rfl
theorem lX10_has_25 : lk (tX10_has d mc ms P) 25 = oRetZ mc ms P := rfl
theorem lX10_has_26 : lk (tX10_has d mc ms P) 26 = oInc 5 1 29 := rfl
theorem lX10_has_29 : lk (tX10_has d mc ms P) 29 = oGoto 3 := rfl
theorem lX10_has_32 : lk (tX10_has d mc ms P) 32 = oPush (.int 0) 33 := rfl
theorem lX10_has_33 : lk (tX10_has d mc ms P) 33 = oRetZ mc ms P := rfl
theorem lX10_occurs_0 : lk (tX10_occurs d mc ms P) 0 = oAld 0 1 := rfl
theorem lX10_occurs_1 : lk (tX10_occurs d mc ms P) 1 = oIld 1 2 := rfl
theorem lX10_occurs_2 : lk (tX10_occurs d mc ms P) 2 = oPush (.int 0) 3 := rfl
theorem lX10_occurs_3 : lk (tX10_occurs d mc ms P) 3 = oAld 0 4 := rfl
theorem lX10_occurs_4 : lk (tX10_occurs d mc ms P) 4 = oGr 10 21 7 := rfl
theorem lX10_occurs_7 : lk (tX10_occurs d mc ms P) 7 = oIld 1 8 := rfl
theorem lX10_occurs_8 : lk (tX10_occurs d mc ms P) 8 = oAi 100 9 := rfl
theorem lX10_occurs_9 : lk (tX10_occurs d mc ms P) 9 = oIld 2 10 := rfl
theorem lX10_occurs_10 : lk (tX10_occurs d mc ms P) 10 = oCallV d mc ms P 0 0 yX10_has (Cond.code yX10_has cX10_has 6 (some .boolean)) 4 10 13 := rfl
theorem lX10_occurs_13 : lk (tX10_occurs d mc ms P) 13 = oRetZ mc ms P := rfl
theorem lX10_isFree_0 : lk (tX10_isFree d mc ms P) 0 = oAld 0 1 := rfl
theorem lX10_isFree_1 : lk (tX10_isFree d mc ms P) 1 = oIld 1 2 := rfl
theorem lX10_isFree_2 : lk (tX10_isFree d mc ms P) 2 = oIld 2 3 := rfl
theorem lX10_isFree_3 : lk (tX10_isFree d mc ms P) 3 = oAld 0 4 := rfl
theorem lX10_isFree_4 : lk (tX10_isFree d mc ms P) 4 = oIld 1 5 := rfl
theorem lX10_isFree_5 : lk (tX10_isFree d mc ms P) 5 = oIld 2 6 := rfl
theorem lX10_isFree_6 : lk (tX10_isFree d mc ms P) 6 = oCallV d mc ms P 0 0 yX10_behind (Cond.code yX10_behind cX10_behind 5 (some .int)) 2 10 9 := rfl
theorem lX10_isFree_9 : lk (tX10_isFree d mc ms P) 9 = oIld 1 10 := rfl
theorem lX10_isFree_10 : lk (tX10_isFree d mc ms P) 10 = oCallV d mc ms P 0 0 yX10_has (Cond.code yX10_has cX10_has 6 (some .boolean)) 4 10 13 := rfl
theorem lX10_isFree_13 : lk (tX10_isFree d mc ms P) 13 = oIf (fun x => x = 0) 16 20 := rfl
theorem lX10_isFree_16 : lk (tX10_isFree d mc ms P) 16 = oPush (.int 1) 17 := rfl
theorem lX10_isFree_17 : lk (tX10_isFree d mc ms P) 17 = oGoto 21 := rfl
theorem lX10_isFree_20 : lk (tX10_isFree d mc ms P) 20 = oPush (.int 0) 21 := rfl
theorem lX10_isFree_21 : lk (tX10_isFree d mc ms P) 21 = oRetZ mc ms P := rfl
theorem lX10_chain_0 : lk (tX10_chain d mc ms P) 0 = oAld 0 1 := rfl
theorem lX10_chain_1 : lk (tX10_chain d mc ms P) 1 = oIld 1 2 := rfl
theorem lX10_chain_2 : lk (tX10_chain d mc ms P) 2 = oIld 2 3 := rfl
theorem lX10_chain_3 : lk (tX10_chain d mc ms P) 3 = oCallV d mc ms P 0 0 yX10_part (Cond.code yX10_part cX10_part 3 (some .int)) 2 10 6 := rfl
theorem lX10_chain_6 : lk (tX10_chain d mc ms P) 6 = oIst 4 8 := rfl
theorem lX10_chain_8 : lk (tX10_chain d mc ms P) 8 = oIld 4 10 := rfl
theorem lX10_chain_10 : lk (tX10_chain d mc ms P) 10 = oPush (.int 100) 12 := rfl
theorem lX10_chain_12 : lk (tX10_chain d mc ms P) 12 = oIld 1 13 := rfl
theorem lX10_chain_13 : lk (tX10_chain d mc ms P) 13 = oI2 (fun x y => x + y) 14 := rfl
theorem lX10_chain_14 : lk (tX10_chain d mc ms P) 14 = oIc (fun x y => x = y) 17 19 := rfl
theorem lX10_chain_17 : lk (tX10_chain d mc ms P) 17 = oPush (.int 0) 18 := rfl
theorem lX10_chain_18 : lk (tX10_chain d mc ms P) 18 = oRetI mc ms P := rfl
theorem lX10_chain_19 : lk (tX10_chain d mc ms P) 19 = oIld 4 21 := rfl
theorem lX10_chain_21 : lk (tX10_chain d mc ms P) 21 = oPush (.int 300) 24 := rfl
theorem lX10_chain_24 : lk (tX10_chain d mc ms P) 24 = oIc (fun x y => y ≤ x) 29 27 := rfl
theorem lX10_chain_27 : lk (tX10_chain d mc ms P) 27 = oPush (.int (-1)) 28 := rfl
theorem lX10_chain_28 : lk (tX10_chain d mc ms P) 28 = oRetI mc ms P := rfl
theorem lX10_chain_29 : lk (tX10_chain d mc ms P) 29 = oIld 2 30 := rfl
theorem lX10_chain_30 : lk (tX10_chain d mc ms P) 30 = oPush (.int 1) 31 := rfl
theorem lX10_chain_31 : lk (tX10_chain d mc ms P) 31 = oI2 (fun x y => x + y) 32 := rfl
theorem lX10_chain_32 : lk (tX10_chain d mc ms P) 32 = oIst 5 34 := rfl
theorem lX10_chain_34 : lk (tX10_chain d mc ms P) 34 = oAld 0 35 := rfl
theorem lX10_chain_35 : lk (tX10_chain d mc ms P) 35 = oIld 1 36 := rfl
theorem lX10_chain_36 : lk (tX10_chain d mc ms P) 36 = oIld 5 38 := rfl
theorem lX10_chain_38 : lk (tX10_chain d mc ms P) 38 = oCallV d mc ms P 0 0 yX10_behind (Cond.code yX10_behind cX10_behind 5 (some .int)) 2 10 41 := rfl
theorem lX10_chain_41 : lk (tX10_chain d mc ms P) 41 = oIst 6 43 := rfl
theorem lX10_chain_43 : lk (tX10_chain d mc ms P) 43 = oIld 4 45 := rfl
theorem lX10_chain_45 : lk (tX10_chain d mc ms P) 45 = oPush (.int 308) 48 := rfl
theorem lX10_chain_48 : lk (tX10_chain d mc ms P) 48 = oIc (fun x y => x = y) 51 110 := rfl
theorem lX10_chain_51 : lk (tX10_chain d mc ms P) 51 = oAld 0 52 := rfl
theorem lX10_chain_52 : lk (tX10_chain d mc ms P) 52 = oIld 1 53 := rfl
theorem lX10_chain_53 : lk (tX10_chain d mc ms P) 53 = oIld 6 55 := rfl
theorem lX10_chain_55 : lk (tX10_chain d mc ms P) 55 = oCallV d mc ms P 0 0 yX10_behind (Cond.code yX10_behind cX10_behind 5 (some .int)) 2 10 58 := rfl
theorem lX10_chain_58 : lk (tX10_chain d mc ms P) 58 = oIst 7 60 := rfl
theorem lX10_chain_60 : lk (tX10_chain d mc ms P) 60 = oAld 0 61 := rfl
theorem lX10_chain_61 : lk (tX10_chain d mc ms P) 61 = oIld 1 62 := rfl
theorem lX10_chain_62 : lk (tX10_chain d mc ms P) 62 = oIld 6 64 := rfl
theorem lX10_chain_64 : lk (tX10_chain d mc ms P) 64 = oIld 3 65 := rfl
theorem lX10_chain_65 : lk (tX10_chain d mc ms P) 65 = oCallV d mc ms P 0 0 yX10_chain (Cond.code yX10_chain cX10_chain 10 (some .int)) 3 10 68 := rfl
theorem lX10_chain_68 : lk (tX10_chain d mc ms P) 68 = oIst 8 70 := rfl
theorem lX10_chain_70 : lk (tX10_chain d mc ms P) 70 = oAld 0 71 := rfl
theorem lX10_chain_71 : lk (tX10_chain d mc ms P) 71 = oIld 1 72 := rfl
theorem lX10_chain_72 : lk (tX10_chain d mc ms P) 72 = oIld 7 74 := rfl
theorem lX10_chain_74 : lk (tX10_chain d mc ms P) 74 = oIld 3 75 := rfl
theorem lX10_chain_75 : lk (tX10_chain d mc ms P) 75 = oCallV d mc ms P 0 0 yX10_chain (Cond.code yX10_chain cX10_chain 10 (some .int)) 3 10 78 := rfl
theorem lX10_chain_78 : lk (tX10_chain d mc ms P) 78 = oIst 9 80 := rfl
theorem lX10_chain_80 : lk (tX10_chain d mc ms P) 80 = oAld 0 81 := rfl
theorem lX10_chain_81 : lk (tX10_chain d mc ms P) 81 = oIld 1 82 := rfl
theorem lX10_chain_82 : lk (tX10_chain d mc ms P) 82 = oIld 5 84 := rfl
theorem lX10_chain_84 : lk (tX10_chain d mc ms P) 84 = oCallV d mc ms P 0 0 yX10_isFree (Cond.code yX10_isFree cX10_isFree 3 (some .boolean)) 2 10 87 := rfl
theorem lX10_chain_87 : lk (tX10_chain d mc ms P) 87 = oIf (fun x => x = 0) 108 90 := rfl
set_option maxRecDepth 20000 in
theorem lX10_chain_90 : lk (tX10_chain d mc ms P) 90 = oIld 8 92 := rfl
set_option maxRecDepth 20000 in
theorem lX10_chain_92 : lk (tX10_chain d mc ms P) 92 = oIf (fun x => x < 0) 108 95 := rfl
set_option maxRecDepth 20000 in
theorem lX10_chain_95 : lk (tX10_chain d mc ms P) 95 = oIld 9 97 := rfl
set_option maxRecDepth 20000 in
theorem lX10_chain_97 : lk (tX10_chain d mc ms P) 97 = oIf (fun x => x < 0) 108 100 := rfl
set_option maxRecDepth 20000 in
theorem lX10_chain_100 : lk (tX10_chain d mc ms P) 100 = oIld 8 102 := rfl
set_option maxRecDepth 20000 in
theorem lX10_chain_102 : lk (tX10_chain d mc ms P) 102 = oIld 9 104 := rfl
set_option maxRecDepth 20000 in
theorem lX10_chain_104 : lk (tX10_chain d mc ms P) 104 = oI2 (fun x y => x + y) 105 := rfl
set_option maxRecDepth 20000 in
theorem lX10_chain_105 : lk (tX10_chain d mc ms P) 105 = oGoto 109 := rfl
set_option maxRecDepth 20000 in
theorem lX10_chain_108 : lk (tX10_chain d mc ms P) 108 = oPush (.int (-1)) 109 := rfl
set_option maxRecDepth 20000 in
theorem lX10_chain_109 : lk (tX10_chain d mc ms P) 109 = oRetI mc ms P := rfl
set_option maxRecDepth 20000 in
theorem lX10_chain_110 : lk (tX10_chain d mc ms P) 110 = oPush (.int (-1)) 111 := rfl
set_option maxRecDepth 20000 in
theorem lX10_chain_111 : lk (tX10_chain d mc ms P) 111 = oIst 7 113 := rfl
set_option maxRecDepth 20000 in
theorem lX10_chain_113 : lk (tX10_chain d mc ms P) 113 = oIld 4 115 := rfl
set_option maxRecDepth 20000 in
theorem lX10_chain_115 : lk (tX10_chain d mc ms P) 115 = oPush (.int 300) 118 := rfl
set_option maxRecDepth 20000 in
theorem lX10_chain_118 : lk (tX10_chain d mc ms P) 118 = oIld 3 119 := rfl
set_option maxRecDepth 20000 in
theorem lX10_chain_119 : lk (tX10_chain d mc ms P) 119 = oI2 (fun x y => x + y) 120 := rfl
set_option maxRecDepth 20000 in
theorem lX10_chain_120 : lk (tX10_chain d mc ms P) 120 = oIc (fun x y => x = y) 135 123 := rfl
set_option maxRecDepth 20000 in
theorem lX10_chain_123 : lk (tX10_chain d mc ms P) 123 = oIld 4 125 := rfl
set_option maxRecDepth 20000 in
theorem lX10_chain_125 : lk (tX10_chain d mc ms P) 125 = oPush (.int 307) 128 := rfl
set_option maxRecDepth 20000 in
theorem lX10_chain_128 : lk (tX10_chain d mc ms P) 128 = oIc (fun x y => x = y) 131 155 := rfl
set_option maxRecDepth 20000 in
theorem lX10_chain_131 : lk (tX10_chain d mc ms P) 131 = oIld 3 132 := rfl
set_option maxRecDepth 20000 in
theorem lX10_chain_132 : lk (tX10_chain d mc ms P) 132 = oIf (fun x => x = 0) 135 155 := rfl
set_option maxRecDepth 20000 in
theorem lX10_chain_135 : lk (tX10_chain d mc ms P) 135 = oAld 0 136 := rfl
set_option maxRecDepth 20000 in
theorem lX10_chain_136 : lk (tX10_chain d mc ms P) 136 = oIld 1 137 := rfl
set_option maxRecDepth 20000 in
theorem lX10_chain_137 : lk (tX10_chain d mc ms P) 137 = oIld 6 139 := rfl
set_option maxRecDepth 20000 in
theorem lX10_chain_139 : lk (tX10_chain d mc ms P) 139 = oCallV d mc ms P 0 0 yX10_isFree (Cond.code yX10_isFree cX10_isFree 3 (some .boolean)) 2 10 142 := rfl
set_option maxRecDepth 20000 in
theorem lX10_chain_142 : lk (tX10_chain d mc ms P) 142 = oIf (fun x => x = 0) 155 145 := rfl
set_option maxRecDepth 20000 in
theorem lX10_chain_145 : lk (tX10_chain d mc ms P) 145 = oAld 0 146 := rfl
set_option maxRecDepth 20000 in
theorem lX10_chain_146 : lk (tX10_chain d mc ms P) 146 = oIld 1 147 := rfl
set_option maxRecDepth 20000 in
theorem lX10_chain_147 : lk (tX10_chain d mc ms P) 147 = oIld 5 149 := rfl
set_option maxRecDepth 20000 in
theorem lX10_chain_149 : lk (tX10_chain d mc ms P) 149 = oIld 3 150 := rfl
set_option maxRecDepth 20000 in
theorem lX10_chain_150 : lk (tX10_chain d mc ms P) 150 = oCallV d mc ms P 0 0 yX10_chain (Cond.code yX10_chain cX10_chain 10 (some .int)) 3 10 153 := rfl
set_option maxRecDepth 20000 in
theorem lX10_chain_153 : lk (tX10_chain d mc ms P) 153 = oIst 7 155 := rfl
set_option maxRecDepth 20000 in
theorem lX10_chain_155 : lk (tX10_chain d mc ms P) 155 = oIld 7 157 := rfl
set_option maxRecDepth 20000 in
theorem lX10_chain_157 : lk (tX10_chain d mc ms P) 157 = oIf (fun x => 0 ≤ x) 190 160 := rfl
set_option maxRecDepth 20000 in
theorem lX10_chain_160 : lk (tX10_chain d mc ms P) 160 = oIld 4 162 := rfl
set_option maxRecDepth 20000 in
theorem lX10_chain_162 : lk (tX10_chain d mc ms P) 162 = oPush (.int 300) 165 := rfl
set_option maxRecDepth 20000 in
theorem lX10_chain_165 : lk (tX10_chain d mc ms P) 165 = oIld 3 166 := rfl
set_option maxRecDepth 20000 in
theorem lX10_chain_166 : lk (tX10_chain d mc ms P) 166 = oI2 (fun x y => x + y) 167 := rfl
set_option maxRecDepth 20000 in
theorem lX10_chain_167 : lk (tX10_chain d mc ms P) 167 = oIc (fun x y => x = y) 170 190 := rfl
set_option maxRecDepth 20000 in
theorem lX10_chain_170 : lk (tX10_chain d mc ms P) 170 = oAld 0 171 := rfl
set_option maxRecDepth 20000 in
theorem lX10_chain_171 : lk (tX10_chain d mc ms P) 171 = oIld 1 172 := rfl
set_option maxRecDepth 20000 in
theorem lX10_chain_172 : lk (tX10_chain d mc ms P) 172 = oIld 5 174 := rfl
set_option maxRecDepth 20000 in
theorem lX10_chain_174 : lk (tX10_chain d mc ms P) 174 = oCallV d mc ms P 0 0 yX10_isFree (Cond.code yX10_isFree cX10_isFree 3 (some .boolean)) 2 10 177 := rfl
set_option maxRecDepth 20000 in
theorem lX10_chain_177 : lk (tX10_chain d mc ms P) 177 = oIf (fun x => x = 0) 190 180 := rfl
set_option maxRecDepth 20000 in
theorem lX10_chain_180 : lk (tX10_chain d mc ms P) 180 = oAld 0 181 := rfl
set_option maxRecDepth 20000 in
theorem lX10_chain_181 : lk (tX10_chain d mc ms P) 181 = oIld 1 182 := rfl
set_option maxRecDepth 20000 in
theorem lX10_chain_182 : lk (tX10_chain d mc ms P) 182 = oIld 6 184 := rfl
set_option maxRecDepth 20000 in
theorem lX10_chain_184 : lk (tX10_chain d mc ms P) 184 = oIld 3 185 := rfl
set_option maxRecDepth 20000 in
theorem lX10_chain_185 : lk (tX10_chain d mc ms P) 185 = oCallV d mc ms P 0 0 yX10_chain (Cond.code yX10_chain cX10_chain 10 (some .int)) 3 10 188 := rfl
set_option maxRecDepth 20000 in
theorem lX10_chain_188 : lk (tX10_chain d mc ms P) 188 = oIst 7 190 := rfl
set_option maxRecDepth 20000 in
theorem lX10_chain_190 : lk (tX10_chain d mc ms P) 190 = oIld 7 192 := rfl
set_option maxRecDepth 20000 in
theorem lX10_chain_192 : lk (tX10_chain d mc ms P) 192 = oIf (fun x => 0 ≤ x) 199 195 := rfl
set_option maxRecDepth 20000 in
theorem lX10_chain_195 : lk (tX10_chain d mc ms P) 195 = oPush (.int (-1)) 196 := rfl
set_option maxRecDepth 20000 in
theorem lX10_chain_196 : lk (tX10_chain d mc ms P) 196 = oGoto 203 := rfl
set_option maxRecDepth 20000 in
theorem lX10_chain_199 : lk (tX10_chain d mc ms P) 199 = oIld 7 201 := rfl
set_option maxRecDepth 20000 in
theorem lX10_chain_201 : lk (tX10_chain d mc ms P) 201 = oPush (.int 1) 202 := rfl
set_option maxRecDepth 20000 in
theorem lX10_chain_202 : lk (tX10_chain d mc ms P) 202 = oI2 (fun x y => x + y) 203 := rfl
set_option maxRecDepth 20000 in
theorem lX10_chain_203 : lk (tX10_chain d mc ms P) 203 = oRetI mc ms P := rfl
theorem lX10_operatorOf_0 : lk (tX10_operatorOf d mc ms P) 0 = oPush (.int 0) 1 := rfl
theorem lX10_operatorOf_1 : lk (tX10_operatorOf d mc ms P) 1 = oIst 2 2 := rfl
theorem lX10_operatorOf_2 : lk (tX10_operatorOf d mc ms P) 2 = oIld 2 3 := rfl
theorem lX10_operatorOf_3 : lk (tX10_operatorOf d mc ms P) 3 = oPush (.int 7) 5 := rfl
theorem lX10_operatorOf_5 : lk (tX10_operatorOf d mc ms P) 5 = oIc (fun x y => y ≤ x) 26 8 := rfl
theorem lX10_operatorOf_8 : lk (tX10_operatorOf d mc ms P) 8 = oAld 0 9 := rfl
theorem lX10_operatorOf_9 : lk (tX10_operatorOf d mc ms P) 9 = oIld 1 10 := rfl
theorem lX10_operatorOf_10 : lk (tX10_operatorOf d mc ms P) 10 = oPush (.int 0) 11 := rfl
theorem lX10_operatorOf_11 : lk (tX10_operatorOf d mc ms P) 11 = oIld 2 12 := rfl
theorem lX10_operatorOf_12 : lk (tX10_operatorOf d mc ms P) 12 = oCallV d mc ms P 0 0 yX10_chain (Cond.code yX10_chain cX10_chain 10 (some .int)) 3 10 15 := rfl
theorem lX10_operatorOf_15 : lk (tX10_operatorOf d mc ms P) 15 = oIf (fun x => x < 0) 20 18 := rfl
theorem lX10_operatorOf_18 : lk (tX10_operatorOf d mc ms P) 18 = oIld 2 19 := rfl
theorem lX10_operatorOf_19 : lk (tX10_operatorOf d mc ms P) 19 = oRetI mc ms P := rfl
theorem lX10_operatorOf_20 : lk (tX10_operatorOf d mc ms P) 20 = oInc 2 1 23 := rfl
theorem lX10_operatorOf_23 : lk (tX10_operatorOf d mc ms P) 23 = oGoto 2 := rfl
theorem lX10_operatorOf_26 : lk (tX10_operatorOf d mc ms P) 26 = oPush (.int (-1)) 27 := rfl
theorem lX10_operatorOf_27 : lk (tX10_operatorOf d mc ms P) 27 = oRetI mc ms P := rfl
theorem lX10_isAssigned_0 : lk (tX10_isAssigned d mc ms P) 0 = oPush (.int 0) 1 := rfl
theorem lX10_isAssigned_1 : lk (tX10_isAssigned d mc ms P) 1 = oIst 2 2 := rfl
theorem lX10_isAssigned_2 : lk (tX10_isAssigned d mc ms P) 2 = oIld 2 3 := rfl
theorem lX10_isAssigned_3 : lk (tX10_isAssigned d mc ms P) 3 = oAld 0 4 := rfl
theorem lX10_isAssigned_4 : lk (tX10_isAssigned d mc ms P) 4 = oGr 10 1 7 := rfl
theorem lX10_isAssigned_7 : lk (tX10_isAssigned d mc ms P) 7 = oPush (.int 0) 8 := rfl
theorem lX10_isAssigned_8 : lk (tX10_isAssigned d mc ms P) 8 = oAi 100 9 := rfl
theorem lX10_isAssigned_9 : lk (tX10_isAssigned d mc ms P) 9 = oIc (fun x y => y ≤ x) 32 12 := rfl
theorem lX10_isAssigned_12 : lk (tX10_isAssigned d mc ms P) 12 = oAld 0 13 := rfl
theorem lX10_isAssigned_13 : lk (tX10_isAssigned d mc ms P) 13 = oGr 10 1 16 := rfl
theorem lX10_isAssigned_16 : lk (tX10_isAssigned d mc ms P) 16 = oPush (.int 3) 17 := rfl
theorem lX10_isAssigned_17 : lk (tX10_isAssigned d mc ms P) 17 = oIld 2 18 := rfl
theorem lX10_isAssigned_18 : lk (tX10_isAssigned d mc ms P) 18 = oI2 (fun x y => x + y) 19 := rfl
theorem lX10_isAssigned_19 : lk (tX10_isAssigned d mc ms P) 19 = oAi 100 20 := rfl
theorem lX10_isAssigned_20 : lk (tX10_isAssigned d mc ms P) 20 = oIld 1 21 := rfl
theorem lX10_isAssigned_21 : lk (tX10_isAssigned d mc ms P) 21 = oIc (fun x y => x = y) 24 26 := rfl
theorem lX10_isAssigned_24 : lk (tX10_isAssigned d mc ms P) 24 = oPush (.int 1) 25 := rfl
theorem lX10_isAssigned_25 : lk (tX10_isAssigned d mc ms P) 25 = oRetZ mc ms P := rfl
theorem lX10_isAssigned_26 : lk (tX10_isAssigned d mc ms P) 26 = oInc 2 1 29 := rfl
theorem lX10_isAssigned_29 : lk (tX10_isAssigned d mc ms P) 29 = oGoto 2 := rfl
theorem lX10_isAssigned_32 : lk (tX10_isAssigned d mc ms P) 32 = oPush (.int 0) 33 := rfl
theorem lX10_isAssigned_33 : lk (tX10_isAssigned d mc ms P) 33 = oRetZ mc ms P := rfl
theorem lX10_kinds_0 : lk (tX10_kinds d mc ms P) 0 = oAld 0 1 := rfl
theorem lX10_kinds_1 : lk (tX10_kinds d mc ms P) 1 = oIld 1 2 := rfl
theorem lX10_kinds_2 : lk (tX10_kinds d mc ms P) 2 = oCallV d mc ms P 0 0 yX10_isAssigned (Cond.code yX10_isAssigned cX10_isAssigned 3 (some .boolean)) 1 10 5 := rfl
theorem lX10_kinds_5 : lk (tX10_kinds d mc ms P) 5 = oIf (fun x => x = 0) 8 10 := rfl
theorem lX10_kinds_8 : lk (tX10_kinds d mc ms P) 8 = oPush (.int 0) 9 := rfl
theorem lX10_kinds_9 : lk (tX10_kinds d mc ms P) 9 = oRetI mc ms P := rfl
theorem lX10_kinds_10 : lk (tX10_kinds d mc ms P) 10 = oPush (.int 0) 11 := rfl
theorem lX10_kinds_11 : lk (tX10_kinds d mc ms P) 11 = oIst 2 12 := rfl
theorem lX10_kinds_12 : lk (tX10_kinds d mc ms P) 12 = oPush (.int 0) 13 := rfl
theorem lX10_kinds_13 : lk (tX10_kinds d mc ms P) 13 = oIst 3 14 := rfl
theorem lX10_kinds_14 : lk (tX10_kinds d mc ms P) 14 = oIld 3 15 := rfl
theorem lX10_kinds_15 : lk (tX10_kinds d mc ms P) 15 = oPush (.int 8) 17 := rfl
theorem lX10_kinds_17 : lk (tX10_kinds d mc ms P) 17 = oIc (fun x y => y ≤ x) 50 20 := rfl
theorem lX10_kinds_20 : lk (tX10_kinds d mc ms P) 20 = oIld 3 21 := rfl
theorem lX10_kinds_21 : lk (tX10_kinds d mc ms P) 21 = oIld 1 22 := rfl
theorem lX10_kinds_22 : lk (tX10_kinds d mc ms P) 22 = oIc (fun x y => x = y) 44 25 := rfl
theorem lX10_kinds_25 : lk (tX10_kinds d mc ms P) 25 = oAld 0 26 := rfl
theorem lX10_kinds_26 : lk (tX10_kinds d mc ms P) 26 = oIld 3 27 := rfl
theorem lX10_kinds_27 : lk (tX10_kinds d mc ms P) 27 = oCallV d mc ms P 0 0 yX10_isAssigned (Cond.code yX10_isAssigned cX10_isAssigned 3 (some .boolean)) 1 10 30 := rfl
theorem lX10_kinds_30 : lk (tX10_kinds d mc ms P) 30 = oIf (fun x => x = 0) 44 33 := rfl
theorem lX10_kinds_33 : lk (tX10_kinds d mc ms P) 33 = oAld 0 34 := rfl
theorem lX10_kinds_34 : lk (tX10_kinds d mc ms P) 34 = oIld 3 35 := rfl
theorem lX10_kinds_35 : lk (tX10_kinds d mc ms P) 35 = oIld 1 36 := rfl
theorem lX10_kinds_36 : lk (tX10_kinds d mc ms P) 36 = oCallV d mc ms P 0 0 yX10_occurs (Cond.code yX10_occurs cX10_occurs 3 (some .boolean)) 2 10 39 := rfl
theorem lX10_kinds_39 : lk (tX10_kinds d mc ms P) 39 = oIf (fun x => x = 0) 44 42 := rfl
theorem lX10_kinds_42 : lk (tX10_kinds d mc ms P) 42 = oPush (.int 1) 43 := rfl
theorem lX10_kinds_43 : lk (tX10_kinds d mc ms P) 43 = oIst 2 44 := rfl
theorem lX10_kinds_44 : lk (tX10_kinds d mc ms P) 44 = oInc 3 1 47 := rfl
theorem lX10_kinds_47 : lk (tX10_kinds d mc ms P) 47 = oGoto 14 := rfl
theorem lX10_kinds_50 : lk (tX10_kinds d mc ms P) 50 = oIld 2 51 := rfl
theorem lX10_kinds_51 : lk (tX10_kinds d mc ms P) 51 = oIf (fun x => x = 0) 54 65 := rfl
theorem lX10_kinds_54 : lk (tX10_kinds d mc ms P) 54 = oAld 0 55 := rfl
theorem lX10_kinds_55 : lk (tX10_kinds d mc ms P) 55 = oIld 1 56 := rfl
theorem lX10_kinds_56 : lk (tX10_kinds d mc ms P) 56 = oIld 1 57 := rfl
theorem lX10_kinds_57 : lk (tX10_kinds d mc ms P) 57 = oCallV d mc ms P 0 0 yX10_occurs (Cond.code yX10_occurs cX10_occurs 3 (some .boolean)) 2 10 60 := rfl
theorem lX10_kinds_60 : lk (tX10_kinds d mc ms P) 60 = oIf (fun x => x = 0) 63 65 := rfl
theorem lX10_kinds_63 : lk (tX10_kinds d mc ms P) 63 = oPush (.int 1) 64 := rfl
theorem lX10_kinds_64 : lk (tX10_kinds d mc ms P) 64 = oRetI mc ms P := rfl
theorem lX10_kinds_65 : lk (tX10_kinds d mc ms P) 65 = oAld 0 66 := rfl
theorem lX10_kinds_66 : lk (tX10_kinds d mc ms P) 66 = oIld 1 67 := rfl
theorem lX10_kinds_67 : lk (tX10_kinds d mc ms P) 67 = oCallV d mc ms P 0 0 yX10_operatorOf (Cond.code yX10_operatorOf cX10_operatorOf 3 (some .int)) 1 10 70 := rfl
theorem lX10_kinds_70 : lk (tX10_kinds d mc ms P) 70 = oIf (fun x => 0 ≤ x) 75 73 := rfl
theorem lX10_kinds_73 : lk (tX10_kinds d mc ms P) 73 = oPush (.int 4) 74 := rfl
theorem lX10_kinds_74 : lk (tX10_kinds d mc ms P) 74 = oRetI mc ms P := rfl
theorem lX10_kinds_75 : lk (tX10_kinds d mc ms P) 75 = oIld 2 76 := rfl
theorem lX10_kinds_76 : lk (tX10_kinds d mc ms P) 76 = oIf (fun x => x = 0) 83 79 := rfl
theorem lX10_kinds_79 : lk (tX10_kinds d mc ms P) 79 = oPush (.int 3) 80 := rfl
theorem lX10_kinds_80 : lk (tX10_kinds d mc ms P) 80 = oGoto 84 := rfl
theorem lX10_kinds_83 : lk (tX10_kinds d mc ms P) 83 = oPush (.int 2) 84 := rfl
theorem lX10_kinds_84 : lk (tX10_kinds d mc ms P) 84 = oRetI mc ms P := rfl
theorem lX10_isReduction_0 : lk (tX10_isReduction d mc ms P) 0 = oAld 0 1 := rfl
theorem lX10_isReduction_1 : lk (tX10_isReduction d mc ms P) 1 = oIld 1 2 := rfl
theorem lX10_isReduction_2 : lk (tX10_isReduction d mc ms P) 2 = oCallV d mc ms P 0 0 yX10_kinds (Cond.code yX10_kinds cX10_kinds 4 (some .int)) 1 10 5 := rfl
theorem lX10_isReduction_5 : lk (tX10_isReduction d mc ms P) 5 = oPush (.int 2) 6 := rfl
theorem lX10_isReduction_6 : lk (tX10_isReduction d mc ms P) 6 = oIc (fun x y => x = y) 9 13 := rfl
theorem lX10_isReduction_9 : lk (tX10_isReduction d mc ms P) 9 = oPush (.int 1) 10 := rfl
theorem lX10_isReduction_10 : lk (tX10_isReduction d mc ms P) 10 = oGoto 14 := rfl
theorem lX10_isReduction_13 : lk (tX10_isReduction d mc ms P) 13 = oPush (.int 0) 14 := rfl
theorem lX10_isReduction_14 : lk (tX10_isReduction d mc ms P) 14 = oRetZ mc ms P := rfl
theorem lX10_kind_0 : lk (tX10_kind d mc ms P) 0 = oAld 0 1 := rfl
theorem lX10_kind_1 : lk (tX10_kind d mc ms P) 1 = oPush (.int 0) 2 := rfl
theorem lX10_kind_2 : lk (tX10_kind d mc ms P) 2 = oPi 10 0 5 := rfl
theorem lX10_kind_5 : lk (tX10_kind d mc ms P) 5 = oIld 1 6 := rfl
theorem lX10_kind_6 : lk (tX10_kind d mc ms P) 6 = oCallS d mc ms P 0 0 yX10_isVariable (Cond.code yX10_isVariable cX10_isVariable 1 (some .boolean)) 1 9 := rfl
theorem lX10_kind_9 : lk (tX10_kind d mc ms P) 9 = oIf (fun x => x = 0) 20 12 := rfl
theorem lX10_kind_12 : lk (tX10_kind d mc ms P) 12 = oAld 0 13 := rfl
theorem lX10_kind_13 : lk (tX10_kind d mc ms P) 13 = oIld 1 14 := rfl
theorem lX10_kind_14 : lk (tX10_kind d mc ms P) 14 = oCallV d mc ms P 0 0 yX10_kinds (Cond.code yX10_kinds cX10_kinds 4 (some .int)) 1 10 17 := rfl
theorem lX10_kind_17 : lk (tX10_kind d mc ms P) 17 = oGoto 25 := rfl
theorem lX10_kind_20 : lk (tX10_kind d mc ms P) 20 = oAld 0 21 := rfl
theorem lX10_kind_21 : lk (tX10_kind d mc ms P) 21 = oPush (.int 1) 22 := rfl
theorem lX10_kind_22 : lk (tX10_kind d mc ms P) 22 = oCallV d mc ms P 0 0 yX10_raises (Cond.code yX10_raises cX10_raises 2 (some .int)) 1 10 25 := rfl
theorem lX10_kind_25 : lk (tX10_kind d mc ms P) 25 = oRetI mc ms P := rfl
theorem lX10_hasChain_0 : lk (tX10_hasChain d mc ms P) 0 = oAld 0 1 := rfl
theorem lX10_hasChain_1 : lk (tX10_hasChain d mc ms P) 1 = oIld 1 2 := rfl
theorem lX10_hasChain_2 : lk (tX10_hasChain d mc ms P) 2 = oCallS d mc ms P 0 0 yX10_isVariable (Cond.code yX10_isVariable cX10_isVariable 1 (some .boolean)) 1 5 := rfl
theorem lX10_hasChain_5 : lk (tX10_hasChain d mc ms P) 5 = oIf (fun x => x = 0) 8 12 := rfl
theorem lX10_hasChain_8 : lk (tX10_hasChain d mc ms P) 8 = oPush (.int 1) 9 := rfl
theorem lX10_hasChain_9 : lk (tX10_hasChain d mc ms P) 9 = oGoto 35 := rfl
theorem lX10_hasChain_12 : lk (tX10_hasChain d mc ms P) 12 = oAld 0 13 := rfl
theorem lX10_hasChain_13 : lk (tX10_hasChain d mc ms P) 13 = oIld 1 14 := rfl
theorem lX10_hasChain_14 : lk (tX10_hasChain d mc ms P) 14 = oCallV d mc ms P 0 0 yX10_kinds (Cond.code yX10_kinds cX10_kinds 4 (some .int)) 1 10 17 := rfl
theorem lX10_hasChain_17 : lk (tX10_hasChain d mc ms P) 17 = oPush (.int 2) 18 := rfl
theorem lX10_hasChain_18 : lk (tX10_hasChain d mc ms P) 18 = oIc (fun x y => x = y) 30 21 := rfl
theorem lX10_hasChain_21 : lk (tX10_hasChain d mc ms P) 21 = oAld 0 22 := rfl
theorem lX10_hasChain_22 : lk (tX10_hasChain d mc ms P) 22 = oIld 1 23 := rfl
theorem lX10_hasChain_23 : lk (tX10_hasChain d mc ms P) 23 = oCallV d mc ms P 0 0 yX10_kinds (Cond.code yX10_kinds cX10_kinds 4 (some .int)) 1 10 26 := rfl
theorem lX10_hasChain_26 : lk (tX10_hasChain d mc ms P) 26 = oPush (.int 3) 27 := rfl
theorem lX10_hasChain_27 : lk (tX10_hasChain d mc ms P) 27 = oIc (fun x y => x = y) 30 34 := rfl
theorem lX10_hasChain_30 : lk (tX10_hasChain d mc ms P) 30 = oPush (.int 0) 31 := rfl
theorem lX10_hasChain_31 : lk (tX10_hasChain d mc ms P) 31 = oGoto 35 := rfl
theorem lX10_hasChain_34 : lk (tX10_hasChain d mc ms P) 34 = oPush (.int 2) 35 := rfl
theorem lX10_hasChain_35 : lk (tX10_hasChain d mc ms P) 35 = oPi 10 0 38 := rfl
theorem lX10_hasChain_38 : lk (tX10_hasChain d mc ms P) 38 = oAld 0 39 := rfl
theorem lX10_hasChain_39 : lk (tX10_hasChain d mc ms P) 39 = oGi 10 0 42 := rfl
theorem lX10_hasChain_42 : lk (tX10_hasChain d mc ms P) 42 = oIf (fun x => x = 0) 45 49 := rfl
theorem lX10_hasChain_45 : lk (tX10_hasChain d mc ms P) 45 = oPush (.int 1) 46 := rfl
theorem lX10_hasChain_46 : lk (tX10_hasChain d mc ms P) 46 = oGoto 50 := rfl
theorem lX10_hasChain_49 : lk (tX10_hasChain d mc ms P) 49 = oPush (.int 0) 50 := rfl
theorem lX10_hasChain_50 : lk (tX10_hasChain d mc ms P) 50 = oRetZ mc ms P := rfl
theorem lX10_operator_0 : lk (tX10_operator d mc ms P) 0 = oAld 0 1 := rfl
theorem lX10_operator_1 : lk (tX10_operator d mc ms P) 1 = oIld 1 2 := rfl
theorem lX10_operator_2 : lk (tX10_operator d mc ms P) 2 = oCallV d mc ms P 0 0 yX10_hasChain (Cond.code yX10_hasChain cX10_hasChain 2 (some .boolean)) 1 10 5 := rfl
theorem lX10_operator_5 : lk (tX10_operator d mc ms P) 5 = oIf (fun x => x = 0) 16 8 := rfl
theorem lX10_operator_8 : lk (tX10_operator d mc ms P) 8 = oAld 0 9 := rfl
theorem lX10_operator_9 : lk (tX10_operator d mc ms P) 9 = oIld 1 10 := rfl
theorem lX10_operator_10 : lk (tX10_operator d mc ms P) 10 = oCallV d mc ms P 0 0 yX10_operatorOf (Cond.code yX10_operatorOf cX10_operatorOf 3 (some .int)) 1 10 13 := rfl
theorem lX10_operator_13 : lk (tX10_operator d mc ms P) 13 = oGoto 17 := rfl
theorem lX10_operator_16 : lk (tX10_operator d mc ms P) 16 = oPush (.int 0) 17 := rfl
theorem lX10_operator_17 : lk (tX10_operator d mc ms P) 17 = oRetI mc ms P := rfl
theorem lX10_terms_0 : lk (tX10_terms d mc ms P) 0 = oAld 0 1 := rfl
theorem lX10_terms_1 : lk (tX10_terms d mc ms P) 1 = oIld 1 2 := rfl
theorem lX10_terms_2 : lk (tX10_terms d mc ms P) 2 = oCallV d mc ms P 0 0 yX10_hasChain (Cond.code yX10_hasChain cX10_hasChain 2 (some .boolean)) 1 10 5 := rfl
theorem lX10_terms_5 : lk (tX10_terms d mc ms P) 5 = oIf (fun x => x = 0) 22 8 := rfl
theorem lX10_terms_8 : lk (tX10_terms d mc ms P) 8 = oAld 0 9 := rfl
theorem lX10_terms_9 : lk (tX10_terms d mc ms P) 9 = oIld 1 10 := rfl
theorem lX10_terms_10 : lk (tX10_terms d mc ms P) 10 = oPush (.int 0) 11 := rfl
theorem lX10_terms_11 : lk (tX10_terms d mc ms P) 11 = oAld 0 12 := rfl
theorem lX10_terms_12 : lk (tX10_terms d mc ms P) 12 = oIld 1 13 := rfl
theorem lX10_terms_13 : lk (tX10_terms d mc ms P) 13 = oCallV d mc ms P 0 0 yX10_operatorOf (Cond.code yX10_operatorOf cX10_operatorOf 3 (some .int)) 1 10 16 := rfl
theorem lX10_terms_16 : lk (tX10_terms d mc ms P) 16 = oCallV d mc ms P 0 0 yX10_chain (Cond.code yX10_chain cX10_chain 10 (some .int)) 3 10 19 := rfl
theorem lX10_terms_19 : lk (tX10_terms d mc ms P) 19 = oGoto 23 := rfl
theorem lX10_terms_22 : lk (tX10_terms d mc ms P) 22 = oPush (.int 0) 23 := rfl
theorem lX10_terms_23 : lk (tX10_terms d mc ms P) 23 = oRetI mc ms P := rfl
theorem lX10_depends_0 : lk (tX10_depends d mc ms P) 0 = oAld 0 1 := rfl
theorem lX10_depends_1 : lk (tX10_depends d mc ms P) 1 = oPush (.int 0) 2 := rfl
theorem lX10_depends_2 : lk (tX10_depends d mc ms P) 2 = oPi 10 0 5 := rfl
theorem lX10_depends_5 : lk (tX10_depends d mc ms P) 5 = oIld 1 6 := rfl
theorem lX10_depends_6 : lk (tX10_depends d mc ms P) 6 = oCallS d mc ms P 0 0 yX10_isVariable (Cond.code yX10_isVariable cX10_isVariable 1 (some .boolean)) 1 9 := rfl
theorem lX10_depends_9 : lk (tX10_depends d mc ms P) 9 = oIf (fun x => x = 0) 12 18 := rfl
theorem lX10_depends_12 : lk (tX10_depends d mc ms P) 12 = oAld 0 13 := rfl
theorem lX10_depends_13 : lk (tX10_depends d mc ms P) 13 = oPush (.int 1) 14 := rfl
theorem lX10_depends_14 : lk (tX10_depends d mc ms P) 14 = oCallV d mc ms P 0 0 yX10_raises (Cond.code yX10_raises cX10_raises 2 (some .int)) 1 10 17 := rfl
theorem lX10_depends_17 : lk (tX10_depends d mc ms P) 17 = oRetI mc ms P := rfl
theorem lX10_depends_18 : lk (tX10_depends d mc ms P) 18 = oPush (.int 0) 19 := rfl
theorem lX10_depends_19 : lk (tX10_depends d mc ms P) 19 = oIst 2 20 := rfl
theorem lX10_depends_20 : lk (tX10_depends d mc ms P) 20 = oPush (.int 0) 21 := rfl
theorem lX10_depends_21 : lk (tX10_depends d mc ms P) 21 = oIst 3 22 := rfl
theorem lX10_depends_22 : lk (tX10_depends d mc ms P) 22 = oIld 3 23 := rfl
theorem lX10_depends_23 : lk (tX10_depends d mc ms P) 23 = oPush (.int 8) 25 := rfl
theorem lX10_depends_25 : lk (tX10_depends d mc ms P) 25 = oIc (fun x y => y ≤ x) 49 28 := rfl
theorem lX10_depends_28 : lk (tX10_depends d mc ms P) 28 = oAld 0 29 := rfl
theorem lX10_depends_29 : lk (tX10_depends d mc ms P) 29 = oIld 1 30 := rfl
theorem lX10_depends_30 : lk (tX10_depends d mc ms P) 30 = oIld 3 31 := rfl
theorem lX10_depends_31 : lk (tX10_depends d mc ms P) 31 = oCallV d mc ms P 0 0 yX10_occurs (Cond.code yX10_occurs cX10_occurs 3 (some .boolean)) 2 10 34 := rfl
theorem lX10_depends_34 : lk (tX10_depends d mc ms P) 34 = oIf (fun x => x = 0) 43 37 := rfl
theorem lX10_depends_37 : lk (tX10_depends d mc ms P) 37 = oIld 2 38 := rfl
theorem lX10_depends_38 : lk (tX10_depends d mc ms P) 38 = oPush (.int 1) 39 := rfl
theorem lX10_depends_39 : lk (tX10_depends d mc ms P) 39 = oIld 3 40 := rfl
theorem lX10_depends_40 : lk (tX10_depends d mc ms P) 40 = oI2 (fun x y => x <<< (y &&& 31)) 41 := rfl
theorem lX10_depends_41 : lk (tX10_depends d mc ms P) 41 = oI2 (fun x y => x ||| y) 42 := rfl
theorem lX10_depends_42 : lk (tX10_depends d mc ms P) 42 = oIst 2 43 := rfl
theorem lX10_depends_43 : lk (tX10_depends d mc ms P) 43 = oInc 3 1 46 := rfl
theorem lX10_depends_46 : lk (tX10_depends d mc ms P) 46 = oGoto 22 := rfl
theorem lX10_depends_49 : lk (tX10_depends d mc ms P) 49 = oIld 2 50 := rfl
theorem lX10_depends_50 : lk (tX10_depends d mc ms P) 50 = oRetI mc ms P := rfl
theorem lX10_nodes_0 : lk (tX10_nodes d mc ms P) 0 = oAld 0 1 := rfl
theorem lX10_nodes_1 : lk (tX10_nodes d mc ms P) 1 = oPush (.int 0) 2 := rfl
theorem lX10_nodes_2 : lk (tX10_nodes d mc ms P) 2 = oPi 10 0 5 := rfl
theorem lX10_nodes_5 : lk (tX10_nodes d mc ms P) 5 = oIld 1 6 := rfl
theorem lX10_nodes_6 : lk (tX10_nodes d mc ms P) 6 = oCallS d mc ms P 0 0 yX10_isVariable (Cond.code yX10_isVariable cX10_isVariable 1 (some .boolean)) 1 9 := rfl
theorem lX10_nodes_9 : lk (tX10_nodes d mc ms P) 9 = oIf (fun x => x = 0) 21 12 := rfl
theorem lX10_nodes_12 : lk (tX10_nodes d mc ms P) 12 = oAld 0 13 := rfl
theorem lX10_nodes_13 : lk (tX10_nodes d mc ms P) 13 = oGr 10 21 16 := rfl
theorem lX10_nodes_16 : lk (tX10_nodes d mc ms P) 16 = oIld 1 17 := rfl
theorem lX10_nodes_17 : lk (tX10_nodes d mc ms P) 17 = oAi 100 18 := rfl
theorem lX10_nodes_18 : lk (tX10_nodes d mc ms P) 18 = oGoto 26 := rfl
theorem lX10_nodes_21 : lk (tX10_nodes d mc ms P) 21 = oAld 0 22 := rfl
theorem lX10_nodes_22 : lk (tX10_nodes d mc ms P) 22 = oPush (.int 1) 23 := rfl
theorem lX10_nodes_23 : lk (tX10_nodes d mc ms P) 23 = oCallV d mc ms P 0 0 yX10_raises (Cond.code yX10_raises cX10_raises 2 (some .int)) 1 10 26 := rfl
theorem lX10_nodes_26 : lk (tX10_nodes d mc ms P) 26 = oRetI mc ms P := rfl
theorem lX10_high_0 : lk (tX10_high d mc ms P) 0 = oPush (.int 0) 1 := rfl
theorem lX10_high_1 : lk (tX10_high d mc ms P) 1 = oIst 3 2 := rfl
theorem lX10_high_2 : lk (tX10_high d mc ms P) 2 = oIld 2 3 := rfl
theorem lX10_high_3 : lk (tX10_high d mc ms P) 3 = oPush (.int 1) 4 := rfl
theorem lX10_high_4 : lk (tX10_high d mc ms P) 4 = oI2 (fun x y => x + y) 5 := rfl
theorem lX10_high_5 : lk (tX10_high d mc ms P) 5 = oIst 4 7 := rfl
theorem lX10_high_7 : lk (tX10_high d mc ms P) 7 = oPush (.int 0) 8 := rfl
theorem lX10_high_8 : lk (tX10_high d mc ms P) 8 = oIst 5 10 := rfl
theorem lX10_high_10 : lk (tX10_high d mc ms P) 10 = oIld 5 12 := rfl
theorem lX10_high_12 : lk (tX10_high d mc ms P) 12 = oAld 0 13 := rfl
theorem lX10_high_13 : lk (tX10_high d mc ms P) 13 = oIld 1 14 := rfl
theorem lX10_high_14 : lk (tX10_high d mc ms P) 14 = oIld 2 15 := rfl
theorem lX10_high_15 : lk (tX10_high d mc ms P) 15 = oCallV d mc ms P 0 0 yX10_part (Cond.code yX10_part cX10_part 3 (some .int)) 2 10 18 := rfl
theorem lX10_high_18 : lk (tX10_high d mc ms P) 18 = oCallS d mc ms P 0 0 yX10_operands (Cond.code yX10_operands cX10_operands 1 (some .int)) 1 21 := rfl
theorem lX10_high_21 : lk (tX10_high d mc ms P) 21 = oIc (fun x y => y ≤ x) 51 24 := rfl
theorem lX10_high_24 : lk (tX10_high d mc ms P) 24 = oIld 3 25 := rfl
theorem lX10_high_25 : lk (tX10_high d mc ms P) 25 = oAld 0 26 := rfl
theorem lX10_high_26 : lk (tX10_high d mc ms P) 26 = oIld 1 27 := rfl
theorem lX10_high_27 : lk (tX10_high d mc ms P) 27 = oIld 4 29 := rfl
theorem lX10_high_29 : lk (tX10_high d mc ms P) 29 = oCallV d mc ms P 0 0 yX10_high (Cond.code yX10_high cX10_high 6 (some .int)) 2 10 32 := rfl
theorem lX10_high_32 : lk (tX10_high d mc ms P) 32 = oMm (fun x y => if x < y then y else x) mc ms 35 := rfl
theorem lX10_high_35 : lk (tX10_high d mc ms P) 35 = oIst 3 36 := rfl
theorem lX10_high_36 : lk (tX10_high d mc ms P) 36 = oAld 0 37 := rfl
theorem lX10_high_37 : lk (tX10_high d mc ms P) 37 = oIld 1 38 := rfl
theorem lX10_high_38 : lk (tX10_high d mc ms P) 38 = oIld 4 40 := rfl
theorem lX10_high_40 : lk (tX10_high d mc ms P) 40 = oCallV d mc ms P 0 0 yX10_behind (Cond.code yX10_behind cX10_behind 5 (some .int)) 2 10 43 := rfl
theorem lX10_high_43 : lk (tX10_high d mc ms P) 43 = oIst 4 45 := rfl
theorem lX10_high_45 : lk (tX10_high d mc ms P) 45 = oInc 5 1 48 := rfl
theorem lX10_high_48 : lk (tX10_high d mc ms P) 48 = oGoto 10 := rfl
theorem lX10_high_51 : lk (tX10_high d mc ms P) 51 = oIld 3 52 := rfl
theorem lX10_high_52 : lk (tX10_high d mc ms P) 52 = oPush (.int 1) 53 := rfl
theorem lX10_high_53 : lk (tX10_high d mc ms P) 53 = oI2 (fun x y => x + y) 54 := rfl
theorem lX10_high_54 : lk (tX10_high d mc ms P) 54 = oRetI mc ms P := rfl
theorem lX10_height_0 : lk (tX10_height d mc ms P) 0 = oAld 0 1 := rfl
theorem lX10_height_1 : lk (tX10_height d mc ms P) 1 = oPush (.int 0) 2 := rfl
theorem lX10_height_2 : lk (tX10_height d mc ms P) 2 = oPi 10 0 5 := rfl
theorem lX10_height_5 : lk (tX10_height d mc ms P) 5 = oIld 1 6 := rfl
theorem lX10_height_6 : lk (tX10_height d mc ms P) 6 = oCallS d mc ms P 0 0 yX10_isVariable (Cond.code yX10_isVariable cX10_isVariable 1 (some .boolean)) 1 9 := rfl
theorem lX10_height_9 : lk (tX10_height d mc ms P) 9 = oIf (fun x => x = 0) 21 12 := rfl
theorem lX10_height_12 : lk (tX10_height d mc ms P) 12 = oAld 0 13 := rfl
theorem lX10_height_13 : lk (tX10_height d mc ms P) 13 = oIld 1 14 := rfl
theorem lX10_height_14 : lk (tX10_height d mc ms P) 14 = oPush (.int 0) 15 := rfl
theorem lX10_height_15 : lk (tX10_height d mc ms P) 15 = oCallV d mc ms P 0 0 yX10_high (Cond.code yX10_high cX10_high 6 (some .int)) 2 10 18 := rfl
theorem lX10_height_18 : lk (tX10_height d mc ms P) 18 = oGoto 26 := rfl
theorem lX10_height_21 : lk (tX10_height d mc ms P) 21 = oAld 0 22 := rfl
theorem lX10_height_22 : lk (tX10_height d mc ms P) 22 = oPush (.int 1) 23 := rfl
theorem lX10_height_23 : lk (tX10_height d mc ms P) 23 = oCallV d mc ms P 0 0 yX10_raises (Cond.code yX10_raises cX10_raises 2 (some .int)) 1 10 26 := rfl
theorem lX10_height_26 : lk (tX10_height d mc ms P) 26 = oRetI mc ms P := rfl
theorem lX10_open_0 : lk (tX10_open d mc ms P) 0 = oAld 0 1 := rfl
theorem lX10_open_1 : lk (tX10_open d mc ms P) 1 = oPush (.int 0) 2 := rfl
theorem lX10_open_2 : lk (tX10_open d mc ms P) 2 = oPi 10 0 5 := rfl
theorem lX10_open_5 : lk (tX10_open d mc ms P) 5 = oIld 1 6 := rfl
theorem lX10_open_6 : lk (tX10_open d mc ms P) 6 = oCallS d mc ms P 0 0 yX10_isVariable (Cond.code yX10_isVariable cX10_isVariable 1 (some .boolean)) 1 9 := rfl
theorem lX10_open_9 : lk (tX10_open d mc ms P) 9 = oIf (fun x => x = 0) 12 18 := rfl
theorem lX10_open_12 : lk (tX10_open d mc ms P) 12 = oAld 0 13 := rfl
theorem lX10_open_13 : lk (tX10_open d mc ms P) 13 = oPush (.int 1) 14 := rfl
theorem lX10_open_14 : lk (tX10_open d mc ms P) 14 = oCallV d mc ms P 0 0 yX10_raises (Cond.code yX10_raises cX10_raises 2 (some .int)) 1 10 17 := rfl
theorem lX10_open_17 : lk (tX10_open d mc ms P) 17 = oRetI mc ms P := rfl
theorem lX10_open_18 : lk (tX10_open d mc ms P) 18 = oAld 0 19 := rfl
theorem lX10_open_19 : lk (tX10_open d mc ms P) 19 = oPush (.int 0) 20 := rfl
theorem lX10_open_20 : lk (tX10_open d mc ms P) 20 = oPi 10 34 23 := rfl
theorem lX10_open_23 : lk (tX10_open d mc ms P) 23 = oAld 0 24 := rfl
theorem lX10_open_24 : lk (tX10_open d mc ms P) 24 = oIld 1 25 := rfl
theorem lX10_open_25 : lk (tX10_open d mc ms P) 25 = oPi 10 35 28 := rfl
theorem lX10_open_28 : lk (tX10_open d mc ms P) 28 = oAld 0 29 := rfl
theorem lX10_open_29 : lk (tX10_open d mc ms P) 29 = oGr 10 21 32 := rfl
theorem lX10_open_32 : lk (tX10_open d mc ms P) 32 = oIld 1 33 := rfl
theorem lX10_open_33 : lk (tX10_open d mc ms P) 33 = oAi 100 34 := rfl
theorem lX10_open_34 : lk (tX10_open d mc ms P) 34 = oRetI mc ms P := rfl
theorem lX10_hasNext_0 : lk (tX10_hasNext d mc ms P) 0 = oAld 0 1 := rfl
theorem lX10_hasNext_1 : lk (tX10_hasNext d mc ms P) 1 = oAld 0 2 := rfl
theorem lX10_hasNext_2 : lk (tX10_hasNext d mc ms P) 2 = oGi 10 34 5 := rfl
theorem lX10_hasNext_5 : lk (tX10_hasNext d mc ms P) 5 = oIf (fun x => 0 ≤ x) 12 8 := rfl
theorem lX10_hasNext_8 : lk (tX10_hasNext d mc ms P) 8 = oPush (.int 1) 9 := rfl
theorem lX10_hasNext_9 : lk (tX10_hasNext d mc ms P) 9 = oGoto 13 := rfl
theorem lX10_hasNext_12 : lk (tX10_hasNext d mc ms P) 12 = oPush (.int 0) 13 := rfl
theorem lX10_hasNext_13 : lk (tX10_hasNext d mc ms P) 13 = oPi 10 0 16 := rfl
theorem lX10_hasNext_16 : lk (tX10_hasNext d mc ms P) 16 = oAld 0 17 := rfl
theorem lX10_hasNext_17 : lk (tX10_hasNext d mc ms P) 17 = oGi 10 0 20 := rfl
theorem lX10_hasNext_20 : lk (tX10_hasNext d mc ms P) 20 = oIf (fun x => x = 0) 23 43 := rfl
theorem lX10_hasNext_23 : lk (tX10_hasNext d mc ms P) 23 = oAld 0 24 := rfl
theorem lX10_hasNext_24 : lk (tX10_hasNext d mc ms P) 24 = oGi 10 34 27 := rfl
theorem lX10_hasNext_27 : lk (tX10_hasNext d mc ms P) 27 = oAld 0 28 := rfl
theorem lX10_hasNext_28 : lk (tX10_hasNext d mc ms P) 28 = oGr 10 21 31 := rfl
theorem lX10_hasNext_31 : lk (tX10_hasNext d mc ms P) 31 = oAld 0 32 := rfl
theorem lX10_hasNext_32 : lk (tX10_hasNext d mc ms P) 32 = oGi 10 35 35 := rfl
theorem lX10_hasNext_35 : lk (tX10_hasNext d mc ms P) 35 = oAi 100 36 := rfl
theorem lX10_hasNext_36 : lk (tX10_hasNext d mc ms P) 36 = oIc (fun x y => y ≤ x) 43 39 := rfl
theorem lX10_hasNext_39 : lk (tX10_hasNext d mc ms P) 39 = oPush (.int 1) 40 := rfl
theorem lX10_hasNext_40 : lk (tX10_hasNext d mc ms P) 40 = oGoto 44 := rfl
theorem lX10_hasNext_43 : lk (tX10_hasNext d mc ms P) 43 = oPush (.int 0) 44 := rfl
theorem lX10_hasNext_44 : lk (tX10_hasNext d mc ms P) 44 = oRetZ mc ms P := rfl
theorem lX10_next_0 : lk (tX10_next d mc ms P) 0 = oAld 0 1 := rfl
theorem lX10_next_1 : lk (tX10_next d mc ms P) 1 = oPush (.int 0) 2 := rfl
theorem lX10_next_2 : lk (tX10_next d mc ms P) 2 = oPi 10 0 5 := rfl
theorem lX10_next_5 : lk (tX10_next d mc ms P) 5 = oAld 0 6 := rfl
theorem lX10_next_6 : lk (tX10_next d mc ms P) 6 = oGi 10 34 9 := rfl
theorem lX10_next_9 : lk (tX10_next d mc ms P) 9 = oIf (fun x => 0 ≤ x) 18 12 := rfl
theorem lX10_next_12 : lk (tX10_next d mc ms P) 12 = oAld 0 13 := rfl
theorem lX10_next_13 : lk (tX10_next d mc ms P) 13 = oPush (.int 1) 14 := rfl
theorem lX10_next_14 : lk (tX10_next d mc ms P) 14 = oCallV d mc ms P 0 0 yX10_raises (Cond.code yX10_raises cX10_raises 2 (some .int)) 1 10 17 := rfl
theorem lX10_next_17 : lk (tX10_next d mc ms P) 17 = oRetI mc ms P := rfl
theorem lX10_next_18 : lk (tX10_next d mc ms P) 18 = oAld 0 19 := rfl
theorem lX10_next_19 : lk (tX10_next d mc ms P) 19 = oGi 10 34 22 := rfl
theorem lX10_next_22 : lk (tX10_next d mc ms P) 22 = oAld 0 23 := rfl
theorem lX10_next_23 : lk (tX10_next d mc ms P) 23 = oGr 10 21 26 := rfl
theorem lX10_next_26 : lk (tX10_next d mc ms P) 26 = oAld 0 27 := rfl
theorem lX10_next_27 : lk (tX10_next d mc ms P) 27 = oGi 10 35 30 := rfl
theorem lX10_next_30 : lk (tX10_next d mc ms P) 30 = oAi 100 31 := rfl
theorem lX10_next_31 : lk (tX10_next d mc ms P) 31 = oIc (fun x y => y ≤ x) 56 34 := rfl
theorem lX10_next_34 : lk (tX10_next d mc ms P) 34 = oAld 0 35 := rfl
theorem lX10_next_35 : lk (tX10_next d mc ms P) 35 = oAld 0 36 := rfl
theorem lX10_next_36 : lk (tX10_next d mc ms P) 36 = oGi 10 35 39 := rfl
theorem lX10_next_39 : lk (tX10_next d mc ms P) 39 = oAld 0 40 := rfl
theorem lX10_next_40 : lk (tX10_next d mc ms P) 40 = oDup 41 := rfl
theorem lX10_next_41 : lk (tX10_next d mc ms P) 41 = oGi 10 34 44 := rfl
theorem lX10_next_44 : lk (tX10_next d mc ms P) 44 = oDupx1 45 := rfl
theorem lX10_next_45 : lk (tX10_next d mc ms P) 45 = oPush (.int 1) 46 := rfl
theorem lX10_next_46 : lk (tX10_next d mc ms P) 46 = oI2 (fun x y => x + y) 47 := rfl
theorem lX10_next_47 : lk (tX10_next d mc ms P) 47 = oPi 10 34 50 := rfl
theorem lX10_next_50 : lk (tX10_next d mc ms P) 50 = oCallV d mc ms P 0 0 yX10_part (Cond.code yX10_part cX10_part 3 (some .int)) 2 10 53 := rfl
theorem lX10_next_53 : lk (tX10_next d mc ms P) 53 = oGoto 61 := rfl
theorem lX10_next_56 : lk (tX10_next d mc ms P) 56 = oAld 0 57 := rfl
theorem lX10_next_57 : lk (tX10_next d mc ms P) 57 = oPush (.int 2) 58 := rfl
theorem lX10_next_58 : lk (tX10_next d mc ms P) 58 = oCallV d mc ms P 0 0 yX10_raises (Cond.code yX10_raises cX10_raises 2 (some .int)) 1 10 61 := rfl
theorem lX10_next_61 : lk (tX10_next d mc ms P) 61 = oRetI mc ms P := rfl
theorem lX10_parallel_0 : lk (tX10_parallel d mc ms P) 0 = oPush (.int 0) 1 := rfl
theorem lX10_parallel_1 : lk (tX10_parallel d mc ms P) 1 = oIst 1 2 := rfl
theorem lX10_parallel_2 : lk (tX10_parallel d mc ms P) 2 = oIld 1 3 := rfl
theorem lX10_parallel_3 : lk (tX10_parallel d mc ms P) 3 = oPush (.int 8) 5 := rfl
theorem lX10_parallel_5 : lk (tX10_parallel d mc ms P) 5 = oIc (fun x y => y ≤ x) 25 8 := rfl
theorem lX10_parallel_8 : lk (tX10_parallel d mc ms P) 8 = oAld 0 9 := rfl
theorem lX10_parallel_9 : lk (tX10_parallel d mc ms P) 9 = oIld 1 10 := rfl
theorem lX10_parallel_10 : lk (tX10_parallel d mc ms P) 10 = oCallV d mc ms P 0 0 yX10_kinds (Cond.code yX10_kinds cX10_kinds 4 (some .int)) 1 10 13 := rfl
theorem lX10_parallel_13 : lk (tX10_parallel d mc ms P) 13 = oPush (.int 2) 14 := rfl
theorem lX10_parallel_14 : lk (tX10_parallel d mc ms P) 14 = oIc (fun x y => x ≤ y) 19 17 := rfl
theorem lX10_parallel_17 : lk (tX10_parallel d mc ms P) 17 = oPush (.int 0) 18 := rfl
theorem lX10_parallel_18 : lk (tX10_parallel d mc ms P) 18 = oRetZ mc ms P := rfl
theorem lX10_parallel_19 : lk (tX10_parallel d mc ms P) 19 = oInc 1 1 22 := rfl
theorem lX10_parallel_22 : lk (tX10_parallel d mc ms P) 22 = oGoto 2 := rfl
theorem lX10_parallel_25 : lk (tX10_parallel d mc ms P) 25 = oPush (.int 1) 26 := rfl
theorem lX10_parallel_26 : lk (tX10_parallel d mc ms P) 26 = oRetZ mc ms P := rfl
theorem lX10_isParallel_0 : lk (tX10_isParallel d mc ms P) 0 = oAld 0 1 := rfl
theorem lX10_isParallel_1 : lk (tX10_isParallel d mc ms P) 1 = oPush (.int 0) 2 := rfl
theorem lX10_isParallel_2 : lk (tX10_isParallel d mc ms P) 2 = oPi 10 0 5 := rfl
theorem lX10_isParallel_5 : lk (tX10_isParallel d mc ms P) 5 = oAld 0 6 := rfl
theorem lX10_isParallel_6 : lk (tX10_isParallel d mc ms P) 6 = oCallV d mc ms P 0 0 yX10_parallel (Cond.code yX10_parallel cX10_parallel 2 (some .boolean)) 0 10 9 := rfl
theorem lX10_isParallel_9 : lk (tX10_isParallel d mc ms P) 9 = oRetZ mc ms P := rfl
theorem lX10_isExact_0 : lk (tX10_isExact d mc ms P) 0 = oAld 0 1 := rfl
theorem lX10_isExact_1 : lk (tX10_isExact d mc ms P) 1 = oIld 1 2 := rfl
theorem lX10_isExact_2 : lk (tX10_isExact d mc ms P) 2 = oCallS d mc ms P 0 0 yX10_isVariable (Cond.code yX10_isVariable cX10_isVariable 1 (some .boolean)) 1 5 := rfl
theorem lX10_isExact_5 : lk (tX10_isExact d mc ms P) 5 = oIf (fun x => x = 0) 12 8 := rfl
theorem lX10_isExact_8 : lk (tX10_isExact d mc ms P) 8 = oPush (.int 0) 9 := rfl
theorem lX10_isExact_9 : lk (tX10_isExact d mc ms P) 9 = oGoto 13 := rfl
theorem lX10_isExact_12 : lk (tX10_isExact d mc ms P) 12 = oPush (.int 1) 13 := rfl
theorem lX10_isExact_13 : lk (tX10_isExact d mc ms P) 13 = oPi 10 0 16 := rfl
theorem lX10_isExact_16 : lk (tX10_isExact d mc ms P) 16 = oAld 0 17 := rfl
theorem lX10_isExact_17 : lk (tX10_isExact d mc ms P) 17 = oGi 10 0 20 := rfl
theorem lX10_isExact_20 : lk (tX10_isExact d mc ms P) 20 = oIf (fun x => x ≤ 0) 25 23 := rfl
theorem lX10_isExact_23 : lk (tX10_isExact d mc ms P) 23 = oPush (.int 0) 24 := rfl
theorem lX10_isExact_24 : lk (tX10_isExact d mc ms P) 24 = oRetZ mc ms P := rfl
theorem lX10_isExact_25 : lk (tX10_isExact d mc ms P) 25 = oAld 0 26 := rfl
theorem lX10_isExact_26 : lk (tX10_isExact d mc ms P) 26 = oIld 1 27 := rfl
theorem lX10_isExact_27 : lk (tX10_isExact d mc ms P) 27 = oCallV d mc ms P 0 0 yX10_kinds (Cond.code yX10_kinds cX10_kinds 4 (some .int)) 1 10 30 := rfl
theorem lX10_isExact_30 : lk (tX10_isExact d mc ms P) 30 = oIst 2 31 := rfl
theorem lX10_isExact_31 : lk (tX10_isExact d mc ms P) 31 = oIld 2 32 := rfl
theorem lX10_isExact_32 : lk (tX10_isExact d mc ms P) 32 = oPush (.int 2) 33 := rfl
theorem lX10_isExact_33 : lk (tX10_isExact d mc ms P) 33 = oIc (fun x y => x < y) 59 36 := rfl
theorem lX10_isExact_36 : lk (tX10_isExact d mc ms P) 36 = oIld 2 37 := rfl
theorem lX10_isExact_37 : lk (tX10_isExact d mc ms P) 37 = oPush (.int 2) 38 := rfl
theorem lX10_isExact_38 : lk (tX10_isExact d mc ms P) 38 = oIc (fun x y => x = y) 41 63 := rfl
theorem lX10_isExact_41 : lk (tX10_isExact d mc ms P) 41 = oAld 0 42 := rfl
theorem lX10_isExact_42 : lk (tX10_isExact d mc ms P) 42 = oGr 10 1 45 := rfl
theorem lX10_isExact_45 : lk (tX10_isExact d mc ms P) 45 = oPush (.int 1) 46 := rfl
theorem lX10_isExact_46 : lk (tX10_isExact d mc ms P) 46 = oAi 100 47 := rfl
theorem lX10_isExact_47 : lk (tX10_isExact d mc ms P) 47 = oIf (fun x => x = 0) 59 50 := rfl
theorem lX10_isExact_50 : lk (tX10_isExact d mc ms P) 50 = oAld 0 51 := rfl
theorem lX10_isExact_51 : lk (tX10_isExact d mc ms P) 51 = oIld 1 52 := rfl
theorem lX10_isExact_52 : lk (tX10_isExact d mc ms P) 52 = oCallV d mc ms P 0 0 yX10_operatorOf (Cond.code yX10_operatorOf cX10_operatorOf 3 (some .int)) 1 10 55 := rfl
theorem lX10_isExact_55 : lk (tX10_isExact d mc ms P) 55 = oPush (.int 4) 56 := rfl
theorem lX10_isExact_56 : lk (tX10_isExact d mc ms P) 56 = oIc (fun x y => x ≤ y) 63 59 := rfl
theorem lX10_isExact_59 : lk (tX10_isExact d mc ms P) 59 = oPush (.int 1) 60 := rfl
theorem lX10_isExact_60 : lk (tX10_isExact d mc ms P) 60 = oGoto 64 := rfl
theorem lX10_isExact_63 : lk (tX10_isExact d mc ms P) 63 = oPush (.int 0) 64 := rfl
theorem lX10_isExact_64 : lk (tX10_isExact d mc ms P) 64 = oRetZ mc ms P := rfl
theorem lX10_intBy_0 : lk (tX10_intBy d mc ms P) 0 = oIld 0 1 := rfl
theorem lX10_intBy_1 : lk (tX10_intBy d mc ms P) 1 = oSw [(0, 44), (1, 48), (2, 52), (3, 56), (4, 60), (5, 64), (6, 75)] 86 := rfl
theorem lX10_intBy_44 : lk (tX10_intBy d mc ms P) 44 = oIld 1 45 := rfl
theorem lX10_intBy_45 : lk (tX10_intBy d mc ms P) 45 = oIld 2 46 := rfl
theorem lX10_intBy_46 : lk (tX10_intBy d mc ms P) 46 = oI2 (fun x y => x + y) 47 := rfl
theorem lX10_intBy_47 : lk (tX10_intBy d mc ms P) 47 = oRetI mc ms P := rfl
theorem lX10_intBy_48 : lk (tX10_intBy d mc ms P) 48 = oIld 1 49 := rfl
theorem lX10_intBy_49 : lk (tX10_intBy d mc ms P) 49 = oIld 2 50 := rfl
theorem lX10_intBy_50 : lk (tX10_intBy d mc ms P) 50 = oI2 (fun x y => x * y) 51 := rfl
theorem lX10_intBy_51 : lk (tX10_intBy d mc ms P) 51 = oRetI mc ms P := rfl
theorem lX10_intBy_52 : lk (tX10_intBy d mc ms P) 52 = oIld 1 53 := rfl
theorem lX10_intBy_53 : lk (tX10_intBy d mc ms P) 53 = oIld 2 54 := rfl
theorem lX10_intBy_54 : lk (tX10_intBy d mc ms P) 54 = oI2 (fun x y => x &&& y) 55 := rfl
theorem lX10_intBy_55 : lk (tX10_intBy d mc ms P) 55 = oRetI mc ms P := rfl
theorem lX10_intBy_56 : lk (tX10_intBy d mc ms P) 56 = oIld 1 57 := rfl
theorem lX10_intBy_57 : lk (tX10_intBy d mc ms P) 57 = oIld 2 58 := rfl
theorem lX10_intBy_58 : lk (tX10_intBy d mc ms P) 58 = oI2 (fun x y => x ||| y) 59 := rfl
theorem lX10_intBy_59 : lk (tX10_intBy d mc ms P) 59 = oRetI mc ms P := rfl
theorem lX10_intBy_60 : lk (tX10_intBy d mc ms P) 60 = oIld 1 61 := rfl
theorem lX10_intBy_61 : lk (tX10_intBy d mc ms P) 61 = oIld 2 62 := rfl
theorem lX10_intBy_62 : lk (tX10_intBy d mc ms P) 62 = oI2 (fun x y => x ^^^ y) 63 := rfl
theorem lX10_intBy_63 : lk (tX10_intBy d mc ms P) 63 = oRetI mc ms P := rfl
theorem lX10_intBy_64 : lk (tX10_intBy d mc ms P) 64 = oIld 1 65 := rfl
theorem lX10_intBy_65 : lk (tX10_intBy d mc ms P) 65 = oIld 2 66 := rfl
theorem lX10_intBy_66 : lk (tX10_intBy d mc ms P) 66 = oIc (fun x y => y ≤ x) 73 69 := rfl
theorem lX10_intBy_69 : lk (tX10_intBy d mc ms P) 69 = oIld 1 70 := rfl
theorem lX10_intBy_70 : lk (tX10_intBy d mc ms P) 70 = oGoto 74 := rfl
theorem lX10_intBy_73 : lk (tX10_intBy d mc ms P) 73 = oIld 2 74 := rfl
theorem lX10_intBy_74 : lk (tX10_intBy d mc ms P) 74 = oRetI mc ms P := rfl
theorem lX10_intBy_75 : lk (tX10_intBy d mc ms P) 75 = oIld 1 76 := rfl
theorem lX10_intBy_76 : lk (tX10_intBy d mc ms P) 76 = oIld 2 77 := rfl
theorem lX10_intBy_77 : lk (tX10_intBy d mc ms P) 77 = oIc (fun x y => x ≤ y) 84 80 := rfl
theorem lX10_intBy_80 : lk (tX10_intBy d mc ms P) 80 = oIld 1 81 := rfl
theorem lX10_intBy_81 : lk (tX10_intBy d mc ms P) 81 = oGoto 85 := rfl
theorem lX10_intBy_84 : lk (tX10_intBy d mc ms P) 84 = oIld 2 85 := rfl
theorem lX10_intBy_85 : lk (tX10_intBy d mc ms P) 85 = oRetI mc ms P := rfl
theorem lX10_intBy_86 : lk (tX10_intBy d mc ms P) 86 = oIld 1 87 := rfl
theorem lX10_intBy_87 : lk (tX10_intBy d mc ms P) 87 = oIld 2 88 := rfl
theorem lX10_intBy_88 : lk (tX10_intBy d mc ms P) 88 = oI2 (fun x y => x - y) 89 := rfl
theorem lX10_intBy_89 : lk (tX10_intBy d mc ms P) 89 = oRetI mc ms P := rfl
theorem lX10_bounded_0 : lk (tX10_bounded d mc ms P) 0 = oFld 0 1 := rfl
theorem lX10_bounded_1 : lk (tX10_bounded d mc ms P) 1 = oPush (.float 1900671690) 3 := rfl
theorem lX10_bounded_3 : lk (tX10_bounded d mc ms P) 3 = oFcmp .l 4 := rfl
theorem lX10_bounded_4 : lk (tX10_bounded d mc ms P) 4 = oIf (fun x => x ≤ 0) 12 7 := rfl
theorem lX10_bounded_7 : lk (tX10_bounded d mc ms P) 7 = oPush (.float 1900671690) 9 := rfl
theorem lX10_bounded_9 : lk (tX10_bounded d mc ms P) 9 = oGoto 25 := rfl
theorem lX10_bounded_12 : lk (tX10_bounded d mc ms P) 12 = oFld 0 13 := rfl
theorem lX10_bounded_13 : lk (tX10_bounded d mc ms P) 13 = oPush (.float 4048155338) 15 := rfl
theorem lX10_bounded_15 : lk (tX10_bounded d mc ms P) 15 = oFcmp .g 16 := rfl
theorem lX10_bounded_16 : lk (tX10_bounded d mc ms P) 16 = oIf (fun x => 0 ≤ x) 24 19 := rfl
theorem lX10_bounded_19 : lk (tX10_bounded d mc ms P) 19 = oPush (.float 4048155338) 21 := rfl
theorem lX10_bounded_21 : lk (tX10_bounded d mc ms P) 21 = oGoto 25 := rfl
theorem lX10_bounded_24 : lk (tX10_bounded d mc ms P) 24 = oFld 0 25 := rfl
theorem lX10_bounded_25 : lk (tX10_bounded d mc ms P) 25 = oRetF mc ms P := rfl
theorem lX10_intAt_0 : lk (tX10_intAt d mc ms P) 0 = oAld 0 1 := rfl
theorem lX10_intAt_1 : lk (tX10_intAt d mc ms P) 1 = oGr 10 1 4 := rfl
theorem lX10_intAt_4 : lk (tX10_intAt d mc ms P) 4 = oAld 0 5 := rfl
theorem lX10_intAt_5 : lk (tX10_intAt d mc ms P) 5 = oDup 6 := rfl
theorem lX10_intAt_6 : lk (tX10_intAt d mc ms P) 6 = oGi 10 24 9 := rfl
theorem lX10_intAt_9 : lk (tX10_intAt d mc ms P) 9 = oDupx1 10 := rfl
theorem lX10_intAt_10 : lk (tX10_intAt d mc ms P) 10 = oPush (.int 1) 11 := rfl
theorem lX10_intAt_11 : lk (tX10_intAt d mc ms P) 11 = oI2 (fun x y => x + y) 12 := rfl
theorem lX10_intAt_12 : lk (tX10_intAt d mc ms P) 12 = oPi 10 24 15 := rfl
theorem lX10_intAt_15 : lk (tX10_intAt d mc ms P) 15 = oAi 100 16 := rfl
theorem lX10_intAt_16 : lk (tX10_intAt d mc ms P) 16 = oIst 2 17 := rfl
theorem lX10_intAt_17 : lk (tX10_intAt d mc ms P) 17 = oIld 2 18 := rfl
theorem lX10_intAt_18 : lk (tX10_intAt d mc ms P) 18 = oPush (.int 100) 20 := rfl
theorem lX10_intAt_20 : lk (tX10_intAt d mc ms P) 20 = oIc (fun x y => y ≤ x) 25 23 := rfl
theorem lX10_intAt_23 : lk (tX10_intAt d mc ms P) 23 = oIld 2 24 := rfl
theorem lX10_intAt_24 : lk (tX10_intAt d mc ms P) 24 = oRetI mc ms P := rfl
theorem lX10_intAt_25 : lk (tX10_intAt d mc ms P) 25 = oIld 2 26 := rfl
theorem lX10_intAt_26 : lk (tX10_intAt d mc ms P) 26 = oPush (.int 200) 29 := rfl
theorem lX10_intAt_29 : lk (tX10_intAt d mc ms P) 29 = oIc (fun x y => y ≤ x) 42 32 := rfl
theorem lX10_intAt_32 : lk (tX10_intAt d mc ms P) 32 = oAld 0 33 := rfl
theorem lX10_intAt_33 : lk (tX10_intAt d mc ms P) 33 = oGr 10 25 36 := rfl
theorem lX10_intAt_36 : lk (tX10_intAt d mc ms P) 36 = oIld 2 37 := rfl
theorem lX10_intAt_37 : lk (tX10_intAt d mc ms P) 37 = oPush (.int 100) 39 := rfl
theorem lX10_intAt_39 : lk (tX10_intAt d mc ms P) 39 = oI2 (fun x y => x - y) 40 := rfl
theorem lX10_intAt_40 : lk (tX10_intAt d mc ms P) 40 = oAi 100 41 := rfl
theorem lX10_intAt_41 : lk (tX10_intAt d mc ms P) 41 = oRetI mc ms P := rfl
theorem lX10_intAt_42 : lk (tX10_intAt d mc ms P) 42 = oIld 2 43 := rfl
theorem lX10_intAt_43 : lk (tX10_intAt d mc ms P) 43 = oPush (.int 300) 46 := rfl
theorem lX10_intAt_46 : lk (tX10_intAt d mc ms P) 46 = oIc (fun x y => y ≤ x) 68 49 := rfl
theorem lX10_intAt_49 : lk (tX10_intAt d mc ms P) 49 = oAld 0 50 := rfl
theorem lX10_intAt_50 : lk (tX10_intAt d mc ms P) 50 = oGr 10 1 53 := rfl
theorem lX10_intAt_53 : lk (tX10_intAt d mc ms P) 53 = oPush (.int 19) 55 := rfl
theorem lX10_intAt_55 : lk (tX10_intAt d mc ms P) 55 = oPush (.int 16) 57 := rfl
theorem lX10_intAt_57 : lk (tX10_intAt d mc ms P) 57 = oIld 2 58 := rfl
theorem lX10_intAt_58 : lk (tX10_intAt d mc ms P) 58 = oPush (.int 200) 61 := rfl
theorem lX10_intAt_61 : lk (tX10_intAt d mc ms P) 61 = oI2 (fun x y => x - y) 62 := rfl
theorem lX10_intAt_62 : lk (tX10_intAt d mc ms P) 62 = oI2 (fun x y => x * y) 63 := rfl
theorem lX10_intAt_63 : lk (tX10_intAt d mc ms P) 63 = oI2 (fun x y => x + y) 64 := rfl
theorem lX10_intAt_64 : lk (tX10_intAt d mc ms P) 64 = oIld 1 65 := rfl
theorem lX10_intAt_65 : lk (tX10_intAt d mc ms P) 65 = oI2 (fun x y => x + y) 66 := rfl
theorem lX10_intAt_66 : lk (tX10_intAt d mc ms P) 66 = oAi 100 67 := rfl
theorem lX10_intAt_67 : lk (tX10_intAt d mc ms P) 67 = oRetI mc ms P := rfl
theorem lX10_intAt_68 : lk (tX10_intAt d mc ms P) 68 = oAld 0 69 := rfl
theorem lX10_intAt_69 : lk (tX10_intAt d mc ms P) 69 = oIld 1 70 := rfl
theorem lX10_intAt_70 : lk (tX10_intAt d mc ms P) 70 = oCallV d mc ms P 0 0 yX10_intAt (Cond.code yX10_intAt cX10_intAt 6 (some .int)) 1 10 73 := rfl
theorem lX10_intAt_73 : lk (tX10_intAt d mc ms P) 73 = oIst 3 74 := rfl
theorem lX10_intAt_74 : lk (tX10_intAt d mc ms P) 74 = oAld 0 75 := rfl
theorem lX10_intAt_75 : lk (tX10_intAt d mc ms P) 75 = oIld 1 76 := rfl
theorem lX10_intAt_76 : lk (tX10_intAt d mc ms P) 76 = oCallV d mc ms P 0 0 yX10_intAt (Cond.code yX10_intAt cX10_intAt 6 (some .int)) 1 10 79 := rfl
theorem lX10_intAt_79 : lk (tX10_intAt d mc ms P) 79 = oIst 4 81 := rfl
theorem lX10_intAt_81 : lk (tX10_intAt d mc ms P) 81 = oIld 2 82 := rfl
set_option maxRecDepth 20000 in
theorem lX10_intAt_82 : lk (tX10_intAt d mc ms P) 82 = oPush (.int 308) 85 := rfl
set_option maxRecDepth 20000 in
theorem lX10_intAt_85 : lk (tX10_intAt d mc ms P) 85 = oIc (fun x y => y ≤ x) 100 88 := rfl
set_option maxRecDepth 20000 in
theorem lX10_intAt_88 : lk (tX10_intAt d mc ms P) 88 = oIld 2 89 := rfl
set_option maxRecDepth 20000 in
theorem lX10_intAt_89 : lk (tX10_intAt d mc ms P) 89 = oPush (.int 300) 92 := rfl
set_option maxRecDepth 20000 in
theorem lX10_intAt_92 : lk (tX10_intAt d mc ms P) 92 = oI2 (fun x y => x - y) 93 := rfl
set_option maxRecDepth 20000 in
theorem lX10_intAt_93 : lk (tX10_intAt d mc ms P) 93 = oIld 3 94 := rfl
set_option maxRecDepth 20000 in
theorem lX10_intAt_94 : lk (tX10_intAt d mc ms P) 94 = oIld 4 96 := rfl
set_option maxRecDepth 20000 in
theorem lX10_intAt_96 : lk (tX10_intAt d mc ms P) 96 = oCallS d mc ms P 0 0 yX10_intBy (Cond.code yX10_intBy cX10_intBy 3 (some .int)) 3 99 := rfl
set_option maxRecDepth 20000 in
theorem lX10_intAt_99 : lk (tX10_intAt d mc ms P) 99 = oRetI mc ms P := rfl
set_option maxRecDepth 20000 in
theorem lX10_intAt_100 : lk (tX10_intAt d mc ms P) 100 = oAld 0 101 := rfl
set_option maxRecDepth 20000 in
theorem lX10_intAt_101 : lk (tX10_intAt d mc ms P) 101 = oIld 1 102 := rfl
set_option maxRecDepth 20000 in
theorem lX10_intAt_102 : lk (tX10_intAt d mc ms P) 102 = oCallV d mc ms P 0 0 yX10_intAt (Cond.code yX10_intAt cX10_intAt 6 (some .int)) 1 10 105 := rfl
set_option maxRecDepth 20000 in
theorem lX10_intAt_105 : lk (tX10_intAt d mc ms P) 105 = oIst 5 107 := rfl
set_option maxRecDepth 20000 in
theorem lX10_intAt_107 : lk (tX10_intAt d mc ms P) 107 = oIld 3 108 := rfl
set_option maxRecDepth 20000 in
theorem lX10_intAt_108 : lk (tX10_intAt d mc ms P) 108 = oIf (fun x => x ≤ 0) 116 111 := rfl
set_option maxRecDepth 20000 in
theorem lX10_intAt_111 : lk (tX10_intAt d mc ms P) 111 = oIld 4 113 := rfl
set_option maxRecDepth 20000 in
theorem lX10_intAt_113 : lk (tX10_intAt d mc ms P) 113 = oGoto 118 := rfl
set_option maxRecDepth 20000 in
theorem lX10_intAt_116 : lk (tX10_intAt d mc ms P) 116 = oIld 5 118 := rfl
set_option maxRecDepth 20000 in
theorem lX10_intAt_118 : lk (tX10_intAt d mc ms P) 118 = oRetI mc ms P := rfl
theorem lX10_floatAt_0 : lk (tX10_floatAt d mc ms P) 0 = oAld 0 1 := rfl
theorem lX10_floatAt_1 : lk (tX10_floatAt d mc ms P) 1 = oGr 10 1 4 := rfl
theorem lX10_floatAt_4 : lk (tX10_floatAt d mc ms P) 4 = oAld 0 5 := rfl
theorem lX10_floatAt_5 : lk (tX10_floatAt d mc ms P) 5 = oDup 6 := rfl
theorem lX10_floatAt_6 : lk (tX10_floatAt d mc ms P) 6 = oGi 10 24 9 := rfl
theorem lX10_floatAt_9 : lk (tX10_floatAt d mc ms P) 9 = oDupx1 10 := rfl
theorem lX10_floatAt_10 : lk (tX10_floatAt d mc ms P) 10 = oPush (.int 1) 11 := rfl
theorem lX10_floatAt_11 : lk (tX10_floatAt d mc ms P) 11 = oI2 (fun x y => x + y) 12 := rfl
theorem lX10_floatAt_12 : lk (tX10_floatAt d mc ms P) 12 = oPi 10 24 15 := rfl
theorem lX10_floatAt_15 : lk (tX10_floatAt d mc ms P) 15 = oAi 100 16 := rfl
theorem lX10_floatAt_16 : lk (tX10_floatAt d mc ms P) 16 = oIst 2 17 := rfl
theorem lX10_floatAt_17 : lk (tX10_floatAt d mc ms P) 17 = oIld 2 18 := rfl
theorem lX10_floatAt_18 : lk (tX10_floatAt d mc ms P) 18 = oPush (.int 100) 20 := rfl
theorem lX10_floatAt_20 : lk (tX10_floatAt d mc ms P) 20 = oIc (fun x y => y ≤ x) 26 23 := rfl
theorem lX10_floatAt_23 : lk (tX10_floatAt d mc ms P) 23 = oIld 2 24 := rfl
theorem lX10_floatAt_24 : lk (tX10_floatAt d mc ms P) 24 = oIcv (fun x => .float (FP.i2f x)) 25 := rfl
theorem lX10_floatAt_25 : lk (tX10_floatAt d mc ms P) 25 = oRetF mc ms P := rfl
theorem lX10_floatAt_26 : lk (tX10_floatAt d mc ms P) 26 = oIld 2 27 := rfl
theorem lX10_floatAt_27 : lk (tX10_floatAt d mc ms P) 27 = oPush (.int 200) 30 := rfl
theorem lX10_floatAt_30 : lk (tX10_floatAt d mc ms P) 30 = oIc (fun x y => y ≤ x) 43 33 := rfl
theorem lX10_floatAt_33 : lk (tX10_floatAt d mc ms P) 33 = oAld 0 34 := rfl
theorem lX10_floatAt_34 : lk (tX10_floatAt d mc ms P) 34 = oGr 10 26 37 := rfl
theorem lX10_floatAt_37 : lk (tX10_floatAt d mc ms P) 37 = oIld 2 38 := rfl
theorem lX10_floatAt_38 : lk (tX10_floatAt d mc ms P) 38 = oPush (.int 100) 40 := rfl
theorem lX10_floatAt_40 : lk (tX10_floatAt d mc ms P) 40 = oI2 (fun x y => x - y) 41 := rfl
theorem lX10_floatAt_41 : lk (tX10_floatAt d mc ms P) 41 = oAf 42 := rfl
theorem lX10_floatAt_42 : lk (tX10_floatAt d mc ms P) 42 = oRetF mc ms P := rfl
theorem lX10_floatAt_43 : lk (tX10_floatAt d mc ms P) 43 = oIld 2 44 := rfl
theorem lX10_floatAt_44 : lk (tX10_floatAt d mc ms P) 44 = oPush (.int 300) 47 := rfl
theorem lX10_floatAt_47 : lk (tX10_floatAt d mc ms P) 47 = oIc (fun x y => y ≤ x) 70 50 := rfl
theorem lX10_floatAt_50 : lk (tX10_floatAt d mc ms P) 50 = oAld 0 51 := rfl
theorem lX10_floatAt_51 : lk (tX10_floatAt d mc ms P) 51 = oGr 10 1 54 := rfl
theorem lX10_floatAt_54 : lk (tX10_floatAt d mc ms P) 54 = oPush (.int 19) 56 := rfl
theorem lX10_floatAt_56 : lk (tX10_floatAt d mc ms P) 56 = oPush (.int 16) 58 := rfl
theorem lX10_floatAt_58 : lk (tX10_floatAt d mc ms P) 58 = oIld 2 59 := rfl
theorem lX10_floatAt_59 : lk (tX10_floatAt d mc ms P) 59 = oPush (.int 200) 62 := rfl
theorem lX10_floatAt_62 : lk (tX10_floatAt d mc ms P) 62 = oI2 (fun x y => x - y) 63 := rfl
theorem lX10_floatAt_63 : lk (tX10_floatAt d mc ms P) 63 = oI2 (fun x y => x * y) 64 := rfl
theorem lX10_floatAt_64 : lk (tX10_floatAt d mc ms P) 64 = oI2 (fun x y => x + y) 65 := rfl
theorem lX10_floatAt_65 : lk (tX10_floatAt d mc ms P) 65 = oIld 1 66 := rfl
theorem lX10_floatAt_66 : lk (tX10_floatAt d mc ms P) 66 = oI2 (fun x y => x + y) 67 := rfl
theorem lX10_floatAt_67 : lk (tX10_floatAt d mc ms P) 67 = oAi 100 68 := rfl
theorem lX10_floatAt_68 : lk (tX10_floatAt d mc ms P) 68 = oIcv (fun x => .float (FP.i2f x)) 69 := rfl
theorem lX10_floatAt_69 : lk (tX10_floatAt d mc ms P) 69 = oRetF mc ms P := rfl
theorem lX10_floatAt_70 : lk (tX10_floatAt d mc ms P) 70 = oAld 0 71 := rfl
theorem lX10_floatAt_71 : lk (tX10_floatAt d mc ms P) 71 = oIld 1 72 := rfl
theorem lX10_floatAt_72 : lk (tX10_floatAt d mc ms P) 72 = oCallV d mc ms P 0 0 yX10_floatAt (Cond.code yX10_floatAt cX10_floatAt 6 (some .float)) 1 10 75 := rfl
theorem lX10_floatAt_75 : lk (tX10_floatAt d mc ms P) 75 = oFst 3 76 := rfl
theorem lX10_floatAt_76 : lk (tX10_floatAt d mc ms P) 76 = oAld 0 77 := rfl
theorem lX10_floatAt_77 : lk (tX10_floatAt d mc ms P) 77 = oIld 1 78 := rfl
theorem lX10_floatAt_78 : lk (tX10_floatAt d mc ms P) 78 = oCallV d mc ms P 0 0 yX10_floatAt (Cond.code yX10_floatAt cX10_floatAt 6 (some .float)) 1 10 81 := rfl
set_option maxRecDepth 20000 in
theorem lX10_floatAt_81 : lk (tX10_floatAt d mc ms P) 81 = oFst 4 83 := rfl
set_option maxRecDepth 20000 in
theorem lX10_floatAt_83 : lk (tX10_floatAt d mc ms P) 83 = oIld 2 84 := rfl
set_option maxRecDepth 20000 in
theorem lX10_floatAt_84 : lk (tX10_floatAt d mc ms P) 84 = oPush (.int 308) 87 := rfl
set_option maxRecDepth 20000 in
theorem lX10_floatAt_87 : lk (tX10_floatAt d mc ms P) 87 = oIc (fun x y => y ≤ x) 102 90 := rfl
set_option maxRecDepth 20000 in
theorem lX10_floatAt_90 : lk (tX10_floatAt d mc ms P) 90 = oIld 2 91 := rfl
set_option maxRecDepth 20000 in
theorem lX10_floatAt_91 : lk (tX10_floatAt d mc ms P) 91 = oPush (.int 300) 94 := rfl
set_option maxRecDepth 20000 in
theorem lX10_floatAt_94 : lk (tX10_floatAt d mc ms P) 94 = oI2 (fun x y => x - y) 95 := rfl
set_option maxRecDepth 20000 in
theorem lX10_floatAt_95 : lk (tX10_floatAt d mc ms P) 95 = oFld 3 96 := rfl
set_option maxRecDepth 20000 in
theorem lX10_floatAt_96 : lk (tX10_floatAt d mc ms P) 96 = oFld 4 98 := rfl
set_option maxRecDepth 20000 in
theorem lX10_floatAt_98 : lk (tX10_floatAt d mc ms P) 98 = oCallS d mc ms P 0 0 yX10_floatBy (Cond.code yX10_floatBy cX10_floatBy 3 (some .float)) 3 101 := rfl
set_option maxRecDepth 20000 in
theorem lX10_floatAt_101 : lk (tX10_floatAt d mc ms P) 101 = oRetF mc ms P := rfl
set_option maxRecDepth 20000 in
theorem lX10_floatAt_102 : lk (tX10_floatAt d mc ms P) 102 = oAld 0 103 := rfl
set_option maxRecDepth 20000 in
theorem lX10_floatAt_103 : lk (tX10_floatAt d mc ms P) 103 = oIld 1 104 := rfl
set_option maxRecDepth 20000 in
theorem lX10_floatAt_104 : lk (tX10_floatAt d mc ms P) 104 = oCallV d mc ms P 0 0 yX10_floatAt (Cond.code yX10_floatAt cX10_floatAt 6 (some .float)) 1 10 107 := rfl
set_option maxRecDepth 20000 in
theorem lX10_floatAt_107 : lk (tX10_floatAt d mc ms P) 107 = oFst 5 109 := rfl
set_option maxRecDepth 20000 in
theorem lX10_floatAt_109 : lk (tX10_floatAt d mc ms P) 109 = oFld 3 110 := rfl
set_option maxRecDepth 20000 in
theorem lX10_floatAt_110 : lk (tX10_floatAt d mc ms P) 110 = oPush (.float FP.fconst0) 111 := rfl
set_option maxRecDepth 20000 in
theorem lX10_floatAt_111 : lk (tX10_floatAt d mc ms P) 111 = oFcmp .l 112 := rfl
set_option maxRecDepth 20000 in
theorem lX10_floatAt_112 : lk (tX10_floatAt d mc ms P) 112 = oIf (fun x => x ≤ 0) 120 115 := rfl
set_option maxRecDepth 20000 in
theorem lX10_floatAt_115 : lk (tX10_floatAt d mc ms P) 115 = oFld 4 117 := rfl
set_option maxRecDepth 20000 in
theorem lX10_floatAt_117 : lk (tX10_floatAt d mc ms P) 117 = oGoto 122 := rfl
set_option maxRecDepth 20000 in
theorem lX10_floatAt_120 : lk (tX10_floatAt d mc ms P) 120 = oFld 5 122 := rfl
set_option maxRecDepth 20000 in
theorem lX10_floatAt_122 : lk (tX10_floatAt d mc ms P) 122 = oRetF mc ms P := rfl
theorem lX10_runs_0 : lk (tX10_runs d mc ms P) 0 = oPush (.int 0) 1 := rfl
theorem lX10_runs_1 : lk (tX10_runs d mc ms P) 1 = oIst 2 2 := rfl
theorem lX10_runs_2 : lk (tX10_runs d mc ms P) 2 = oIld 2 3 := rfl
theorem lX10_runs_3 : lk (tX10_runs d mc ms P) 3 = oAld 0 4 := rfl
theorem lX10_runs_4 : lk (tX10_runs d mc ms P) 4 = oGr 10 1 7 := rfl
theorem lX10_runs_7 : lk (tX10_runs d mc ms P) 7 = oPush (.int 0) 8 := rfl
theorem lX10_runs_8 : lk (tX10_runs d mc ms P) 8 = oAi 100 9 := rfl
theorem lX10_runs_9 : lk (tX10_runs d mc ms P) 9 = oIc (fun x y => y ≤ x) 74 12 := rfl
theorem lX10_runs_12 : lk (tX10_runs d mc ms P) 12 = oAld 0 13 := rfl
theorem lX10_runs_13 : lk (tX10_runs d mc ms P) 13 = oIld 2 14 := rfl
theorem lX10_runs_14 : lk (tX10_runs d mc ms P) 14 = oCallS d mc ms P 0 0 yX10_code (Cond.code yX10_code cX10_code 1 (some .int)) 1 17 := rfl
theorem lX10_runs_17 : lk (tX10_runs d mc ms P) 17 = oPi 10 24 20 := rfl
theorem lX10_runs_20 : lk (tX10_runs d mc ms P) 20 = oAld 0 21 := rfl
theorem lX10_runs_21 : lk (tX10_runs d mc ms P) 21 = oGr 10 1 24 := rfl
theorem lX10_runs_24 : lk (tX10_runs d mc ms P) 24 = oPush (.int 1) 25 := rfl
theorem lX10_runs_25 : lk (tX10_runs d mc ms P) 25 = oAi 100 26 := rfl
theorem lX10_runs_26 : lk (tX10_runs d mc ms P) 26 = oIf (fun x => x = 0) 29 50 := rfl
theorem lX10_runs_29 : lk (tX10_runs d mc ms P) 29 = oAld 0 30 := rfl
theorem lX10_runs_30 : lk (tX10_runs d mc ms P) 30 = oGr 10 25 33 := rfl
theorem lX10_runs_33 : lk (tX10_runs d mc ms P) 33 = oAld 0 34 := rfl
theorem lX10_runs_34 : lk (tX10_runs d mc ms P) 34 = oGr 10 1 37 := rfl
theorem lX10_runs_37 : lk (tX10_runs d mc ms P) 37 = oPush (.int 3) 38 := rfl
theorem lX10_runs_38 : lk (tX10_runs d mc ms P) 38 = oIld 2 39 := rfl
theorem lX10_runs_39 : lk (tX10_runs d mc ms P) 39 = oI2 (fun x y => x + y) 40 := rfl
theorem lX10_runs_40 : lk (tX10_runs d mc ms P) 40 = oAi 100 41 := rfl
theorem lX10_runs_41 : lk (tX10_runs d mc ms P) 41 = oAld 0 42 := rfl
theorem lX10_runs_42 : lk (tX10_runs d mc ms P) 42 = oIld 1 43 := rfl
theorem lX10_runs_43 : lk (tX10_runs d mc ms P) 43 = oCallV d mc ms P 0 0 yX10_intAt (Cond.code yX10_intAt cX10_intAt 6 (some .int)) 1 10 46 := rfl
theorem lX10_runs_46 : lk (tX10_runs d mc ms P) 46 = oSi 100 (fun x => x) 47 := rfl
theorem lX10_runs_47 : lk (tX10_runs d mc ms P) 47 = oGoto 68 := rfl
theorem lX10_runs_50 : lk (tX10_runs d mc ms P) 50 = oAld 0 51 := rfl
theorem lX10_runs_51 : lk (tX10_runs d mc ms P) 51 = oGr 10 26 54 := rfl
theorem lX10_runs_54 : lk (tX10_runs d mc ms P) 54 = oAld 0 55 := rfl
theorem lX10_runs_55 : lk (tX10_runs d mc ms P) 55 = oGr 10 1 58 := rfl
theorem lX10_runs_58 : lk (tX10_runs d mc ms P) 58 = oPush (.int 3) 59 := rfl
theorem lX10_runs_59 : lk (tX10_runs d mc ms P) 59 = oIld 2 60 := rfl
theorem lX10_runs_60 : lk (tX10_runs d mc ms P) 60 = oI2 (fun x y => x + y) 61 := rfl
theorem lX10_runs_61 : lk (tX10_runs d mc ms P) 61 = oAi 100 62 := rfl
theorem lX10_runs_62 : lk (tX10_runs d mc ms P) 62 = oAld 0 63 := rfl
theorem lX10_runs_63 : lk (tX10_runs d mc ms P) 63 = oIld 1 64 := rfl
theorem lX10_runs_64 : lk (tX10_runs d mc ms P) 64 = oCallV d mc ms P 0 0 yX10_floatAt (Cond.code yX10_floatAt cX10_floatAt 6 (some .float)) 1 10 67 := rfl
theorem lX10_runs_67 : lk (tX10_runs d mc ms P) 67 = oSf 68 := rfl
theorem lX10_runs_68 : lk (tX10_runs d mc ms P) 68 = oInc 2 1 71 := rfl
theorem lX10_runs_71 : lk (tX10_runs d mc ms P) 71 = oGoto 2 := rfl
theorem lX10_runs_74 : lk (tX10_runs d mc ms P) 74 = oRetV mc ms P := rfl
theorem lX10_begins_0 : lk (tX10_begins d mc ms P) 0 = oPush (.int 0) 1 := rfl
theorem lX10_begins_1 : lk (tX10_begins d mc ms P) 1 = oIst 1 2 := rfl
theorem lX10_begins_2 : lk (tX10_begins d mc ms P) 2 = oIld 1 3 := rfl
theorem lX10_begins_3 : lk (tX10_begins d mc ms P) 3 = oPush (.int 8) 5 := rfl
theorem lX10_begins_5 : lk (tX10_begins d mc ms P) 5 = oIc (fun x y => y ≤ x) 45 8 := rfl
theorem lX10_begins_8 : lk (tX10_begins d mc ms P) 8 = oAld 0 9 := rfl
theorem lX10_begins_9 : lk (tX10_begins d mc ms P) 9 = oGr 10 25 12 := rfl
theorem lX10_begins_12 : lk (tX10_begins d mc ms P) 12 = oIld 1 13 := rfl
theorem lX10_begins_13 : lk (tX10_begins d mc ms P) 13 = oAld 0 14 := rfl
theorem lX10_begins_14 : lk (tX10_begins d mc ms P) 14 = oGr 10 1 17 := rfl
theorem lX10_begins_17 : lk (tX10_begins d mc ms P) 17 = oPush (.int 67) 19 := rfl
theorem lX10_begins_19 : lk (tX10_begins d mc ms P) 19 = oIld 1 20 := rfl
theorem lX10_begins_20 : lk (tX10_begins d mc ms P) 20 = oI2 (fun x y => x + y) 21 := rfl
theorem lX10_begins_21 : lk (tX10_begins d mc ms P) 21 = oAi 100 22 := rfl
theorem lX10_begins_22 : lk (tX10_begins d mc ms P) 22 = oSi 100 (fun x => x) 23 := rfl
theorem lX10_begins_23 : lk (tX10_begins d mc ms P) 23 = oAld 0 24 := rfl
theorem lX10_begins_24 : lk (tX10_begins d mc ms P) 24 = oGr 10 26 27 := rfl
theorem lX10_begins_27 : lk (tX10_begins d mc ms P) 27 = oIld 1 28 := rfl
theorem lX10_begins_28 : lk (tX10_begins d mc ms P) 28 = oAld 0 29 := rfl
theorem lX10_begins_29 : lk (tX10_begins d mc ms P) 29 = oGr 10 1 32 := rfl
theorem lX10_begins_32 : lk (tX10_begins d mc ms P) 32 = oPush (.int 67) 34 := rfl
theorem lX10_begins_34 : lk (tX10_begins d mc ms P) 34 = oIld 1 35 := rfl
theorem lX10_begins_35 : lk (tX10_begins d mc ms P) 35 = oI2 (fun x y => x + y) 36 := rfl
theorem lX10_begins_36 : lk (tX10_begins d mc ms P) 36 = oAi 100 37 := rfl
theorem lX10_begins_37 : lk (tX10_begins d mc ms P) 37 = oIcv (fun x => .float (FP.i2f x)) 38 := rfl
theorem lX10_begins_38 : lk (tX10_begins d mc ms P) 38 = oSf 39 := rfl
theorem lX10_begins_39 : lk (tX10_begins d mc ms P) 39 = oInc 1 1 42 := rfl
theorem lX10_begins_42 : lk (tX10_begins d mc ms P) 42 = oGoto 2 := rfl
theorem lX10_begins_45 : lk (tX10_begins d mc ms P) 45 = oRetV mc ms P := rfl
theorem lX10_beginsPart_0 : lk (tX10_beginsPart d mc ms P) 0 = oAld 0 1 := rfl
theorem lX10_beginsPart_1 : lk (tX10_beginsPart d mc ms P) 1 = oCallV d mc ms P 0 0 yX10_begins (Cond.code yX10_begins cX10_begins 2 none) 0 10 4 := rfl
theorem lX10_beginsPart_4 : lk (tX10_beginsPart d mc ms P) 4 = oPush (.int 0) 5 := rfl
theorem lX10_beginsPart_5 : lk (tX10_beginsPart d mc ms P) 5 = oIst 1 6 := rfl
theorem lX10_beginsPart_6 : lk (tX10_beginsPart d mc ms P) 6 = oIld 1 7 := rfl
theorem lX10_beginsPart_7 : lk (tX10_beginsPart d mc ms P) 7 = oPush (.int 8) 9 := rfl
theorem lX10_beginsPart_9 : lk (tX10_beginsPart d mc ms P) 9 = oIc (fun x y => y ≤ x) 120 12 := rfl
theorem lX10_beginsPart_12 : lk (tX10_beginsPart d mc ms P) 12 = oAld 0 13 := rfl
theorem lX10_beginsPart_13 : lk (tX10_beginsPart d mc ms P) 13 = oIld 1 14 := rfl
theorem lX10_beginsPart_14 : lk (tX10_beginsPart d mc ms P) 14 = oCallV d mc ms P 0 0 yX10_isReduction (Cond.code yX10_isReduction cX10_isReduction 2 (some .boolean)) 1 10 17 := rfl
theorem lX10_beginsPart_17 : lk (tX10_beginsPart d mc ms P) 17 = oIf (fun x => x = 0) 20 23 := rfl
theorem lX10_beginsPart_20 : lk (tX10_beginsPart d mc ms P) 20 = oGoto 114 := rfl
theorem lX10_beginsPart_23 : lk (tX10_beginsPart d mc ms P) 23 = oAld 0 24 := rfl
theorem lX10_beginsPart_24 : lk (tX10_beginsPart d mc ms P) 24 = oIld 1 25 := rfl
theorem lX10_beginsPart_25 : lk (tX10_beginsPart d mc ms P) 25 = oCallV d mc ms P 0 0 yX10_operatorOf (Cond.code yX10_operatorOf cX10_operatorOf 3 (some .int)) 1 10 28 := rfl
theorem lX10_beginsPart_28 : lk (tX10_beginsPart d mc ms P) 28 = oIst 2 29 := rfl
theorem lX10_beginsPart_29 : lk (tX10_beginsPart d mc ms P) 29 = oAld 0 30 := rfl
theorem lX10_beginsPart_30 : lk (tX10_beginsPart d mc ms P) 30 = oGr 10 25 33 := rfl
theorem lX10_beginsPart_33 : lk (tX10_beginsPart d mc ms P) 33 = oIld 1 34 := rfl
theorem lX10_beginsPart_34 : lk (tX10_beginsPart d mc ms P) 34 = oIld 2 35 := rfl
theorem lX10_beginsPart_35 : lk (tX10_beginsPart d mc ms P) 35 = oPush (.int 1) 36 := rfl
theorem lX10_beginsPart_36 : lk (tX10_beginsPart d mc ms P) 36 = oIc (fun x y => x = y) 39 43 := rfl
theorem lX10_beginsPart_39 : lk (tX10_beginsPart d mc ms P) 39 = oPush (.int 1) 40 := rfl
theorem lX10_beginsPart_40 : lk (tX10_beginsPart d mc ms P) 40 = oGoto 76 := rfl
theorem lX10_beginsPart_43 : lk (tX10_beginsPart d mc ms P) 43 = oIld 2 44 := rfl
theorem lX10_beginsPart_44 : lk (tX10_beginsPart d mc ms P) 44 = oPush (.int 2) 45 := rfl
theorem lX10_beginsPart_45 : lk (tX10_beginsPart d mc ms P) 45 = oIc (fun x y => x = y) 48 52 := rfl
theorem lX10_beginsPart_48 : lk (tX10_beginsPart d mc ms P) 48 = oPush (.int (-1)) 49 := rfl
theorem lX10_beginsPart_49 : lk (tX10_beginsPart d mc ms P) 49 = oGoto 76 := rfl
theorem lX10_beginsPart_52 : lk (tX10_beginsPart d mc ms P) 52 = oIld 2 53 := rfl
theorem lX10_beginsPart_53 : lk (tX10_beginsPart d mc ms P) 53 = oPush (.int 5) 54 := rfl
theorem lX10_beginsPart_54 : lk (tX10_beginsPart d mc ms P) 54 = oIc (fun x y => x = y) 57 63 := rfl
theorem lX10_beginsPart_57 : lk (tX10_beginsPart d mc ms P) 57 = oPush (.int 2147483647) 60 := rfl
theorem lX10_beginsPart_60 : lk (tX10_beginsPart d mc ms P) 60 = oGoto 76 := rfl
theorem lX10_beginsPart_63 : lk (tX10_beginsPart d mc ms P) 63 = oIld 2 64 := rfl
theorem lX10_beginsPart_64 : lk (tX10_beginsPart d mc ms P) 64 = oPush (.int 6) 66 := rfl
theorem lX10_beginsPart_66 : lk (tX10_beginsPart d mc ms P) 66 = oIc (fun x y => x = y) 69 75 := rfl
theorem lX10_beginsPart_69 : lk (tX10_beginsPart d mc ms P) 69 = oPush (.int (-2147483648)) 72 := rfl
theorem lX10_beginsPart_72 : lk (tX10_beginsPart d mc ms P) 72 = oGoto 76 := rfl
theorem lX10_beginsPart_75 : lk (tX10_beginsPart d mc ms P) 75 = oPush (.int 0) 76 := rfl
theorem lX10_beginsPart_76 : lk (tX10_beginsPart d mc ms P) 76 = oSi 100 (fun x => x) 77 := rfl
theorem lX10_beginsPart_77 : lk (tX10_beginsPart d mc ms P) 77 = oAld 0 78 := rfl
theorem lX10_beginsPart_78 : lk (tX10_beginsPart d mc ms P) 78 = oGr 10 26 81 := rfl
theorem lX10_beginsPart_81 : lk (tX10_beginsPart d mc ms P) 81 = oIld 1 82 := rfl
theorem lX10_beginsPart_82 : lk (tX10_beginsPart d mc ms P) 82 = oIld 2 83 := rfl
theorem lX10_beginsPart_83 : lk (tX10_beginsPart d mc ms P) 83 = oPush (.int 1) 84 := rfl
theorem lX10_beginsPart_84 : lk (tX10_beginsPart d mc ms P) 84 = oIc (fun x y => x = y) 87 91 := rfl
theorem lX10_beginsPart_87 : lk (tX10_beginsPart d mc ms P) 87 = oPush (.float FP.fconst1) 88 := rfl
theorem lX10_beginsPart_88 : lk (tX10_beginsPart d mc ms P) 88 = oGoto 113 := rfl
theorem lX10_beginsPart_91 : lk (tX10_beginsPart d mc ms P) 91 = oIld 2 92 := rfl
theorem lX10_beginsPart_92 : lk (tX10_beginsPart d mc ms P) 92 = oPush (.int 5) 93 := rfl
set_option maxRecDepth 20000 in
theorem lX10_beginsPart_93 : lk (tX10_beginsPart d mc ms P) 93 = oIc (fun x y => x = y) 96 101 := rfl
set_option maxRecDepth 20000 in
theorem lX10_beginsPart_96 : lk (tX10_beginsPart d mc ms P) 96 = oPush (.float 1900671690) 98 := rfl
set_option maxRecDepth 20000 in
theorem lX10_beginsPart_98 : lk (tX10_beginsPart d mc ms P) 98 = oGoto 113 := rfl
set_option maxRecDepth 20000 in
theorem lX10_beginsPart_101 : lk (tX10_beginsPart d mc ms P) 101 = oIld 2 102 := rfl
set_option maxRecDepth 20000 in
theorem lX10_beginsPart_102 : lk (tX10_beginsPart d mc ms P) 102 = oPush (.int 6) 104 := rfl
set_option maxRecDepth 20000 in
theorem lX10_beginsPart_104 : lk (tX10_beginsPart d mc ms P) 104 = oIc (fun x y => x = y) 107 112 := rfl
set_option maxRecDepth 20000 in
theorem lX10_beginsPart_107 : lk (tX10_beginsPart d mc ms P) 107 = oPush (.float 4048155338) 109 := rfl
set_option maxRecDepth 20000 in
theorem lX10_beginsPart_109 : lk (tX10_beginsPart d mc ms P) 109 = oGoto 113 := rfl
set_option maxRecDepth 20000 in
theorem lX10_beginsPart_112 : lk (tX10_beginsPart d mc ms P) 112 = oPush (.float FP.fconst0) 113 := rfl
set_option maxRecDepth 20000 in
theorem lX10_beginsPart_113 : lk (tX10_beginsPart d mc ms P) 113 = oSf 114 := rfl
set_option maxRecDepth 20000 in
theorem lX10_beginsPart_114 : lk (tX10_beginsPart d mc ms P) 114 = oInc 1 1 117 := rfl
set_option maxRecDepth 20000 in
theorem lX10_beginsPart_117 : lk (tX10_beginsPart d mc ms P) 117 = oGoto 6 := rfl
set_option maxRecDepth 20000 in
theorem lX10_beginsPart_120 : lk (tX10_beginsPart d mc ms P) 120 = oRetV mc ms P := rfl
theorem lX10_parts_0 : lk (tX10_parts d mc ms P) 0 = oIld 1 1 := rfl
theorem lX10_parts_1 : lk (tX10_parts d mc ms P) 1 = oPush (.int 3) 2 := rfl
theorem lX10_parts_2 : lk (tX10_parts d mc ms P) 2 = oIc (fun x y => x = y) 5 14 := rfl
theorem lX10_parts_5 : lk (tX10_parts d mc ms P) 5 = oAld 0 6 := rfl
theorem lX10_parts_6 : lk (tX10_parts d mc ms P) 6 = oGr 10 1 9 := rfl
theorem lX10_parts_9 : lk (tX10_parts d mc ms P) 9 = oPush (.int 2) 10 := rfl
theorem lX10_parts_10 : lk (tX10_parts d mc ms P) 10 = oAi 100 11 := rfl
theorem lX10_parts_11 : lk (tX10_parts d mc ms P) 11 = oGoto 15 := rfl
theorem lX10_parts_14 : lk (tX10_parts d mc ms P) 14 = oIld 2 15 := rfl
theorem lX10_parts_15 : lk (tX10_parts d mc ms P) 15 = oRetI mc ms P := rfl
theorem lX10_share_0 : lk (tX10_share d mc ms P) 0 = oIld 0 1 := rfl
theorem lX10_share_1 : lk (tX10_share d mc ms P) 1 = oIld 1 2 := rfl
theorem lX10_share_2 : lk (tX10_share d mc ms P) 2 = oI2 (fun x y => x + y) 3 := rfl
theorem lX10_share_3 : lk (tX10_share d mc ms P) 3 = oPush (.int 1) 4 := rfl
theorem lX10_share_4 : lk (tX10_share d mc ms P) 4 = oI2 (fun x y => x - y) 5 := rfl
theorem lX10_share_5 : lk (tX10_share d mc ms P) 5 = oIld 1 6 := rfl
theorem lX10_share_6 : lk (tX10_share d mc ms P) 6 = oI2n (fun x y => x / y) 7 := rfl
theorem lX10_share_7 : lk (tX10_share d mc ms P) 7 = oRetI mc ms P := rfl
theorem lX10_partOf_0 : lk (tX10_partOf d mc ms P) 0 = oIld 1 1 := rfl
theorem lX10_partOf_1 : lk (tX10_partOf d mc ms P) 1 = oPush (.int 1) 2 := rfl
theorem lX10_partOf_2 : lk (tX10_partOf d mc ms P) 2 = oIc (fun x y => x = y) 5 11 := rfl
theorem lX10_partOf_5 : lk (tX10_partOf d mc ms P) 5 = oIld 3 6 := rfl
theorem lX10_partOf_6 : lk (tX10_partOf d mc ms P) 6 = oIld 2 7 := rfl
theorem lX10_partOf_7 : lk (tX10_partOf d mc ms P) 7 = oI2n (fun x y => x - x / y * y) 8 := rfl
theorem lX10_partOf_8 : lk (tX10_partOf d mc ms P) 8 = oGoto 32 := rfl
theorem lX10_partOf_11 : lk (tX10_partOf d mc ms P) 11 = oIld 1 12 := rfl
theorem lX10_partOf_12 : lk (tX10_partOf d mc ms P) 12 = oPush (.int 2) 13 := rfl
theorem lX10_partOf_13 : lk (tX10_partOf d mc ms P) 13 = oIc (fun x y => x = y) 16 31 := rfl
theorem lX10_partOf_16 : lk (tX10_partOf d mc ms P) 16 = oIld 3 17 := rfl
theorem lX10_partOf_17 : lk (tX10_partOf d mc ms P) 17 = oAld 0 18 := rfl
theorem lX10_partOf_18 : lk (tX10_partOf d mc ms P) 18 = oGr 10 1 21 := rfl
theorem lX10_partOf_21 : lk (tX10_partOf d mc ms P) 21 = oPush (.int 2) 22 := rfl
theorem lX10_partOf_22 : lk (tX10_partOf d mc ms P) 22 = oAi 100 23 := rfl
theorem lX10_partOf_23 : lk (tX10_partOf d mc ms P) 23 = oIld 2 24 := rfl
theorem lX10_partOf_24 : lk (tX10_partOf d mc ms P) 24 = oCallS d mc ms P 0 0 yX10_share (Cond.code yX10_share cX10_share 2 (some .int)) 2 27 := rfl
theorem lX10_partOf_27 : lk (tX10_partOf d mc ms P) 27 = oI2n (fun x y => x / y) 28 := rfl
theorem lX10_partOf_28 : lk (tX10_partOf d mc ms P) 28 = oGoto 32 := rfl
theorem lX10_partOf_31 : lk (tX10_partOf d mc ms P) 31 = oIld 3 32 := rfl
theorem lX10_partOf_32 : lk (tX10_partOf d mc ms P) 32 = oRetI mc ms P := rfl
theorem lX10_executes_0 : lk (tX10_executes d mc ms P) 0 = oAld 0 1 := rfl
theorem lX10_executes_1 : lk (tX10_executes d mc ms P) 1 = oCallV d mc ms P 0 0 yX10_begins (Cond.code yX10_begins cX10_begins 2 none) 0 10 4 := rfl
theorem lX10_executes_4 : lk (tX10_executes d mc ms P) 4 = oAld 0 5 := rfl
theorem lX10_executes_5 : lk (tX10_executes d mc ms P) 5 = oGr 10 1 8 := rfl
theorem lX10_executes_8 : lk (tX10_executes d mc ms P) 8 = oPush (.int 2) 9 := rfl
theorem lX10_executes_9 : lk (tX10_executes d mc ms P) 9 = oAi 100 10 := rfl
theorem lX10_executes_10 : lk (tX10_executes d mc ms P) 10 = oIst 3 11 := rfl
theorem lX10_executes_11 : lk (tX10_executes d mc ms P) 11 = oPush (.int 0) 12 := rfl
theorem lX10_executes_12 : lk (tX10_executes d mc ms P) 12 = oIst 4 14 := rfl
theorem lX10_executes_14 : lk (tX10_executes d mc ms P) 14 = oIld 4 16 := rfl
theorem lX10_executes_16 : lk (tX10_executes d mc ms P) 16 = oIld 3 17 := rfl
theorem lX10_executes_17 : lk (tX10_executes d mc ms P) 17 = oIc (fun x y => y ≤ x) 36 20 := rfl
theorem lX10_executes_20 : lk (tX10_executes d mc ms P) 20 = oIld 1 21 := rfl
theorem lX10_executes_21 : lk (tX10_executes d mc ms P) 21 = oIf (fun x => x = 0) 24 36 := rfl
theorem lX10_executes_24 : lk (tX10_executes d mc ms P) 24 = oAld 0 25 := rfl
theorem lX10_executes_25 : lk (tX10_executes d mc ms P) 25 = oIld 4 27 := rfl
theorem lX10_executes_27 : lk (tX10_executes d mc ms P) 27 = oCallV d mc ms P 0 0 yX10_runs (Cond.code yX10_runs cX10_runs 3 none) 1 10 30 := rfl
theorem lX10_executes_30 : lk (tX10_executes d mc ms P) 30 = oInc 4 1 33 := rfl
theorem lX10_executes_33 : lk (tX10_executes d mc ms P) 33 = oGoto 14 := rfl
theorem lX10_executes_36 : lk (tX10_executes d mc ms P) 36 = oIld 1 37 := rfl
theorem lX10_executes_37 : lk (tX10_executes d mc ms P) 37 = oIf (fun x => x = 0) 44 40 := rfl
theorem lX10_executes_40 : lk (tX10_executes d mc ms P) 40 = oIld 3 41 := rfl
theorem lX10_executes_41 : lk (tX10_executes d mc ms P) 41 = oIf (fun x => x = 0) 44 45 := rfl
theorem lX10_executes_44 : lk (tX10_executes d mc ms P) 44 = oRetV mc ms P := rfl
theorem lX10_executes_45 : lk (tX10_executes d mc ms P) 45 = oAld 0 46 := rfl
theorem lX10_executes_46 : lk (tX10_executes d mc ms P) 46 = oIld 3 47 := rfl
theorem lX10_executes_47 : lk (tX10_executes d mc ms P) 47 = oPush (.int 1) 48 := rfl
theorem lX10_executes_48 : lk (tX10_executes d mc ms P) 48 = oI2 (fun x y => x - y) 49 := rfl
theorem lX10_executes_49 : lk (tX10_executes d mc ms P) 49 = oCallV d mc ms P 0 0 yX10_runs (Cond.code yX10_runs cX10_runs 3 none) 1 10 52 := rfl
theorem lX10_executes_52 : lk (tX10_executes d mc ms P) 52 = oPush (.int 0) 53 := rfl
theorem lX10_executes_53 : lk (tX10_executes d mc ms P) 53 = oIst 4 55 := rfl
theorem lX10_executes_55 : lk (tX10_executes d mc ms P) 55 = oIld 4 57 := rfl
theorem lX10_executes_57 : lk (tX10_executes d mc ms P) 57 = oPush (.int 8) 59 := rfl
theorem lX10_executes_59 : lk (tX10_executes d mc ms P) 59 = oIc (fun x y => y ≤ x) 96 62 := rfl
theorem lX10_executes_62 : lk (tX10_executes d mc ms P) 62 = oAld 0 63 := rfl
theorem lX10_executes_63 : lk (tX10_executes d mc ms P) 63 = oGr 10 30 66 := rfl
theorem lX10_executes_66 : lk (tX10_executes d mc ms P) 66 = oIld 4 68 := rfl
theorem lX10_executes_68 : lk (tX10_executes d mc ms P) 68 = oAld 0 69 := rfl
theorem lX10_executes_69 : lk (tX10_executes d mc ms P) 69 = oGr 10 25 72 := rfl
theorem lX10_executes_72 : lk (tX10_executes d mc ms P) 72 = oIld 4 74 := rfl
theorem lX10_executes_74 : lk (tX10_executes d mc ms P) 74 = oAi 100 75 := rfl
theorem lX10_executes_75 : lk (tX10_executes d mc ms P) 75 = oSi 100 (fun x => x) 76 := rfl
theorem lX10_executes_76 : lk (tX10_executes d mc ms P) 76 = oAld 0 77 := rfl
theorem lX10_executes_77 : lk (tX10_executes d mc ms P) 77 = oGr 10 31 80 := rfl
theorem lX10_executes_80 : lk (tX10_executes d mc ms P) 80 = oIld 4 82 := rfl
theorem lX10_executes_82 : lk (tX10_executes d mc ms P) 82 = oAld 0 83 := rfl
theorem lX10_executes_83 : lk (tX10_executes d mc ms P) 83 = oGr 10 26 86 := rfl
theorem lX10_executes_86 : lk (tX10_executes d mc ms P) 86 = oIld 4 88 := rfl
theorem lX10_executes_88 : lk (tX10_executes d mc ms P) 88 = oAf 89 := rfl
theorem lX10_executes_89 : lk (tX10_executes d mc ms P) 89 = oSf 90 := rfl
theorem lX10_executes_90 : lk (tX10_executes d mc ms P) 90 = oInc 4 1 93 := rfl
set_option maxRecDepth 20000 in
theorem lX10_executes_93 : lk (tX10_executes d mc ms P) 93 = oGoto 55 := rfl
set_option maxRecDepth 20000 in
theorem lX10_executes_96 : lk (tX10_executes d mc ms P) 96 = oPush (.int 0) 97 := rfl
set_option maxRecDepth 20000 in
theorem lX10_executes_97 : lk (tX10_executes d mc ms P) 97 = oIst 4 99 := rfl
set_option maxRecDepth 20000 in
theorem lX10_executes_99 : lk (tX10_executes d mc ms P) 99 = oIld 4 101 := rfl
set_option maxRecDepth 20000 in
theorem lX10_executes_101 : lk (tX10_executes d mc ms P) 101 = oPush (.int 8) 103 := rfl
set_option maxRecDepth 20000 in
theorem lX10_executes_103 : lk (tX10_executes d mc ms P) 103 = oIc (fun x y => y ≤ x) 129 106 := rfl
set_option maxRecDepth 20000 in
theorem lX10_executes_106 : lk (tX10_executes d mc ms P) 106 = oAld 0 107 := rfl
set_option maxRecDepth 20000 in
theorem lX10_executes_107 : lk (tX10_executes d mc ms P) 107 = oIld 4 109 := rfl
set_option maxRecDepth 20000 in
theorem lX10_executes_109 : lk (tX10_executes d mc ms P) 109 = oCallV d mc ms P 0 0 yX10_isReduction (Cond.code yX10_isReduction cX10_isReduction 2 (some .boolean)) 1 10 112 := rfl
set_option maxRecDepth 20000 in
theorem lX10_executes_112 : lk (tX10_executes d mc ms P) 112 = oIf (fun x => x = 0) 123 115 := rfl
set_option maxRecDepth 20000 in
theorem lX10_executes_115 : lk (tX10_executes d mc ms P) 115 = oAld 0 116 := rfl
set_option maxRecDepth 20000 in
theorem lX10_executes_116 : lk (tX10_executes d mc ms P) 116 = oIld 4 118 := rfl
set_option maxRecDepth 20000 in
theorem lX10_executes_118 : lk (tX10_executes d mc ms P) 118 = oIld 1 119 := rfl
set_option maxRecDepth 20000 in
theorem lX10_executes_119 : lk (tX10_executes d mc ms P) 119 = oIld 2 120 := rfl
set_option maxRecDepth 20000 in
theorem lX10_executes_120 : lk (tX10_executes d mc ms P) 120 = oCallV d mc ms P 0 0 yX10_combines (Cond.code yX10_combines cX10_combines 9 none) 3 10 123 := rfl
set_option maxRecDepth 20000 in
theorem lX10_executes_123 : lk (tX10_executes d mc ms P) 123 = oInc 4 1 126 := rfl
set_option maxRecDepth 20000 in
theorem lX10_executes_126 : lk (tX10_executes d mc ms P) 126 = oGoto 99 := rfl
set_option maxRecDepth 20000 in
theorem lX10_executes_129 : lk (tX10_executes d mc ms P) 129 = oPush (.int 0) 130 := rfl
set_option maxRecDepth 20000 in
theorem lX10_executes_130 : lk (tX10_executes d mc ms P) 130 = oIst 4 132 := rfl
set_option maxRecDepth 20000 in
theorem lX10_executes_132 : lk (tX10_executes d mc ms P) 132 = oIld 4 134 := rfl
set_option maxRecDepth 20000 in
theorem lX10_executes_134 : lk (tX10_executes d mc ms P) 134 = oPush (.int 8) 136 := rfl
set_option maxRecDepth 20000 in
theorem lX10_executes_136 : lk (tX10_executes d mc ms P) 136 = oIc (fun x y => y ≤ x) 173 139 := rfl
set_option maxRecDepth 20000 in
theorem lX10_executes_139 : lk (tX10_executes d mc ms P) 139 = oAld 0 140 := rfl
set_option maxRecDepth 20000 in
theorem lX10_executes_140 : lk (tX10_executes d mc ms P) 140 = oGr 10 25 143 := rfl
set_option maxRecDepth 20000 in
theorem lX10_executes_143 : lk (tX10_executes d mc ms P) 143 = oIld 4 145 := rfl
set_option maxRecDepth 20000 in
theorem lX10_executes_145 : lk (tX10_executes d mc ms P) 145 = oAld 0 146 := rfl
set_option maxRecDepth 20000 in
theorem lX10_executes_146 : lk (tX10_executes d mc ms P) 146 = oGr 10 30 149 := rfl
set_option maxRecDepth 20000 in
theorem lX10_executes_149 : lk (tX10_executes d mc ms P) 149 = oIld 4 151 := rfl
set_option maxRecDepth 20000 in
theorem lX10_executes_151 : lk (tX10_executes d mc ms P) 151 = oAi 100 152 := rfl
set_option maxRecDepth 20000 in
theorem lX10_executes_152 : lk (tX10_executes d mc ms P) 152 = oSi 100 (fun x => x) 153 := rfl
set_option maxRecDepth 20000 in
theorem lX10_executes_153 : lk (tX10_executes d mc ms P) 153 = oAld 0 154 := rfl
set_option maxRecDepth 20000 in
theorem lX10_executes_154 : lk (tX10_executes d mc ms P) 154 = oGr 10 26 157 := rfl
set_option maxRecDepth 20000 in
theorem lX10_executes_157 : lk (tX10_executes d mc ms P) 157 = oIld 4 159 := rfl
set_option maxRecDepth 20000 in
theorem lX10_executes_159 : lk (tX10_executes d mc ms P) 159 = oAld 0 160 := rfl
set_option maxRecDepth 20000 in
theorem lX10_executes_160 : lk (tX10_executes d mc ms P) 160 = oGr 10 31 163 := rfl
set_option maxRecDepth 20000 in
theorem lX10_executes_163 : lk (tX10_executes d mc ms P) 163 = oIld 4 165 := rfl
set_option maxRecDepth 20000 in
theorem lX10_executes_165 : lk (tX10_executes d mc ms P) 165 = oAf 166 := rfl
set_option maxRecDepth 20000 in
theorem lX10_executes_166 : lk (tX10_executes d mc ms P) 166 = oSf 167 := rfl
set_option maxRecDepth 20000 in
theorem lX10_executes_167 : lk (tX10_executes d mc ms P) 167 = oInc 4 1 170 := rfl
set_option maxRecDepth 20000 in
theorem lX10_executes_170 : lk (tX10_executes d mc ms P) 170 = oGoto 132 := rfl
set_option maxRecDepth 20000 in
theorem lX10_executes_173 : lk (tX10_executes d mc ms P) 173 = oRetV mc ms P := rfl
theorem lX10_combines_0 : lk (tX10_combines d mc ms P) 0 = oAld 0 1 := rfl
theorem lX10_combines_1 : lk (tX10_combines d mc ms P) 1 = oIld 2 2 := rfl
theorem lX10_combines_2 : lk (tX10_combines d mc ms P) 2 = oIld 3 3 := rfl
theorem lX10_combines_3 : lk (tX10_combines d mc ms P) 3 = oCallV d mc ms P 0 0 yX10_parts (Cond.code yX10_parts cX10_parts 3 (some .int)) 2 10 6 := rfl
theorem lX10_combines_6 : lk (tX10_combines d mc ms P) 6 = oIst 4 8 := rfl
theorem lX10_combines_8 : lk (tX10_combines d mc ms P) 8 = oAld 0 9 := rfl
theorem lX10_combines_9 : lk (tX10_combines d mc ms P) 9 = oIld 1 10 := rfl
theorem lX10_combines_10 : lk (tX10_combines d mc ms P) 10 = oCallV d mc ms P 0 0 yX10_operatorOf (Cond.code yX10_operatorOf cX10_operatorOf 3 (some .int)) 1 10 13 := rfl
theorem lX10_combines_13 : lk (tX10_combines d mc ms P) 13 = oIst 5 15 := rfl
theorem lX10_combines_15 : lk (tX10_combines d mc ms P) 15 = oPush (.int 0) 16 := rfl
theorem lX10_combines_16 : lk (tX10_combines d mc ms P) 16 = oIst 6 18 := rfl
theorem lX10_combines_18 : lk (tX10_combines d mc ms P) 18 = oIld 6 20 := rfl
theorem lX10_combines_20 : lk (tX10_combines d mc ms P) 20 = oIld 4 22 := rfl
theorem lX10_combines_22 : lk (tX10_combines d mc ms P) 22 = oIc (fun x y => y ≤ x) 100 25 := rfl
theorem lX10_combines_25 : lk (tX10_combines d mc ms P) 25 = oAld 0 26 := rfl
theorem lX10_combines_26 : lk (tX10_combines d mc ms P) 26 = oCallV d mc ms P 0 0 yX10_beginsPart (Cond.code yX10_beginsPart cX10_beginsPart 3 none) 0 10 29 := rfl
theorem lX10_combines_29 : lk (tX10_combines d mc ms P) 29 = oPush (.int 0) 30 := rfl
theorem lX10_combines_30 : lk (tX10_combines d mc ms P) 30 = oIst 7 32 := rfl
theorem lX10_combines_32 : lk (tX10_combines d mc ms P) 32 = oIld 7 34 := rfl
theorem lX10_combines_34 : lk (tX10_combines d mc ms P) 34 = oAld 0 35 := rfl
theorem lX10_combines_35 : lk (tX10_combines d mc ms P) 35 = oGr 10 1 38 := rfl
theorem lX10_combines_38 : lk (tX10_combines d mc ms P) 38 = oPush (.int 2) 39 := rfl
theorem lX10_combines_39 : lk (tX10_combines d mc ms P) 39 = oAi 100 40 := rfl
theorem lX10_combines_40 : lk (tX10_combines d mc ms P) 40 = oIc (fun x y => y ≤ x) 68 43 := rfl
theorem lX10_combines_43 : lk (tX10_combines d mc ms P) 43 = oAld 0 44 := rfl
theorem lX10_combines_44 : lk (tX10_combines d mc ms P) 44 = oIld 2 45 := rfl
theorem lX10_combines_45 : lk (tX10_combines d mc ms P) 45 = oIld 3 46 := rfl
theorem lX10_combines_46 : lk (tX10_combines d mc ms P) 46 = oIld 7 48 := rfl
theorem lX10_combines_48 : lk (tX10_combines d mc ms P) 48 = oCallV d mc ms P 0 0 yX10_partOf (Cond.code yX10_partOf cX10_partOf 4 (some .int)) 3 10 51 := rfl
theorem lX10_combines_51 : lk (tX10_combines d mc ms P) 51 = oIld 6 53 := rfl
theorem lX10_combines_53 : lk (tX10_combines d mc ms P) 53 = oIc (fun x y => x = y) 56 62 := rfl
theorem lX10_combines_56 : lk (tX10_combines d mc ms P) 56 = oAld 0 57 := rfl
theorem lX10_combines_57 : lk (tX10_combines d mc ms P) 57 = oIld 7 59 := rfl
theorem lX10_combines_59 : lk (tX10_combines d mc ms P) 59 = oCallV d mc ms P 0 0 yX10_runs (Cond.code yX10_runs cX10_runs 3 none) 1 10 62 := rfl
theorem lX10_combines_62 : lk (tX10_combines d mc ms P) 62 = oInc 7 1 65 := rfl
theorem lX10_combines_65 : lk (tX10_combines d mc ms P) 65 = oGoto 32 := rfl
theorem lX10_combines_68 : lk (tX10_combines d mc ms P) 68 = oAld 0 69 := rfl
theorem lX10_combines_69 : lk (tX10_combines d mc ms P) 69 = oGr 10 27 72 := rfl
theorem lX10_combines_72 : lk (tX10_combines d mc ms P) 72 = oIld 6 74 := rfl
theorem lX10_combines_74 : lk (tX10_combines d mc ms P) 74 = oAld 0 75 := rfl
theorem lX10_combines_75 : lk (tX10_combines d mc ms P) 75 = oGr 10 25 78 := rfl
theorem lX10_combines_78 : lk (tX10_combines d mc ms P) 78 = oIld 1 79 := rfl
theorem lX10_combines_79 : lk (tX10_combines d mc ms P) 79 = oAi 100 80 := rfl
theorem lX10_combines_80 : lk (tX10_combines d mc ms P) 80 = oSi 100 (fun x => x) 81 := rfl
theorem lX10_combines_81 : lk (tX10_combines d mc ms P) 81 = oAld 0 82 := rfl
theorem lX10_combines_82 : lk (tX10_combines d mc ms P) 82 = oGr 10 28 85 := rfl
theorem lX10_combines_85 : lk (tX10_combines d mc ms P) 85 = oIld 6 87 := rfl
theorem lX10_combines_87 : lk (tX10_combines d mc ms P) 87 = oAld 0 88 := rfl
theorem lX10_combines_88 : lk (tX10_combines d mc ms P) 88 = oGr 10 26 91 := rfl
theorem lX10_combines_91 : lk (tX10_combines d mc ms P) 91 = oIld 1 92 := rfl
theorem lX10_combines_92 : lk (tX10_combines d mc ms P) 92 = oAf 93 := rfl
set_option maxRecDepth 20000 in
theorem lX10_combines_93 : lk (tX10_combines d mc ms P) 93 = oSf 94 := rfl
set_option maxRecDepth 20000 in
theorem lX10_combines_94 : lk (tX10_combines d mc ms P) 94 = oInc 6 1 97 := rfl
set_option maxRecDepth 20000 in
theorem lX10_combines_97 : lk (tX10_combines d mc ms P) 97 = oGoto 18 := rfl
set_option maxRecDepth 20000 in
theorem lX10_combines_100 : lk (tX10_combines d mc ms P) 100 = oIld 2 101 := rfl
set_option maxRecDepth 20000 in
theorem lX10_combines_101 : lk (tX10_combines d mc ms P) 101 = oPush (.int 3) 102 := rfl
set_option maxRecDepth 20000 in
theorem lX10_combines_102 : lk (tX10_combines d mc ms P) 102 = oIc (fun x y => x = y) 105 234 := rfl
set_option maxRecDepth 20000 in
theorem lX10_combines_105 : lk (tX10_combines d mc ms P) 105 = oIld 4 107 := rfl
set_option maxRecDepth 20000 in
theorem lX10_combines_107 : lk (tX10_combines d mc ms P) 107 = oPush (.int 1) 108 := rfl
set_option maxRecDepth 20000 in
theorem lX10_combines_108 : lk (tX10_combines d mc ms P) 108 = oIc (fun x y => x ≤ y) 234 111 := rfl
set_option maxRecDepth 20000 in
theorem lX10_combines_111 : lk (tX10_combines d mc ms P) 111 = oPush (.int 0) 112 := rfl
set_option maxRecDepth 20000 in
theorem lX10_combines_112 : lk (tX10_combines d mc ms P) 112 = oIst 6 114 := rfl
set_option maxRecDepth 20000 in
theorem lX10_combines_114 : lk (tX10_combines d mc ms P) 114 = oPush (.int 0) 115 := rfl
set_option maxRecDepth 20000 in
theorem lX10_combines_115 : lk (tX10_combines d mc ms P) 115 = oIst 7 117 := rfl
set_option maxRecDepth 20000 in
theorem lX10_combines_117 : lk (tX10_combines d mc ms P) 117 = oIld 7 119 := rfl
set_option maxRecDepth 20000 in
theorem lX10_combines_119 : lk (tX10_combines d mc ms P) 119 = oIld 4 121 := rfl
set_option maxRecDepth 20000 in
theorem lX10_combines_121 : lk (tX10_combines d mc ms P) 121 = oIc (fun x y => y ≤ x) 227 124 := rfl
set_option maxRecDepth 20000 in
theorem lX10_combines_124 : lk (tX10_combines d mc ms P) 124 = oAld 0 125 := rfl
set_option maxRecDepth 20000 in
theorem lX10_combines_125 : lk (tX10_combines d mc ms P) 125 = oGr 10 27 128 := rfl
set_option maxRecDepth 20000 in
theorem lX10_combines_128 : lk (tX10_combines d mc ms P) 128 = oIld 6 130 := rfl
set_option maxRecDepth 20000 in
theorem lX10_combines_130 : lk (tX10_combines d mc ms P) 130 = oIld 7 132 := rfl
set_option maxRecDepth 20000 in
theorem lX10_combines_132 : lk (tX10_combines d mc ms P) 132 = oPush (.int 1) 133 := rfl
set_option maxRecDepth 20000 in
theorem lX10_combines_133 : lk (tX10_combines d mc ms P) 133 = oI2 (fun x y => x + y) 134 := rfl
set_option maxRecDepth 20000 in
theorem lX10_combines_134 : lk (tX10_combines d mc ms P) 134 = oIld 4 136 := rfl
set_option maxRecDepth 20000 in
theorem lX10_combines_136 : lk (tX10_combines d mc ms P) 136 = oIc (fun x y => y ≤ x) 163 139 := rfl
set_option maxRecDepth 20000 in
theorem lX10_combines_139 : lk (tX10_combines d mc ms P) 139 = oIld 5 141 := rfl
set_option maxRecDepth 20000 in
theorem lX10_combines_141 : lk (tX10_combines d mc ms P) 141 = oAld 0 142 := rfl
set_option maxRecDepth 20000 in
theorem lX10_combines_142 : lk (tX10_combines d mc ms P) 142 = oGr 10 27 145 := rfl
set_option maxRecDepth 20000 in
theorem lX10_combines_145 : lk (tX10_combines d mc ms P) 145 = oIld 7 147 := rfl
set_option maxRecDepth 20000 in
theorem lX10_combines_147 : lk (tX10_combines d mc ms P) 147 = oAi 100 148 := rfl
set_option maxRecDepth 20000 in
theorem lX10_combines_148 : lk (tX10_combines d mc ms P) 148 = oAld 0 149 := rfl
set_option maxRecDepth 20000 in
theorem lX10_combines_149 : lk (tX10_combines d mc ms P) 149 = oGr 10 27 152 := rfl
set_option maxRecDepth 20000 in
theorem lX10_combines_152 : lk (tX10_combines d mc ms P) 152 = oIld 7 154 := rfl
set_option maxRecDepth 20000 in
theorem lX10_combines_154 : lk (tX10_combines d mc ms P) 154 = oPush (.int 1) 155 := rfl
set_option maxRecDepth 20000 in
theorem lX10_combines_155 : lk (tX10_combines d mc ms P) 155 = oI2 (fun x y => x + y) 156 := rfl
set_option maxRecDepth 20000 in
theorem lX10_combines_156 : lk (tX10_combines d mc ms P) 156 = oAi 100 157 := rfl
set_option maxRecDepth 20000 in
theorem lX10_combines_157 : lk (tX10_combines d mc ms P) 157 = oCallS d mc ms P 0 0 yX10_intBy (Cond.code yX10_intBy cX10_intBy 3 (some .int)) 3 160 := rfl
set_option maxRecDepth 20000 in
theorem lX10_combines_160 : lk (tX10_combines d mc ms P) 160 = oGoto 170 := rfl
set_option maxRecDepth 20000 in
theorem lX10_combines_163 : lk (tX10_combines d mc ms P) 163 = oAld 0 164 := rfl
set_option maxRecDepth 20000 in
theorem lX10_combines_164 : lk (tX10_combines d mc ms P) 164 = oGr 10 27 167 := rfl
set_option maxRecDepth 20000 in
theorem lX10_combines_167 : lk (tX10_combines d mc ms P) 167 = oIld 7 169 := rfl
set_option maxRecDepth 20000 in
theorem lX10_combines_169 : lk (tX10_combines d mc ms P) 169 = oAi 100 170 := rfl
set_option maxRecDepth 20000 in
theorem lX10_combines_170 : lk (tX10_combines d mc ms P) 170 = oSi 100 (fun x => x) 171 := rfl
set_option maxRecDepth 20000 in
theorem lX10_combines_171 : lk (tX10_combines d mc ms P) 171 = oAld 0 172 := rfl
set_option maxRecDepth 20000 in
theorem lX10_combines_172 : lk (tX10_combines d mc ms P) 172 = oGr 10 28 175 := rfl
set_option maxRecDepth 20000 in
theorem lX10_combines_175 : lk (tX10_combines d mc ms P) 175 = oIld 6 177 := rfl
set_option maxRecDepth 20000 in
theorem lX10_combines_177 : lk (tX10_combines d mc ms P) 177 = oIld 7 179 := rfl
set_option maxRecDepth 20000 in
theorem lX10_combines_179 : lk (tX10_combines d mc ms P) 179 = oPush (.int 1) 180 := rfl
set_option maxRecDepth 20000 in
theorem lX10_combines_180 : lk (tX10_combines d mc ms P) 180 = oI2 (fun x y => x + y) 181 := rfl
set_option maxRecDepth 20000 in
theorem lX10_combines_181 : lk (tX10_combines d mc ms P) 181 = oIld 4 183 := rfl
set_option maxRecDepth 20000 in
theorem lX10_combines_183 : lk (tX10_combines d mc ms P) 183 = oIc (fun x y => y ≤ x) 210 186 := rfl
set_option maxRecDepth 20000 in
theorem lX10_combines_186 : lk (tX10_combines d mc ms P) 186 = oIld 5 188 := rfl
set_option maxRecDepth 20000 in
theorem lX10_combines_188 : lk (tX10_combines d mc ms P) 188 = oAld 0 189 := rfl
set_option maxRecDepth 20000 in
theorem lX10_combines_189 : lk (tX10_combines d mc ms P) 189 = oGr 10 28 192 := rfl
set_option maxRecDepth 20000 in
theorem lX10_combines_192 : lk (tX10_combines d mc ms P) 192 = oIld 7 194 := rfl
set_option maxRecDepth 20000 in
theorem lX10_combines_194 : lk (tX10_combines d mc ms P) 194 = oAf 195 := rfl
set_option maxRecDepth 20000 in
theorem lX10_combines_195 : lk (tX10_combines d mc ms P) 195 = oAld 0 196 := rfl
set_option maxRecDepth 20000 in
theorem lX10_combines_196 : lk (tX10_combines d mc ms P) 196 = oGr 10 28 199 := rfl
set_option maxRecDepth 20000 in
theorem lX10_combines_199 : lk (tX10_combines d mc ms P) 199 = oIld 7 201 := rfl
set_option maxRecDepth 20000 in
theorem lX10_combines_201 : lk (tX10_combines d mc ms P) 201 = oPush (.int 1) 202 := rfl
set_option maxRecDepth 20000 in
theorem lX10_combines_202 : lk (tX10_combines d mc ms P) 202 = oI2 (fun x y => x + y) 203 := rfl
set_option maxRecDepth 20000 in
theorem lX10_combines_203 : lk (tX10_combines d mc ms P) 203 = oAf 204 := rfl
set_option maxRecDepth 20000 in
theorem lX10_combines_204 : lk (tX10_combines d mc ms P) 204 = oCallS d mc ms P 0 0 yX10_floatBy (Cond.code yX10_floatBy cX10_floatBy 3 (some .float)) 3 207 := rfl
set_option maxRecDepth 20000 in
theorem lX10_combines_207 : lk (tX10_combines d mc ms P) 207 = oGoto 217 := rfl
set_option maxRecDepth 20000 in
theorem lX10_combines_210 : lk (tX10_combines d mc ms P) 210 = oAld 0 211 := rfl
set_option maxRecDepth 20000 in
theorem lX10_combines_211 : lk (tX10_combines d mc ms P) 211 = oGr 10 28 214 := rfl
set_option maxRecDepth 20000 in
theorem lX10_combines_214 : lk (tX10_combines d mc ms P) 214 = oIld 7 216 := rfl
set_option maxRecDepth 20000 in
theorem lX10_combines_216 : lk (tX10_combines d mc ms P) 216 = oAf 217 := rfl
set_option maxRecDepth 20000 in
theorem lX10_combines_217 : lk (tX10_combines d mc ms P) 217 = oSf 218 := rfl
set_option maxRecDepth 20000 in
theorem lX10_combines_218 : lk (tX10_combines d mc ms P) 218 = oInc 6 1 221 := rfl
set_option maxRecDepth 20000 in
theorem lX10_combines_221 : lk (tX10_combines d mc ms P) 221 = oInc 7 2 224 := rfl
set_option maxRecDepth 20000 in
theorem lX10_combines_224 : lk (tX10_combines d mc ms P) 224 = oGoto 117 := rfl
set_option maxRecDepth 20000 in
theorem lX10_combines_227 : lk (tX10_combines d mc ms P) 227 = oIld 6 229 := rfl
set_option maxRecDepth 20000 in
theorem lX10_combines_229 : lk (tX10_combines d mc ms P) 229 = oIst 4 231 := rfl
set_option maxRecDepth 20000 in
theorem lX10_combines_231 : lk (tX10_combines d mc ms P) 231 = oGoto 100 := rfl
set_option maxRecDepth 20000 in
theorem lX10_combines_234 : lk (tX10_combines d mc ms P) 234 = oAld 0 235 := rfl
set_option maxRecDepth 20000 in
theorem lX10_combines_235 : lk (tX10_combines d mc ms P) 235 = oGr 10 1 238 := rfl
set_option maxRecDepth 20000 in
theorem lX10_combines_238 : lk (tX10_combines d mc ms P) 238 = oPush (.int 67) 240 := rfl
set_option maxRecDepth 20000 in
theorem lX10_combines_240 : lk (tX10_combines d mc ms P) 240 = oIld 1 241 := rfl
set_option maxRecDepth 20000 in
theorem lX10_combines_241 : lk (tX10_combines d mc ms P) 241 = oI2 (fun x y => x + y) 242 := rfl
set_option maxRecDepth 20000 in
theorem lX10_combines_242 : lk (tX10_combines d mc ms P) 242 = oAi 100 243 := rfl
set_option maxRecDepth 20000 in
theorem lX10_combines_243 : lk (tX10_combines d mc ms P) 243 = oIst 6 245 := rfl
set_option maxRecDepth 20000 in
theorem lX10_combines_245 : lk (tX10_combines d mc ms P) 245 = oAld 0 246 := rfl
set_option maxRecDepth 20000 in
theorem lX10_combines_246 : lk (tX10_combines d mc ms P) 246 = oGr 10 1 249 := rfl
set_option maxRecDepth 20000 in
theorem lX10_combines_249 : lk (tX10_combines d mc ms P) 249 = oPush (.int 67) 251 := rfl
set_option maxRecDepth 20000 in
theorem lX10_combines_251 : lk (tX10_combines d mc ms P) 251 = oIld 1 252 := rfl
set_option maxRecDepth 20000 in
theorem lX10_combines_252 : lk (tX10_combines d mc ms P) 252 = oI2 (fun x y => x + y) 253 := rfl
set_option maxRecDepth 20000 in
theorem lX10_combines_253 : lk (tX10_combines d mc ms P) 253 = oAi 100 254 := rfl
set_option maxRecDepth 20000 in
theorem lX10_combines_254 : lk (tX10_combines d mc ms P) 254 = oIcv (fun x => .float (FP.i2f x)) 255 := rfl
set_option maxRecDepth 20000 in
theorem lX10_combines_255 : lk (tX10_combines d mc ms P) 255 = oFst 7 257 := rfl
set_option maxRecDepth 20000 in
theorem lX10_combines_257 : lk (tX10_combines d mc ms P) 257 = oPush (.int 0) 258 := rfl
set_option maxRecDepth 20000 in
theorem lX10_combines_258 : lk (tX10_combines d mc ms P) 258 = oIst 8 260 := rfl
set_option maxRecDepth 20000 in
theorem lX10_combines_260 : lk (tX10_combines d mc ms P) 260 = oIld 8 262 := rfl
set_option maxRecDepth 20000 in
theorem lX10_combines_262 : lk (tX10_combines d mc ms P) 262 = oIld 4 264 := rfl
set_option maxRecDepth 20000 in
theorem lX10_combines_264 : lk (tX10_combines d mc ms P) 264 = oIc (fun x y => y ≤ x) 305 267 := rfl
set_option maxRecDepth 20000 in
theorem lX10_combines_267 : lk (tX10_combines d mc ms P) 267 = oIld 5 269 := rfl
set_option maxRecDepth 20000 in
theorem lX10_combines_269 : lk (tX10_combines d mc ms P) 269 = oIld 6 271 := rfl
set_option maxRecDepth 20000 in
theorem lX10_combines_271 : lk (tX10_combines d mc ms P) 271 = oAld 0 272 := rfl
set_option maxRecDepth 20000 in
theorem lX10_combines_272 : lk (tX10_combines d mc ms P) 272 = oGr 10 27 275 := rfl
set_option maxRecDepth 20000 in
theorem lX10_combines_275 : lk (tX10_combines d mc ms P) 275 = oIld 8 277 := rfl
set_option maxRecDepth 20000 in
theorem lX10_combines_277 : lk (tX10_combines d mc ms P) 277 = oAi 100 278 := rfl
set_option maxRecDepth 20000 in
theorem lX10_combines_278 : lk (tX10_combines d mc ms P) 278 = oCallS d mc ms P 0 0 yX10_intBy (Cond.code yX10_intBy cX10_intBy 3 (some .int)) 3 281 := rfl
set_option maxRecDepth 20000 in
theorem lX10_combines_281 : lk (tX10_combines d mc ms P) 281 = oIst 6 283 := rfl
set_option maxRecDepth 20000 in
theorem lX10_combines_283 : lk (tX10_combines d mc ms P) 283 = oIld 5 285 := rfl
set_option maxRecDepth 20000 in
theorem lX10_combines_285 : lk (tX10_combines d mc ms P) 285 = oFld 7 287 := rfl
set_option maxRecDepth 20000 in
theorem lX10_combines_287 : lk (tX10_combines d mc ms P) 287 = oAld 0 288 := rfl
set_option maxRecDepth 20000 in
theorem lX10_combines_288 : lk (tX10_combines d mc ms P) 288 = oGr 10 28 291 := rfl
set_option maxRecDepth 20000 in
theorem lX10_combines_291 : lk (tX10_combines d mc ms P) 291 = oIld 8 293 := rfl
set_option maxRecDepth 20000 in
theorem lX10_combines_293 : lk (tX10_combines d mc ms P) 293 = oAf 294 := rfl
set_option maxRecDepth 20000 in
theorem lX10_combines_294 : lk (tX10_combines d mc ms P) 294 = oCallS d mc ms P 0 0 yX10_floatBy (Cond.code yX10_floatBy cX10_floatBy 3 (some .float)) 3 297 := rfl
set_option maxRecDepth 20000 in
theorem lX10_combines_297 : lk (tX10_combines d mc ms P) 297 = oFst 7 299 := rfl
set_option maxRecDepth 20000 in
theorem lX10_combines_299 : lk (tX10_combines d mc ms P) 299 = oInc 8 1 302 := rfl
set_option maxRecDepth 20000 in
theorem lX10_combines_302 : lk (tX10_combines d mc ms P) 302 = oGoto 260 := rfl
set_option maxRecDepth 20000 in
theorem lX10_combines_305 : lk (tX10_combines d mc ms P) 305 = oAld 0 306 := rfl
set_option maxRecDepth 20000 in
theorem lX10_combines_306 : lk (tX10_combines d mc ms P) 306 = oGr 10 30 309 := rfl
set_option maxRecDepth 20000 in
theorem lX10_combines_309 : lk (tX10_combines d mc ms P) 309 = oIld 1 310 := rfl
set_option maxRecDepth 20000 in
theorem lX10_combines_310 : lk (tX10_combines d mc ms P) 310 = oIld 6 312 := rfl
set_option maxRecDepth 20000 in
theorem lX10_combines_312 : lk (tX10_combines d mc ms P) 312 = oSi 100 (fun x => x) 313 := rfl
set_option maxRecDepth 20000 in
theorem lX10_combines_313 : lk (tX10_combines d mc ms P) 313 = oAld 0 314 := rfl
set_option maxRecDepth 20000 in
theorem lX10_combines_314 : lk (tX10_combines d mc ms P) 314 = oGr 10 31 317 := rfl
set_option maxRecDepth 20000 in
theorem lX10_combines_317 : lk (tX10_combines d mc ms P) 317 = oIld 1 318 := rfl
set_option maxRecDepth 20000 in
theorem lX10_combines_318 : lk (tX10_combines d mc ms P) 318 = oFld 7 320 := rfl
set_option maxRecDepth 20000 in
theorem lX10_combines_320 : lk (tX10_combines d mc ms P) 320 = oSf 321 := rfl
set_option maxRecDepth 20000 in
theorem lX10_combines_321 : lk (tX10_combines d mc ms P) 321 = oRetV mc ms P := rfl
theorem lX10_hasBits_0 : lk (tX10_hasBits d mc ms P) 0 = oPush (.int 0) 1 := rfl
theorem lX10_hasBits_1 : lk (tX10_hasBits d mc ms P) 1 = oIst 1 2 := rfl
theorem lX10_hasBits_2 : lk (tX10_hasBits d mc ms P) 2 = oIld 1 3 := rfl
theorem lX10_hasBits_3 : lk (tX10_hasBits d mc ms P) 3 = oAld 0 4 := rfl
theorem lX10_hasBits_4 : lk (tX10_hasBits d mc ms P) 4 = oGr 10 1 7 := rfl
theorem lX10_hasBits_7 : lk (tX10_hasBits d mc ms P) 7 = oPush (.int 0) 8 := rfl
theorem lX10_hasBits_8 : lk (tX10_hasBits d mc ms P) 8 = oAi 100 9 := rfl
theorem lX10_hasBits_9 : lk (tX10_hasBits d mc ms P) 9 = oIc (fun x y => y ≤ x) 64 12 := rfl
theorem lX10_hasBits_12 : lk (tX10_hasBits d mc ms P) 12 = oPush (.int 0) 13 := rfl
theorem lX10_hasBits_13 : lk (tX10_hasBits d mc ms P) 13 = oIst 2 14 := rfl
theorem lX10_hasBits_14 : lk (tX10_hasBits d mc ms P) 14 = oIld 2 15 := rfl
theorem lX10_hasBits_15 : lk (tX10_hasBits d mc ms P) 15 = oAld 0 16 := rfl
theorem lX10_hasBits_16 : lk (tX10_hasBits d mc ms P) 16 = oGr 10 1 19 := rfl
theorem lX10_hasBits_19 : lk (tX10_hasBits d mc ms P) 19 = oPush (.int 11) 21 := rfl
theorem lX10_hasBits_21 : lk (tX10_hasBits d mc ms P) 21 = oIld 1 22 := rfl
theorem lX10_hasBits_22 : lk (tX10_hasBits d mc ms P) 22 = oI2 (fun x y => x + y) 23 := rfl
theorem lX10_hasBits_23 : lk (tX10_hasBits d mc ms P) 23 = oAi 100 24 := rfl
theorem lX10_hasBits_24 : lk (tX10_hasBits d mc ms P) 24 = oIc (fun x y => y ≤ x) 58 27 := rfl
theorem lX10_hasBits_27 : lk (tX10_hasBits d mc ms P) 27 = oAld 0 28 := rfl
theorem lX10_hasBits_28 : lk (tX10_hasBits d mc ms P) 28 = oGr 10 1 31 := rfl
theorem lX10_hasBits_31 : lk (tX10_hasBits d mc ms P) 31 = oIld 1 32 := rfl
theorem lX10_hasBits_32 : lk (tX10_hasBits d mc ms P) 32 = oCallS d mc ms P 0 0 yX10_code (Cond.code yX10_code cX10_code 1 (some .int)) 1 35 := rfl
theorem lX10_hasBits_35 : lk (tX10_hasBits d mc ms P) 35 = oIld 2 36 := rfl
theorem lX10_hasBits_36 : lk (tX10_hasBits d mc ms P) 36 = oI2 (fun x y => x + y) 37 := rfl
theorem lX10_hasBits_37 : lk (tX10_hasBits d mc ms P) 37 = oAi 100 38 := rfl
theorem lX10_hasBits_38 : lk (tX10_hasBits d mc ms P) 38 = oPush (.int 302) 41 := rfl
theorem lX10_hasBits_41 : lk (tX10_hasBits d mc ms P) 41 = oPush (.int 304) 44 := rfl
theorem lX10_hasBits_44 : lk (tX10_hasBits d mc ms P) 44 = oCallS d mc ms P 0 0 yX10_in (Cond.code yX10_in cX10_in 3 (some .boolean)) 3 47 := rfl
theorem lX10_hasBits_47 : lk (tX10_hasBits d mc ms P) 47 = oIf (fun x => x = 0) 52 50 := rfl
theorem lX10_hasBits_50 : lk (tX10_hasBits d mc ms P) 50 = oPush (.int 1) 51 := rfl
theorem lX10_hasBits_51 : lk (tX10_hasBits d mc ms P) 51 = oRetZ mc ms P := rfl
theorem lX10_hasBits_52 : lk (tX10_hasBits d mc ms P) 52 = oInc 2 1 55 := rfl
theorem lX10_hasBits_55 : lk (tX10_hasBits d mc ms P) 55 = oGoto 14 := rfl
theorem lX10_hasBits_58 : lk (tX10_hasBits d mc ms P) 58 = oInc 1 1 61 := rfl
theorem lX10_hasBits_61 : lk (tX10_hasBits d mc ms P) 61 = oGoto 2 := rfl
theorem lX10_hasBits_64 : lk (tX10_hasBits d mc ms P) 64 = oPush (.int 0) 65 := rfl
theorem lX10_hasBits_65 : lk (tX10_hasBits d mc ms P) 65 = oRetZ mc ms P := rfl
theorem lX10_isOrder_0 : lk (tX10_isOrder d mc ms P) 0 = oIld 0 1 := rfl
theorem lX10_isOrder_1 : lk (tX10_isOrder d mc ms P) 1 = oIf (fun x => x = 0) 28 4 := rfl
theorem lX10_isOrder_4 : lk (tX10_isOrder d mc ms P) 4 = oIld 0 5 := rfl
theorem lX10_isOrder_5 : lk (tX10_isOrder d mc ms P) 5 = oPush (.int 3) 6 := rfl
theorem lX10_isOrder_6 : lk (tX10_isOrder d mc ms P) 6 = oIc (fun x y => x = y) 28 9 := rfl
theorem lX10_isOrder_9 : lk (tX10_isOrder d mc ms P) 9 = oIld 0 10 := rfl
theorem lX10_isOrder_10 : lk (tX10_isOrder d mc ms P) 10 = oPush (.int 1) 11 := rfl
theorem lX10_isOrder_11 : lk (tX10_isOrder d mc ms P) 11 = oPush (.int 2) 12 := rfl
theorem lX10_isOrder_12 : lk (tX10_isOrder d mc ms P) 12 = oCallS d mc ms P 0 0 yX10_in (Cond.code yX10_in cX10_in 3 (some .boolean)) 3 15 := rfl
theorem lX10_isOrder_15 : lk (tX10_isOrder d mc ms P) 15 = oIf (fun x => x = 0) 32 18 := rfl
theorem lX10_isOrder_18 : lk (tX10_isOrder d mc ms P) 18 = oIld 1 19 := rfl
theorem lX10_isOrder_19 : lk (tX10_isOrder d mc ms P) 19 = oPush (.int 1) 20 := rfl
theorem lX10_isOrder_20 : lk (tX10_isOrder d mc ms P) 20 = oPush (.int 8) 22 := rfl
theorem lX10_isOrder_22 : lk (tX10_isOrder d mc ms P) 22 = oCallS d mc ms P 0 0 yX10_in (Cond.code yX10_in cX10_in 3 (some .boolean)) 3 25 := rfl
theorem lX10_isOrder_25 : lk (tX10_isOrder d mc ms P) 25 = oIf (fun x => x = 0) 32 28 := rfl
theorem lX10_isOrder_28 : lk (tX10_isOrder d mc ms P) 28 = oPush (.int 1) 29 := rfl
theorem lX10_isOrder_29 : lk (tX10_isOrder d mc ms P) 29 = oGoto 33 := rfl
theorem lX10_isOrder_32 : lk (tX10_isOrder d mc ms P) 32 = oPush (.int 0) 33 := rfl
theorem lX10_isOrder_33 : lk (tX10_isOrder d mc ms P) 33 = oRetZ mc ms P := rfl
theorem lX10_execute_0 : lk (tX10_execute d mc ms P) 0 = oAld 0 1 := rfl
theorem lX10_execute_1 : lk (tX10_execute d mc ms P) 1 = oPush (.int 0) 2 := rfl
theorem lX10_execute_2 : lk (tX10_execute d mc ms P) 2 = oPi 10 0 5 := rfl
theorem lX10_execute_5 : lk (tX10_execute d mc ms P) 5 = oIld 1 6 := rfl
theorem lX10_execute_6 : lk (tX10_execute d mc ms P) 6 = oIld 2 7 := rfl
theorem lX10_execute_7 : lk (tX10_execute d mc ms P) 7 = oCallS d mc ms P 0 0 yX10_isOrder (Cond.code yX10_isOrder cX10_isOrder 2 (some .boolean)) 2 10 := rfl
theorem lX10_execute_10 : lk (tX10_execute d mc ms P) 10 = oIf (fun x => x = 0) 13 19 := rfl
theorem lX10_execute_13 : lk (tX10_execute d mc ms P) 13 = oAld 0 14 := rfl
theorem lX10_execute_14 : lk (tX10_execute d mc ms P) 14 = oPush (.int 1) 15 := rfl
theorem lX10_execute_15 : lk (tX10_execute d mc ms P) 15 = oCallV d mc ms P 0 0 yX10_raises (Cond.code yX10_raises cX10_raises 2 (some .int)) 1 10 18 := rfl
theorem lX10_execute_18 : lk (tX10_execute d mc ms P) 18 = oRetI mc ms P := rfl
theorem lX10_execute_19 : lk (tX10_execute d mc ms P) 19 = oAld 0 20 := rfl
theorem lX10_execute_20 : lk (tX10_execute d mc ms P) 20 = oGr 10 1 23 := rfl
theorem lX10_execute_23 : lk (tX10_execute d mc ms P) 23 = oPush (.int 1) 24 := rfl
theorem lX10_execute_24 : lk (tX10_execute d mc ms P) 24 = oAi 100 25 := rfl
theorem lX10_execute_25 : lk (tX10_execute d mc ms P) 25 = oPush (.int 1) 26 := rfl
theorem lX10_execute_26 : lk (tX10_execute d mc ms P) 26 = oIc (fun x y => x = y) 29 42 := rfl
theorem lX10_execute_29 : lk (tX10_execute d mc ms P) 29 = oAld 0 30 := rfl
theorem lX10_execute_30 : lk (tX10_execute d mc ms P) 30 = oCallV d mc ms P 0 0 yX10_hasBits (Cond.code yX10_hasBits cX10_hasBits 3 (some .boolean)) 0 10 33 := rfl
theorem lX10_execute_33 : lk (tX10_execute d mc ms P) 33 = oIf (fun x => x = 0) 42 36 := rfl
theorem lX10_execute_36 : lk (tX10_execute d mc ms P) 36 = oAld 0 37 := rfl
theorem lX10_execute_37 : lk (tX10_execute d mc ms P) 37 = oPush (.int 2) 38 := rfl
theorem lX10_execute_38 : lk (tX10_execute d mc ms P) 38 = oCallV d mc ms P 0 0 yX10_raises (Cond.code yX10_raises cX10_raises 2 (some .int)) 1 10 41 := rfl
theorem lX10_execute_41 : lk (tX10_execute d mc ms P) 41 = oRetI mc ms P := rfl
theorem lX10_execute_42 : lk (tX10_execute d mc ms P) 42 = oIld 1 43 := rfl
theorem lX10_execute_43 : lk (tX10_execute d mc ms P) 43 = oIf (fun x => x ≤ 0) 59 46 := rfl
theorem lX10_execute_46 : lk (tX10_execute d mc ms P) 46 = oAld 0 47 := rfl
theorem lX10_execute_47 : lk (tX10_execute d mc ms P) 47 = oCallV d mc ms P 0 0 yX10_parallel (Cond.code yX10_parallel cX10_parallel 2 (some .boolean)) 0 10 50 := rfl
theorem lX10_execute_50 : lk (tX10_execute d mc ms P) 50 = oIf (fun x => x = 0) 53 59 := rfl
theorem lX10_execute_53 : lk (tX10_execute d mc ms P) 53 = oAld 0 54 := rfl
theorem lX10_execute_54 : lk (tX10_execute d mc ms P) 54 = oPush (.int 3) 55 := rfl
theorem lX10_execute_55 : lk (tX10_execute d mc ms P) 55 = oCallV d mc ms P 0 0 yX10_raises (Cond.code yX10_raises cX10_raises 2 (some .int)) 1 10 58 := rfl
theorem lX10_execute_58 : lk (tX10_execute d mc ms P) 58 = oRetI mc ms P := rfl
theorem lX10_execute_59 : lk (tX10_execute d mc ms P) 59 = oAld 0 60 := rfl
theorem lX10_execute_60 : lk (tX10_execute d mc ms P) 60 = oIld 1 61 := rfl
theorem lX10_execute_61 : lk (tX10_execute d mc ms P) 61 = oIld 2 62 := rfl
theorem lX10_execute_62 : lk (tX10_execute d mc ms P) 62 = oCallV d mc ms P 0 0 yX10_executes (Cond.code yX10_executes cX10_executes 5 none) 2 10 65 := rfl
theorem lX10_execute_65 : lk (tX10_execute d mc ms P) 65 = oAld 0 66 := rfl
theorem lX10_execute_66 : lk (tX10_execute d mc ms P) 66 = oAld 0 67 := rfl
theorem lX10_execute_67 : lk (tX10_execute d mc ms P) 67 = oGr 10 1 70 := rfl
theorem lX10_execute_70 : lk (tX10_execute d mc ms P) 70 = oPush (.int 1) 71 := rfl
theorem lX10_execute_71 : lk (tX10_execute d mc ms P) 71 = oAi 100 72 := rfl
theorem lX10_execute_72 : lk (tX10_execute d mc ms P) 72 = oPi 10 29 75 := rfl
theorem lX10_execute_75 : lk (tX10_execute d mc ms P) 75 = oPush (.int 0) 76 := rfl
theorem lX10_execute_76 : lk (tX10_execute d mc ms P) 76 = oIst 3 77 := rfl
theorem lX10_execute_77 : lk (tX10_execute d mc ms P) 77 = oPush (.int 0) 78 := rfl
theorem lX10_execute_78 : lk (tX10_execute d mc ms P) 78 = oIst 4 80 := rfl
theorem lX10_execute_80 : lk (tX10_execute d mc ms P) 80 = oIld 4 82 := rfl
theorem lX10_execute_82 : lk (tX10_execute d mc ms P) 82 = oPush (.int 8) 84 := rfl
theorem lX10_execute_84 : lk (tX10_execute d mc ms P) 84 = oIc (fun x y => y ≤ x) 178 87 := rfl
theorem lX10_execute_87 : lk (tX10_execute d mc ms P) 87 = oAld 0 88 := rfl
set_option maxRecDepth 20000 in
theorem lX10_execute_88 : lk (tX10_execute d mc ms P) 88 = oGr 10 32 91 := rfl
set_option maxRecDepth 20000 in
theorem lX10_execute_91 : lk (tX10_execute d mc ms P) 91 = oIld 4 93 := rfl
set_option maxRecDepth 20000 in
theorem lX10_execute_93 : lk (tX10_execute d mc ms P) 93 = oAld 0 94 := rfl
set_option maxRecDepth 20000 in
theorem lX10_execute_94 : lk (tX10_execute d mc ms P) 94 = oGr 10 25 97 := rfl
set_option maxRecDepth 20000 in
theorem lX10_execute_97 : lk (tX10_execute d mc ms P) 97 = oIld 4 99 := rfl
set_option maxRecDepth 20000 in
theorem lX10_execute_99 : lk (tX10_execute d mc ms P) 99 = oAi 100 100 := rfl
set_option maxRecDepth 20000 in
theorem lX10_execute_100 : lk (tX10_execute d mc ms P) 100 = oSi 100 (fun x => x) 101 := rfl
set_option maxRecDepth 20000 in
theorem lX10_execute_101 : lk (tX10_execute d mc ms P) 101 = oAld 0 102 := rfl
set_option maxRecDepth 20000 in
theorem lX10_execute_102 : lk (tX10_execute d mc ms P) 102 = oGr 10 33 105 := rfl
set_option maxRecDepth 20000 in
theorem lX10_execute_105 : lk (tX10_execute d mc ms P) 105 = oIld 4 107 := rfl
set_option maxRecDepth 20000 in
theorem lX10_execute_107 : lk (tX10_execute d mc ms P) 107 = oAld 0 108 := rfl
set_option maxRecDepth 20000 in
theorem lX10_execute_108 : lk (tX10_execute d mc ms P) 108 = oGr 10 26 111 := rfl
set_option maxRecDepth 20000 in
theorem lX10_execute_111 : lk (tX10_execute d mc ms P) 111 = oIld 4 113 := rfl
set_option maxRecDepth 20000 in
theorem lX10_execute_113 : lk (tX10_execute d mc ms P) 113 = oAf 114 := rfl
set_option maxRecDepth 20000 in
theorem lX10_execute_114 : lk (tX10_execute d mc ms P) 114 = oSf 115 := rfl
set_option maxRecDepth 20000 in
theorem lX10_execute_115 : lk (tX10_execute d mc ms P) 115 = oAld 0 116 := rfl
set_option maxRecDepth 20000 in
theorem lX10_execute_116 : lk (tX10_execute d mc ms P) 116 = oGr 10 1 119 := rfl
set_option maxRecDepth 20000 in
theorem lX10_execute_119 : lk (tX10_execute d mc ms P) 119 = oPush (.int 1) 120 := rfl
set_option maxRecDepth 20000 in
theorem lX10_execute_120 : lk (tX10_execute d mc ms P) 120 = oAi 100 121 := rfl
set_option maxRecDepth 20000 in
theorem lX10_execute_121 : lk (tX10_execute d mc ms P) 121 = oIf (fun x => x = 0) 124 147 := rfl
set_option maxRecDepth 20000 in
theorem lX10_execute_124 : lk (tX10_execute d mc ms P) 124 = oAld 0 125 := rfl
set_option maxRecDepth 20000 in
theorem lX10_execute_125 : lk (tX10_execute d mc ms P) 125 = oGr 10 25 128 := rfl
set_option maxRecDepth 20000 in
theorem lX10_execute_128 : lk (tX10_execute d mc ms P) 128 = oIld 4 130 := rfl
set_option maxRecDepth 20000 in
theorem lX10_execute_130 : lk (tX10_execute d mc ms P) 130 = oAi 100 131 := rfl
set_option maxRecDepth 20000 in
theorem lX10_execute_131 : lk (tX10_execute d mc ms P) 131 = oAld 0 132 := rfl
set_option maxRecDepth 20000 in
theorem lX10_execute_132 : lk (tX10_execute d mc ms P) 132 = oGr 10 1 135 := rfl
set_option maxRecDepth 20000 in
theorem lX10_execute_135 : lk (tX10_execute d mc ms P) 135 = oPush (.int 67) 137 := rfl
set_option maxRecDepth 20000 in
theorem lX10_execute_137 : lk (tX10_execute d mc ms P) 137 = oIld 4 139 := rfl
set_option maxRecDepth 20000 in
theorem lX10_execute_139 : lk (tX10_execute d mc ms P) 139 = oI2 (fun x y => x + y) 140 := rfl
set_option maxRecDepth 20000 in
theorem lX10_execute_140 : lk (tX10_execute d mc ms P) 140 = oAi 100 141 := rfl
set_option maxRecDepth 20000 in
theorem lX10_execute_141 : lk (tX10_execute d mc ms P) 141 = oIc (fun x y => x = y) 172 144 := rfl
set_option maxRecDepth 20000 in
theorem lX10_execute_144 : lk (tX10_execute d mc ms P) 144 = oGoto 169 := rfl
set_option maxRecDepth 20000 in
theorem lX10_execute_147 : lk (tX10_execute d mc ms P) 147 = oAld 0 148 := rfl
set_option maxRecDepth 20000 in
theorem lX10_execute_148 : lk (tX10_execute d mc ms P) 148 = oGr 10 26 151 := rfl
set_option maxRecDepth 20000 in
theorem lX10_execute_151 : lk (tX10_execute d mc ms P) 151 = oIld 4 153 := rfl
set_option maxRecDepth 20000 in
theorem lX10_execute_153 : lk (tX10_execute d mc ms P) 153 = oAf 154 := rfl
set_option maxRecDepth 20000 in
theorem lX10_execute_154 : lk (tX10_execute d mc ms P) 154 = oAld 0 155 := rfl
set_option maxRecDepth 20000 in
theorem lX10_execute_155 : lk (tX10_execute d mc ms P) 155 = oGr 10 1 158 := rfl
set_option maxRecDepth 20000 in
theorem lX10_execute_158 : lk (tX10_execute d mc ms P) 158 = oPush (.int 67) 160 := rfl
set_option maxRecDepth 20000 in
theorem lX10_execute_160 : lk (tX10_execute d mc ms P) 160 = oIld 4 162 := rfl
set_option maxRecDepth 20000 in
theorem lX10_execute_162 : lk (tX10_execute d mc ms P) 162 = oI2 (fun x y => x + y) 163 := rfl
set_option maxRecDepth 20000 in
theorem lX10_execute_163 : lk (tX10_execute d mc ms P) 163 = oAi 100 164 := rfl
set_option maxRecDepth 20000 in
theorem lX10_execute_164 : lk (tX10_execute d mc ms P) 164 = oIcv (fun x => .float (FP.i2f x)) 165 := rfl
set_option maxRecDepth 20000 in
theorem lX10_execute_165 : lk (tX10_execute d mc ms P) 165 = oFcmp .l 166 := rfl
set_option maxRecDepth 20000 in
theorem lX10_execute_166 : lk (tX10_execute d mc ms P) 166 = oIf (fun x => x = 0) 172 169 := rfl
set_option maxRecDepth 20000 in
theorem lX10_execute_169 : lk (tX10_execute d mc ms P) 169 = oInc 3 1 172 := rfl
set_option maxRecDepth 20000 in
theorem lX10_execute_172 : lk (tX10_execute d mc ms P) 172 = oInc 4 1 175 := rfl
set_option maxRecDepth 20000 in
theorem lX10_execute_175 : lk (tX10_execute d mc ms P) 175 = oGoto 80 := rfl
set_option maxRecDepth 20000 in
theorem lX10_execute_178 : lk (tX10_execute d mc ms P) 178 = oIld 3 179 := rfl
set_option maxRecDepth 20000 in
theorem lX10_execute_179 : lk (tX10_execute d mc ms P) 179 = oRetI mc ms P := rfl
theorem lX10_result_0 : lk (tX10_result d mc ms P) 0 = oAld 0 1 := rfl
theorem lX10_result_1 : lk (tX10_result d mc ms P) 1 = oPush (.int 0) 2 := rfl
theorem lX10_result_2 : lk (tX10_result d mc ms P) 2 = oPi 10 0 5 := rfl
theorem lX10_result_5 : lk (tX10_result d mc ms P) 5 = oIld 1 6 := rfl
theorem lX10_result_6 : lk (tX10_result d mc ms P) 6 = oCallS d mc ms P 0 0 yX10_isVariable (Cond.code yX10_isVariable cX10_isVariable 1 (some .boolean)) 1 9 := rfl
theorem lX10_result_9 : lk (tX10_result d mc ms P) 9 = oIf (fun x => x = 0) 12 18 := rfl
theorem lX10_result_12 : lk (tX10_result d mc ms P) 12 = oAld 0 13 := rfl
theorem lX10_result_13 : lk (tX10_result d mc ms P) 13 = oPush (.int 1) 14 := rfl
theorem lX10_result_14 : lk (tX10_result d mc ms P) 14 = oCallV d mc ms P 0 0 yX10_raises (Cond.code yX10_raises cX10_raises 2 (some .int)) 1 10 17 := rfl
theorem lX10_result_17 : lk (tX10_result d mc ms P) 17 = oRetI mc ms P := rfl
theorem lX10_result_18 : lk (tX10_result d mc ms P) 18 = oAld 0 19 := rfl
theorem lX10_result_19 : lk (tX10_result d mc ms P) 19 = oGi 10 29 22 := rfl
theorem lX10_result_22 : lk (tX10_result d mc ms P) 22 = oIf (fun x => x = 0) 25 34 := rfl
theorem lX10_result_25 : lk (tX10_result d mc ms P) 25 = oAld 0 26 := rfl
theorem lX10_result_26 : lk (tX10_result d mc ms P) 26 = oGr 10 32 29 := rfl
theorem lX10_result_29 : lk (tX10_result d mc ms P) 29 = oIld 1 30 := rfl
theorem lX10_result_30 : lk (tX10_result d mc ms P) 30 = oAi 100 31 := rfl
theorem lX10_result_31 : lk (tX10_result d mc ms P) 31 = oGoto 39 := rfl
theorem lX10_result_34 : lk (tX10_result d mc ms P) 34 = oAld 0 35 := rfl
theorem lX10_result_35 : lk (tX10_result d mc ms P) 35 = oPush (.int 2) 36 := rfl
theorem lX10_result_36 : lk (tX10_result d mc ms P) 36 = oCallV d mc ms P 0 0 yX10_raises (Cond.code yX10_raises cX10_raises 2 (some .int)) 1 10 39 := rfl
theorem lX10_result_39 : lk (tX10_result d mc ms P) 39 = oRetI mc ms P := rfl
theorem lX10_resultFloat_0 : lk (tX10_resultFloat d mc ms P) 0 = oAld 0 1 := rfl
theorem lX10_resultFloat_1 : lk (tX10_resultFloat d mc ms P) 1 = oPush (.int 0) 2 := rfl
theorem lX10_resultFloat_2 : lk (tX10_resultFloat d mc ms P) 2 = oPi 10 0 5 := rfl
theorem lX10_resultFloat_5 : lk (tX10_resultFloat d mc ms P) 5 = oIld 1 6 := rfl
theorem lX10_resultFloat_6 : lk (tX10_resultFloat d mc ms P) 6 = oCallS d mc ms P 0 0 yX10_isVariable (Cond.code yX10_isVariable cX10_isVariable 1 (some .boolean)) 1 9 := rfl
theorem lX10_resultFloat_9 : lk (tX10_resultFloat d mc ms P) 9 = oIf (fun x => x = 0) 12 19 := rfl
theorem lX10_resultFloat_12 : lk (tX10_resultFloat d mc ms P) 12 = oAld 0 13 := rfl
theorem lX10_resultFloat_13 : lk (tX10_resultFloat d mc ms P) 13 = oPush (.int 1) 14 := rfl
theorem lX10_resultFloat_14 : lk (tX10_resultFloat d mc ms P) 14 = oCallV d mc ms P 0 0 yX10_raises (Cond.code yX10_raises cX10_raises 2 (some .int)) 1 10 17 := rfl
theorem lX10_resultFloat_17 : lk (tX10_resultFloat d mc ms P) 17 = oIcv (fun x => .float (FP.i2f x)) 18 := rfl
theorem lX10_resultFloat_18 : lk (tX10_resultFloat d mc ms P) 18 = oRetF mc ms P := rfl
theorem lX10_resultFloat_19 : lk (tX10_resultFloat d mc ms P) 19 = oAld 0 20 := rfl
theorem lX10_resultFloat_20 : lk (tX10_resultFloat d mc ms P) 20 = oGi 10 29 23 := rfl
theorem lX10_resultFloat_23 : lk (tX10_resultFloat d mc ms P) 23 = oPush (.int 1) 24 := rfl
theorem lX10_resultFloat_24 : lk (tX10_resultFloat d mc ms P) 24 = oIc (fun x y => x = y) 27 36 := rfl
theorem lX10_resultFloat_27 : lk (tX10_resultFloat d mc ms P) 27 = oAld 0 28 := rfl
theorem lX10_resultFloat_28 : lk (tX10_resultFloat d mc ms P) 28 = oGr 10 33 31 := rfl
theorem lX10_resultFloat_31 : lk (tX10_resultFloat d mc ms P) 31 = oIld 1 32 := rfl
theorem lX10_resultFloat_32 : lk (tX10_resultFloat d mc ms P) 32 = oAf 33 := rfl
theorem lX10_resultFloat_33 : lk (tX10_resultFloat d mc ms P) 33 = oGoto 42 := rfl
theorem lX10_resultFloat_36 : lk (tX10_resultFloat d mc ms P) 36 = oAld 0 37 := rfl
theorem lX10_resultFloat_37 : lk (tX10_resultFloat d mc ms P) 37 = oPush (.int 2) 38 := rfl
theorem lX10_resultFloat_38 : lk (tX10_resultFloat d mc ms P) 38 = oCallV d mc ms P 0 0 yX10_raises (Cond.code yX10_raises cX10_raises 2 (some .int)) 1 10 41 := rfl
theorem lX10_resultFloat_41 : lk (tX10_resultFloat d mc ms P) 41 = oIcv (fun x => .float (FP.i2f x)) 42 := rfl
theorem lX10_resultFloat_42 : lk (tX10_resultFloat d mc ms P) 42 = oRetF mc ms P := rfl
theorem lX10_costs_0 : lk (tX10_costs d mc ms P) 0 = oAld 0 1 := rfl
theorem lX10_costs_1 : lk (tX10_costs d mc ms P) 1 = oGr 10 1 4 := rfl
theorem lX10_costs_4 : lk (tX10_costs d mc ms P) 4 = oPush (.int 2) 5 := rfl
theorem lX10_costs_5 : lk (tX10_costs d mc ms P) 5 = oAi 100 6 := rfl
theorem lX10_costs_6 : lk (tX10_costs d mc ms P) 6 = oIst 3 7 := rfl
theorem lX10_costs_7 : lk (tX10_costs d mc ms P) 7 = oIld 3 8 := rfl
theorem lX10_costs_8 : lk (tX10_costs d mc ms P) 8 = oIf (fun x => x = 0) 11 13 := rfl
theorem lX10_costs_11 : lk (tX10_costs d mc ms P) 11 = oPush (.int 0) 12 := rfl
theorem lX10_costs_12 : lk (tX10_costs d mc ms P) 12 = oRetI mc ms P := rfl
theorem lX10_costs_13 : lk (tX10_costs d mc ms P) 13 = oPush (.int 0) 14 := rfl
theorem lX10_costs_14 : lk (tX10_costs d mc ms P) 14 = oIst 4 16 := rfl
theorem lX10_costs_16 : lk (tX10_costs d mc ms P) 16 = oPush (.int 0) 17 := rfl
theorem lX10_costs_17 : lk (tX10_costs d mc ms P) 17 = oIst 5 19 := rfl
theorem lX10_costs_19 : lk (tX10_costs d mc ms P) 19 = oIld 5 21 := rfl
theorem lX10_costs_21 : lk (tX10_costs d mc ms P) 21 = oAld 0 22 := rfl
theorem lX10_costs_22 : lk (tX10_costs d mc ms P) 22 = oGr 10 1 25 := rfl
theorem lX10_costs_25 : lk (tX10_costs d mc ms P) 25 = oPush (.int 0) 26 := rfl
theorem lX10_costs_26 : lk (tX10_costs d mc ms P) 26 = oAi 100 27 := rfl
theorem lX10_costs_27 : lk (tX10_costs d mc ms P) 27 = oIc (fun x y => y ≤ x) 82 30 := rfl
theorem lX10_costs_30 : lk (tX10_costs d mc ms P) 30 = oPush (.int 0) 31 := rfl
theorem lX10_costs_31 : lk (tX10_costs d mc ms P) 31 = oIst 6 33 := rfl
theorem lX10_costs_33 : lk (tX10_costs d mc ms P) 33 = oIld 6 35 := rfl
theorem lX10_costs_35 : lk (tX10_costs d mc ms P) 35 = oAld 0 36 := rfl
theorem lX10_costs_36 : lk (tX10_costs d mc ms P) 36 = oGr 10 1 39 := rfl
theorem lX10_costs_39 : lk (tX10_costs d mc ms P) 39 = oPush (.int 11) 41 := rfl
theorem lX10_costs_41 : lk (tX10_costs d mc ms P) 41 = oIld 5 43 := rfl
theorem lX10_costs_43 : lk (tX10_costs d mc ms P) 43 = oI2 (fun x y => x + y) 44 := rfl
theorem lX10_costs_44 : lk (tX10_costs d mc ms P) 44 = oAi 100 45 := rfl
theorem lX10_costs_45 : lk (tX10_costs d mc ms P) 45 = oIc (fun x y => y ≤ x) 76 48 := rfl
theorem lX10_costs_48 : lk (tX10_costs d mc ms P) 48 = oAld 0 49 := rfl
theorem lX10_costs_49 : lk (tX10_costs d mc ms P) 49 = oGr 10 1 52 := rfl
theorem lX10_costs_52 : lk (tX10_costs d mc ms P) 52 = oIld 5 54 := rfl
theorem lX10_costs_54 : lk (tX10_costs d mc ms P) 54 = oCallS d mc ms P 0 0 yX10_code (Cond.code yX10_code cX10_code 1 (some .int)) 1 57 := rfl
theorem lX10_costs_57 : lk (tX10_costs d mc ms P) 57 = oIld 6 59 := rfl
theorem lX10_costs_59 : lk (tX10_costs d mc ms P) 59 = oI2 (fun x y => x + y) 60 := rfl
theorem lX10_costs_60 : lk (tX10_costs d mc ms P) 60 = oAi 100 61 := rfl
theorem lX10_costs_61 : lk (tX10_costs d mc ms P) 61 = oCallS d mc ms P 0 0 yX10_operands (Cond.code yX10_operands cX10_operands 1 (some .int)) 1 64 := rfl
theorem lX10_costs_64 : lk (tX10_costs d mc ms P) 64 = oIf (fun x => x ≤ 0) 70 67 := rfl
theorem lX10_costs_67 : lk (tX10_costs d mc ms P) 67 = oInc 4 1 70 := rfl
theorem lX10_costs_70 : lk (tX10_costs d mc ms P) 70 = oInc 6 1 73 := rfl
theorem lX10_costs_73 : lk (tX10_costs d mc ms P) 73 = oGoto 33 := rfl
theorem lX10_costs_76 : lk (tX10_costs d mc ms P) 76 = oInc 5 1 79 := rfl
theorem lX10_costs_79 : lk (tX10_costs d mc ms P) 79 = oGoto 19 := rfl
theorem lX10_costs_82 : lk (tX10_costs d mc ms P) 82 = oPush (.int 0) 83 := rfl
theorem lX10_costs_83 : lk (tX10_costs d mc ms P) 83 = oIst 5 85 := rfl
theorem lX10_costs_85 : lk (tX10_costs d mc ms P) 85 = oPush (.int 0) 86 := rfl
theorem lX10_costs_86 : lk (tX10_costs d mc ms P) 86 = oIst 6 88 := rfl
theorem lX10_costs_88 : lk (tX10_costs d mc ms P) 88 = oIld 6 90 := rfl
theorem lX10_costs_90 : lk (tX10_costs d mc ms P) 90 = oPush (.int 8) 92 := rfl
theorem lX10_costs_92 : lk (tX10_costs d mc ms P) 92 = oIc (fun x y => y ≤ x) 113 95 := rfl
theorem lX10_costs_95 : lk (tX10_costs d mc ms P) 95 = oAld 0 96 := rfl
set_option maxRecDepth 20000 in
theorem lX10_costs_96 : lk (tX10_costs d mc ms P) 96 = oIld 6 98 := rfl
set_option maxRecDepth 20000 in
theorem lX10_costs_98 : lk (tX10_costs d mc ms P) 98 = oCallV d mc ms P 0 0 yX10_isReduction (Cond.code yX10_isReduction cX10_isReduction 2 (some .boolean)) 1 10 101 := rfl
set_option maxRecDepth 20000 in
theorem lX10_costs_101 : lk (tX10_costs d mc ms P) 101 = oIf (fun x => x = 0) 107 104 := rfl
set_option maxRecDepth 20000 in
theorem lX10_costs_104 : lk (tX10_costs d mc ms P) 104 = oInc 5 1 107 := rfl
set_option maxRecDepth 20000 in
theorem lX10_costs_107 : lk (tX10_costs d mc ms P) 107 = oInc 6 1 110 := rfl
set_option maxRecDepth 20000 in
theorem lX10_costs_110 : lk (tX10_costs d mc ms P) 110 = oGoto 88 := rfl
set_option maxRecDepth 20000 in
theorem lX10_costs_113 : lk (tX10_costs d mc ms P) 113 = oIld 1 114 := rfl
set_option maxRecDepth 20000 in
theorem lX10_costs_114 : lk (tX10_costs d mc ms P) 114 = oIf (fun x => x = 0) 117 122 := rfl
set_option maxRecDepth 20000 in
theorem lX10_costs_117 : lk (tX10_costs d mc ms P) 117 = oIld 3 118 := rfl
set_option maxRecDepth 20000 in
theorem lX10_costs_118 : lk (tX10_costs d mc ms P) 118 = oIld 4 120 := rfl
set_option maxRecDepth 20000 in
theorem lX10_costs_120 : lk (tX10_costs d mc ms P) 120 = oI2 (fun x y => x * y) 121 := rfl
set_option maxRecDepth 20000 in
theorem lX10_costs_121 : lk (tX10_costs d mc ms P) 121 = oRetI mc ms P := rfl
set_option maxRecDepth 20000 in
theorem lX10_costs_122 : lk (tX10_costs d mc ms P) 122 = oIld 1 123 := rfl
set_option maxRecDepth 20000 in
theorem lX10_costs_123 : lk (tX10_costs d mc ms P) 123 = oPush (.int 3) 124 := rfl
set_option maxRecDepth 20000 in
theorem lX10_costs_124 : lk (tX10_costs d mc ms P) 124 = oIc (fun x y => y ≤ x) 141 127 := rfl
set_option maxRecDepth 20000 in
theorem lX10_costs_127 : lk (tX10_costs d mc ms P) 127 = oIld 3 128 := rfl
set_option maxRecDepth 20000 in
theorem lX10_costs_128 : lk (tX10_costs d mc ms P) 128 = oIld 2 129 := rfl
set_option maxRecDepth 20000 in
theorem lX10_costs_129 : lk (tX10_costs d mc ms P) 129 = oCallS d mc ms P 0 0 yX10_share (Cond.code yX10_share cX10_share 2 (some .int)) 2 132 := rfl
set_option maxRecDepth 20000 in
theorem lX10_costs_132 : lk (tX10_costs d mc ms P) 132 = oIld 4 134 := rfl
set_option maxRecDepth 20000 in
theorem lX10_costs_134 : lk (tX10_costs d mc ms P) 134 = oI2 (fun x y => x * y) 135 := rfl
set_option maxRecDepth 20000 in
theorem lX10_costs_135 : lk (tX10_costs d mc ms P) 135 = oIld 5 137 := rfl
set_option maxRecDepth 20000 in
theorem lX10_costs_137 : lk (tX10_costs d mc ms P) 137 = oIld 2 138 := rfl
set_option maxRecDepth 20000 in
theorem lX10_costs_138 : lk (tX10_costs d mc ms P) 138 = oI2 (fun x y => x * y) 139 := rfl
set_option maxRecDepth 20000 in
theorem lX10_costs_139 : lk (tX10_costs d mc ms P) 139 = oI2 (fun x y => x + y) 140 := rfl
set_option maxRecDepth 20000 in
theorem lX10_costs_140 : lk (tX10_costs d mc ms P) 140 = oRetI mc ms P := rfl
set_option maxRecDepth 20000 in
theorem lX10_costs_141 : lk (tX10_costs d mc ms P) 141 = oPush (.int 0) 142 := rfl
set_option maxRecDepth 20000 in
theorem lX10_costs_142 : lk (tX10_costs d mc ms P) 142 = oIst 6 144 := rfl
set_option maxRecDepth 20000 in
theorem lX10_costs_144 : lk (tX10_costs d mc ms P) 144 = oIld 3 145 := rfl
set_option maxRecDepth 20000 in
theorem lX10_costs_145 : lk (tX10_costs d mc ms P) 145 = oIst 7 147 := rfl
set_option maxRecDepth 20000 in
theorem lX10_costs_147 : lk (tX10_costs d mc ms P) 147 = oIld 7 149 := rfl
set_option maxRecDepth 20000 in
theorem lX10_costs_149 : lk (tX10_costs d mc ms P) 149 = oPush (.int 1) 150 := rfl
set_option maxRecDepth 20000 in
theorem lX10_costs_150 : lk (tX10_costs d mc ms P) 150 = oIc (fun x y => x ≤ y) 167 153 := rfl
set_option maxRecDepth 20000 in
theorem lX10_costs_153 : lk (tX10_costs d mc ms P) 153 = oInc 6 1 156 := rfl
set_option maxRecDepth 20000 in
theorem lX10_costs_156 : lk (tX10_costs d mc ms P) 156 = oIld 7 158 := rfl
set_option maxRecDepth 20000 in
theorem lX10_costs_158 : lk (tX10_costs d mc ms P) 158 = oPush (.int 1) 159 := rfl
set_option maxRecDepth 20000 in
theorem lX10_costs_159 : lk (tX10_costs d mc ms P) 159 = oI2 (fun x y => x + y) 160 := rfl
set_option maxRecDepth 20000 in
theorem lX10_costs_160 : lk (tX10_costs d mc ms P) 160 = oPush (.int 2) 161 := rfl
set_option maxRecDepth 20000 in
theorem lX10_costs_161 : lk (tX10_costs d mc ms P) 161 = oI2n (fun x y => x / y) 162 := rfl
set_option maxRecDepth 20000 in
theorem lX10_costs_162 : lk (tX10_costs d mc ms P) 162 = oIst 7 164 := rfl
set_option maxRecDepth 20000 in
theorem lX10_costs_164 : lk (tX10_costs d mc ms P) 164 = oGoto 147 := rfl
set_option maxRecDepth 20000 in
theorem lX10_costs_167 : lk (tX10_costs d mc ms P) 167 = oIld 4 169 := rfl
set_option maxRecDepth 20000 in
theorem lX10_costs_169 : lk (tX10_costs d mc ms P) 169 = oIld 5 171 := rfl
set_option maxRecDepth 20000 in
theorem lX10_costs_171 : lk (tX10_costs d mc ms P) 171 = oIld 6 173 := rfl
set_option maxRecDepth 20000 in
theorem lX10_costs_173 : lk (tX10_costs d mc ms P) 173 = oPush (.int 1) 174 := rfl
set_option maxRecDepth 20000 in
theorem lX10_costs_174 : lk (tX10_costs d mc ms P) 174 = oI2 (fun x y => x + y) 175 := rfl
set_option maxRecDepth 20000 in
theorem lX10_costs_175 : lk (tX10_costs d mc ms P) 175 = oI2 (fun x y => x * y) 176 := rfl
set_option maxRecDepth 20000 in
theorem lX10_costs_176 : lk (tX10_costs d mc ms P) 176 = oI2 (fun x y => x + y) 177 := rfl
set_option maxRecDepth 20000 in
theorem lX10_costs_177 : lk (tX10_costs d mc ms P) 177 = oRetI mc ms P := rfl
theorem lX10_cost_0 : lk (tX10_cost d mc ms P) 0 = oAld 0 1 := rfl
theorem lX10_cost_1 : lk (tX10_cost d mc ms P) 1 = oPush (.int 0) 2 := rfl
theorem lX10_cost_2 : lk (tX10_cost d mc ms P) 2 = oPi 10 0 5 := rfl
theorem lX10_cost_5 : lk (tX10_cost d mc ms P) 5 = oIld 1 6 := rfl
theorem lX10_cost_6 : lk (tX10_cost d mc ms P) 6 = oIld 2 7 := rfl
theorem lX10_cost_7 : lk (tX10_cost d mc ms P) 7 = oCallS d mc ms P 0 0 yX10_isOrder (Cond.code yX10_isOrder cX10_isOrder 2 (some .boolean)) 2 10 := rfl
theorem lX10_cost_10 : lk (tX10_cost d mc ms P) 10 = oIf (fun x => x = 0) 13 19 := rfl
theorem lX10_cost_13 : lk (tX10_cost d mc ms P) 13 = oAld 0 14 := rfl
theorem lX10_cost_14 : lk (tX10_cost d mc ms P) 14 = oPush (.int 1) 15 := rfl
theorem lX10_cost_15 : lk (tX10_cost d mc ms P) 15 = oCallV d mc ms P 0 0 yX10_raises (Cond.code yX10_raises cX10_raises 2 (some .int)) 1 10 18 := rfl
theorem lX10_cost_18 : lk (tX10_cost d mc ms P) 18 = oRetI mc ms P := rfl
theorem lX10_cost_19 : lk (tX10_cost d mc ms P) 19 = oIld 1 20 := rfl
theorem lX10_cost_20 : lk (tX10_cost d mc ms P) 20 = oIf (fun x => x ≤ 0) 38 23 := rfl
theorem lX10_cost_23 : lk (tX10_cost d mc ms P) 23 = oAld 0 24 := rfl
theorem lX10_cost_24 : lk (tX10_cost d mc ms P) 24 = oCallV d mc ms P 0 0 yX10_parallel (Cond.code yX10_parallel cX10_parallel 2 (some .boolean)) 0 10 27 := rfl
theorem lX10_cost_27 : lk (tX10_cost d mc ms P) 27 = oIf (fun x => x = 0) 30 38 := rfl
theorem lX10_cost_30 : lk (tX10_cost d mc ms P) 30 = oAld 0 31 := rfl
theorem lX10_cost_31 : lk (tX10_cost d mc ms P) 31 = oPush (.int 2) 32 := rfl
theorem lX10_cost_32 : lk (tX10_cost d mc ms P) 32 = oCallV d mc ms P 0 0 yX10_raises (Cond.code yX10_raises cX10_raises 2 (some .int)) 1 10 35 := rfl
theorem lX10_cost_35 : lk (tX10_cost d mc ms P) 35 = oGoto 44 := rfl
theorem lX10_cost_38 : lk (tX10_cost d mc ms P) 38 = oAld 0 39 := rfl
theorem lX10_cost_39 : lk (tX10_cost d mc ms P) 39 = oIld 1 40 := rfl
theorem lX10_cost_40 : lk (tX10_cost d mc ms P) 40 = oIld 2 41 := rfl
theorem lX10_cost_41 : lk (tX10_cost d mc ms P) 41 = oCallV d mc ms P 0 0 yX10_costs (Cond.code yX10_costs cX10_costs 8 (some .int)) 2 10 44 := rfl
theorem lX10_cost_44 : lk (tX10_cost d mc ms P) 44 = oRetI mc ms P := rfl
theorem lX10_cheapest_0 : lk (tX10_cheapest d mc ms P) 0 = oAld 0 1 := rfl
theorem lX10_cheapest_1 : lk (tX10_cheapest d mc ms P) 1 = oPush (.int 0) 2 := rfl
theorem lX10_cheapest_2 : lk (tX10_cheapest d mc ms P) 2 = oPi 10 0 5 := rfl
theorem lX10_cheapest_5 : lk (tX10_cheapest d mc ms P) 5 = oPush (.int 0) 6 := rfl
theorem lX10_cheapest_6 : lk (tX10_cheapest d mc ms P) 6 = oIst 1 7 := rfl
theorem lX10_cheapest_7 : lk (tX10_cheapest d mc ms P) 7 = oAld 0 8 := rfl
theorem lX10_cheapest_8 : lk (tX10_cheapest d mc ms P) 8 = oPush (.int 0) 9 := rfl
theorem lX10_cheapest_9 : lk (tX10_cheapest d mc ms P) 9 = oPush (.int 0) 10 := rfl
theorem lX10_cheapest_10 : lk (tX10_cheapest d mc ms P) 10 = oCallV d mc ms P 0 0 yX10_costs (Cond.code yX10_costs cX10_costs 8 (some .int)) 2 10 13 := rfl
theorem lX10_cheapest_13 : lk (tX10_cheapest d mc ms P) 13 = oIst 2 14 := rfl
theorem lX10_cheapest_14 : lk (tX10_cheapest d mc ms P) 14 = oAld 0 15 := rfl
theorem lX10_cheapest_15 : lk (tX10_cheapest d mc ms P) 15 = oCallV d mc ms P 0 0 yX10_parallel (Cond.code yX10_parallel cX10_parallel 2 (some .boolean)) 0 10 18 := rfl
theorem lX10_cheapest_18 : lk (tX10_cheapest d mc ms P) 18 = oIf (fun x => x = 0) 21 23 := rfl
theorem lX10_cheapest_21 : lk (tX10_cheapest d mc ms P) 21 = oPush (.int 0) 22 := rfl
theorem lX10_cheapest_22 : lk (tX10_cheapest d mc ms P) 22 = oRetI mc ms P := rfl
theorem lX10_cheapest_23 : lk (tX10_cheapest d mc ms P) 23 = oPush (.int 0) 24 := rfl
theorem lX10_cheapest_24 : lk (tX10_cheapest d mc ms P) 24 = oIst 3 25 := rfl
theorem lX10_cheapest_25 : lk (tX10_cheapest d mc ms P) 25 = oIld 3 26 := rfl
theorem lX10_cheapest_26 : lk (tX10_cheapest d mc ms P) 26 = oPush (.int 7) 28 := rfl
theorem lX10_cheapest_28 : lk (tX10_cheapest d mc ms P) 28 = oIc (fun x y => y ≤ x) 107 31 := rfl
theorem lX10_cheapest_31 : lk (tX10_cheapest d mc ms P) 31 = oIld 3 32 := rfl
theorem lX10_cheapest_32 : lk (tX10_cheapest d mc ms P) 32 = oPush (.int 3) 33 := rfl
theorem lX10_cheapest_33 : lk (tX10_cheapest d mc ms P) 33 = oIc (fun x y => y ≤ x) 40 36 := rfl
theorem lX10_cheapest_36 : lk (tX10_cheapest d mc ms P) 36 = oPush (.int 1) 37 := rfl
theorem lX10_cheapest_37 : lk (tX10_cheapest d mc ms P) 37 = oGoto 51 := rfl
theorem lX10_cheapest_40 : lk (tX10_cheapest d mc ms P) 40 = oIld 3 41 := rfl
theorem lX10_cheapest_41 : lk (tX10_cheapest d mc ms P) 41 = oPush (.int 6) 43 := rfl
theorem lX10_cheapest_43 : lk (tX10_cheapest d mc ms P) 43 = oIc (fun x y => y ≤ x) 50 46 := rfl
theorem lX10_cheapest_46 : lk (tX10_cheapest d mc ms P) 46 = oPush (.int 2) 47 := rfl
theorem lX10_cheapest_47 : lk (tX10_cheapest d mc ms P) 47 = oGoto 51 := rfl
theorem lX10_cheapest_50 : lk (tX10_cheapest d mc ms P) 50 = oPush (.int 3) 51 := rfl
theorem lX10_cheapest_51 : lk (tX10_cheapest d mc ms P) 51 = oIst 4 53 := rfl
theorem lX10_cheapest_53 : lk (tX10_cheapest d mc ms P) 53 = oIld 4 55 := rfl
theorem lX10_cheapest_55 : lk (tX10_cheapest d mc ms P) 55 = oPush (.int 3) 56 := rfl
theorem lX10_cheapest_56 : lk (tX10_cheapest d mc ms P) 56 = oIc (fun x y => x = y) 59 63 := rfl
theorem lX10_cheapest_59 : lk (tX10_cheapest d mc ms P) 59 = oPush (.int 0) 60 := rfl
theorem lX10_cheapest_60 : lk (tX10_cheapest d mc ms P) 60 = oGoto 68 := rfl
theorem lX10_cheapest_63 : lk (tX10_cheapest d mc ms P) 63 = oPush (.int 2) 64 := rfl
theorem lX10_cheapest_64 : lk (tX10_cheapest d mc ms P) 64 = oIld 3 65 := rfl
theorem lX10_cheapest_65 : lk (tX10_cheapest d mc ms P) 65 = oPush (.int 3) 66 := rfl
theorem lX10_cheapest_66 : lk (tX10_cheapest d mc ms P) 66 = oI2n (fun x y => x - x / y * y) 67 := rfl
theorem lX10_cheapest_67 : lk (tX10_cheapest d mc ms P) 67 = oI2 (fun x y => x <<< (y &&& 31)) 68 := rfl
theorem lX10_cheapest_68 : lk (tX10_cheapest d mc ms P) 68 = oIst 5 70 := rfl
theorem lX10_cheapest_70 : lk (tX10_cheapest d mc ms P) 70 = oAld 0 71 := rfl
theorem lX10_cheapest_71 : lk (tX10_cheapest d mc ms P) 71 = oIld 4 73 := rfl
theorem lX10_cheapest_73 : lk (tX10_cheapest d mc ms P) 73 = oIld 5 75 := rfl
theorem lX10_cheapest_75 : lk (tX10_cheapest d mc ms P) 75 = oCallV d mc ms P 0 0 yX10_costs (Cond.code yX10_costs cX10_costs 8 (some .int)) 2 10 78 := rfl
theorem lX10_cheapest_78 : lk (tX10_cheapest d mc ms P) 78 = oIst 6 80 := rfl
theorem lX10_cheapest_80 : lk (tX10_cheapest d mc ms P) 80 = oIld 6 82 := rfl
theorem lX10_cheapest_82 : lk (tX10_cheapest d mc ms P) 82 = oIld 2 83 := rfl
theorem lX10_cheapest_83 : lk (tX10_cheapest d mc ms P) 83 = oIc (fun x y => x < y) 89 86 := rfl
set_option maxRecDepth 20000 in
theorem lX10_cheapest_86 : lk (tX10_cheapest d mc ms P) 86 = oGoto 101 := rfl
set_option maxRecDepth 20000 in
theorem lX10_cheapest_89 : lk (tX10_cheapest d mc ms P) 89 = oIld 6 91 := rfl
set_option maxRecDepth 20000 in
theorem lX10_cheapest_91 : lk (tX10_cheapest d mc ms P) 91 = oIst 2 92 := rfl
set_option maxRecDepth 20000 in
theorem lX10_cheapest_92 : lk (tX10_cheapest d mc ms P) 92 = oPush (.int 10) 94 := rfl
set_option maxRecDepth 20000 in
theorem lX10_cheapest_94 : lk (tX10_cheapest d mc ms P) 94 = oIld 4 96 := rfl
set_option maxRecDepth 20000 in
theorem lX10_cheapest_96 : lk (tX10_cheapest d mc ms P) 96 = oI2 (fun x y => x * y) 97 := rfl
set_option maxRecDepth 20000 in
theorem lX10_cheapest_97 : lk (tX10_cheapest d mc ms P) 97 = oIld 5 99 := rfl
set_option maxRecDepth 20000 in
theorem lX10_cheapest_99 : lk (tX10_cheapest d mc ms P) 99 = oI2 (fun x y => x + y) 100 := rfl
set_option maxRecDepth 20000 in
theorem lX10_cheapest_100 : lk (tX10_cheapest d mc ms P) 100 = oIst 1 101 := rfl
set_option maxRecDepth 20000 in
theorem lX10_cheapest_101 : lk (tX10_cheapest d mc ms P) 101 = oInc 3 1 104 := rfl
set_option maxRecDepth 20000 in
theorem lX10_cheapest_104 : lk (tX10_cheapest d mc ms P) 104 = oGoto 25 := rfl
set_option maxRecDepth 20000 in
theorem lX10_cheapest_107 : lk (tX10_cheapest d mc ms P) 107 = oIld 1 108 := rfl
set_option maxRecDepth 20000 in
theorem lX10_cheapest_108 : lk (tX10_cheapest d mc ms P) 108 = oRetI mc ms P := rfl
theorem lX10_save_0 : lk (tX10_save d mc ms P) 0 = oAld 0 1 := rfl
theorem lX10_save_1 : lk (tX10_save d mc ms P) 1 = oPush (.int 0) 2 := rfl
theorem lX10_save_2 : lk (tX10_save d mc ms P) 2 = oPi 10 0 5 := rfl
theorem lX10_save_5 : lk (tX10_save d mc ms P) 5 = oAld 0 6 := rfl
theorem lX10_save_6 : lk (tX10_save d mc ms P) 6 = oPush (.int 1) 7 := rfl
theorem lX10_save_7 : lk (tX10_save d mc ms P) 7 = oPz 10 3 10 := rfl
theorem lX10_save_10 : lk (tX10_save d mc ms P) 10 = oAld 0 11 := rfl
theorem lX10_save_11 : lk (tX10_save d mc ms P) 11 = oAld 0 12 := rfl
theorem lX10_save_12 : lk (tX10_save d mc ms P) 12 = oGr 10 1 15 := rfl
theorem lX10_save_15 : lk (tX10_save d mc ms P) 15 = oAld 0 16 := rfl
theorem lX10_save_16 : lk (tX10_save d mc ms P) 16 = oGr 10 2 19 := rfl
theorem lX10_save_19 : lk (tX10_save d mc ms P) 19 = oCallV d mc ms P 0 0 yX10_keeps (Cond.code yX10_keeps cX10_keeps 4 none) 2 10 22 := rfl
theorem lX10_save_22 : lk (tX10_save d mc ms P) 22 = oRetV mc ms P := rfl
theorem lX10_restore_0 : lk (tX10_restore d mc ms P) 0 = oAld 0 1 := rfl
theorem lX10_restore_1 : lk (tX10_restore d mc ms P) 1 = oAld 0 2 := rfl
theorem lX10_restore_2 : lk (tX10_restore d mc ms P) 2 = oGi 10 3 5 := rfl
theorem lX10_restore_5 : lk (tX10_restore d mc ms P) 5 = oIf (fun x => x = 0) 12 8 := rfl
theorem lX10_restore_8 : lk (tX10_restore d mc ms P) 8 = oPush (.int 0) 9 := rfl
theorem lX10_restore_9 : lk (tX10_restore d mc ms P) 9 = oGoto 13 := rfl
theorem lX10_restore_12 : lk (tX10_restore d mc ms P) 12 = oPush (.int 1) 13 := rfl
theorem lX10_restore_13 : lk (tX10_restore d mc ms P) 13 = oPi 10 0 16 := rfl
theorem lX10_restore_16 : lk (tX10_restore d mc ms P) 16 = oAld 0 17 := rfl
theorem lX10_restore_17 : lk (tX10_restore d mc ms P) 17 = oGi 10 3 20 := rfl
theorem lX10_restore_20 : lk (tX10_restore d mc ms P) 20 = oIf (fun x => x = 0) 23 24 := rfl
theorem lX10_restore_23 : lk (tX10_restore d mc ms P) 23 = oRetV mc ms P := rfl
theorem lX10_restore_24 : lk (tX10_restore d mc ms P) 24 = oAld 0 25 := rfl
theorem lX10_restore_25 : lk (tX10_restore d mc ms P) 25 = oAld 0 26 := rfl
theorem lX10_restore_26 : lk (tX10_restore d mc ms P) 26 = oGr 10 2 29 := rfl
theorem lX10_restore_29 : lk (tX10_restore d mc ms P) 29 = oAld 0 30 := rfl
theorem lX10_restore_30 : lk (tX10_restore d mc ms P) 30 = oGr 10 1 33 := rfl
theorem lX10_restore_33 : lk (tX10_restore d mc ms P) 33 = oCallV d mc ms P 0 0 yX10_keeps (Cond.code yX10_keeps cX10_keeps 4 none) 2 10 36 := rfl
theorem lX10_restore_36 : lk (tX10_restore d mc ms P) 36 = oAld 0 37 := rfl
theorem lX10_restore_37 : lk (tX10_restore d mc ms P) 37 = oCallV d mc ms P 0 0 yX10_ends (Cond.code yX10_ends cX10_ends 7 (some .boolean)) 0 10 40 := rfl
theorem lX10_restore_40 : lk (tX10_restore d mc ms P) 40 = oPop 41 := rfl
theorem lX10_restore_41 : lk (tX10_restore d mc ms P) 41 = oAld 0 42 := rfl
theorem lX10_restore_42 : lk (tX10_restore d mc ms P) 42 = oCallV d mc ms P 0 0 yX10_drops (Cond.code yX10_drops cX10_drops 1 none) 0 10 45 := rfl
theorem lX10_restore_45 : lk (tX10_restore d mc ms P) 45 = oRetV mc ms P := rfl
end
