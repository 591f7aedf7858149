section
variable {d mc ms : Nat} {P : PO}
theorem lX9_append_0 : lk (tX9_append d mc ms P) 0 = oPush (.int 0) 1 := rfl
theorem lX9_append_1 : lk (tX9_append d mc ms P) 1 = oIst 2 2 := rfl
theorem lX9_append_2 : lk (tX9_append d mc ms P) 2 = oPush (.int 24) 4 := rfl
theorem lX9_append_4 : lk (tX9_append d mc ms P) 4 = oIst 3 5 := rfl
theorem lX9_append_5 : lk (tX9_append d mc ms P) 5 = oIld 3 6 := rfl
theorem lX9_append_6 : lk (tX9_append d mc ms P) 6 = oIf (fun x => x < 0) 61 9 := rfl
theorem lX9_append_9 : lk (tX9_append d mc ms P) 9 = oIld 1 10 := rfl
theorem lX9_append_10 : lk (tX9_append d mc ms P) 10 = oIld 3 11 := rfl
theorem lX9_append_11 : lk (tX9_append d mc ms P) 11 = oI2 (fun x y => (x.toUInt32 >>> (y.toUInt32 &&& Int32.toUInt32 31)).toInt32) 12 := rfl
theorem lX9_append_12 : lk (tX9_append d mc ms P) 12 = oPush (.int 255) 15 := rfl
theorem lX9_append_15 : lk (tX9_append d mc ms P) 15 = oI2 (fun x y => x &&& y) 16 := rfl
theorem lX9_append_16 : lk (tX9_append d mc ms P) 16 = oIst 4 18 := rfl
theorem lX9_append_18 : lk (tX9_append d mc ms P) 18 = oIld 4 20 := rfl
theorem lX9_append_20 : lk (tX9_append d mc ms P) 20 = oIf (fun x => x = 0) 47 23 := rfl
theorem lX9_append_23 : lk (tX9_append d mc ms P) 23 = oIld 4 25 := rfl
theorem lX9_append_25 : lk (tX9_append d mc ms P) 25 = oPush (.int 33) 27 := rfl
theorem lX9_append_27 : lk (tX9_append d mc ms P) 27 = oIc (fun x y => x < y) 37 30 := rfl
theorem lX9_append_30 : lk (tX9_append d mc ms P) 30 = oIld 4 32 := rfl
theorem lX9_append_32 : lk (tX9_append d mc ms P) 32 = oPush (.int 126) 34 := rfl
theorem lX9_append_34 : lk (tX9_append d mc ms P) 34 = oIc (fun x y => x ≤ y) 47 37 := rfl
theorem lX9_append_37 : lk (tX9_append d mc ms P) 37 = oThrow mc ms P 0 := rfl
theorem lX9_append_47 : lk (tX9_append d mc ms P) 47 = oIld 4 49 := rfl
theorem lX9_append_49 : lk (tX9_append d mc ms P) 49 = oIf (fun x => x = 0) 55 52 := rfl
theorem lX9_append_52 : lk (tX9_append d mc ms P) 52 = oInc 2 1 55 := rfl
theorem lX9_append_55 : lk (tX9_append d mc ms P) 55 = oInc 3 (-8) 58 := rfl
theorem lX9_append_58 : lk (tX9_append d mc ms P) 58 = oGoto 5 := rfl
theorem lX9_append_61 : lk (tX9_append d mc ms P) 61 = oAld 0 62 := rfl
theorem lX9_append_62 : lk (tX9_append d mc ms P) 62 = oGr 9 0 65 := rfl
theorem lX9_append_65 : lk (tX9_append d mc ms P) 65 = oGi 7 1 68 := rfl
theorem lX9_append_68 : lk (tX9_append d mc ms P) 68 = oIld 2 69 := rfl
theorem lX9_append_69 : lk (tX9_append d mc ms P) 69 = oI2 (fun x y => x + y) 70 := rfl
theorem lX9_append_70 : lk (tX9_append d mc ms P) 70 = oPush (.int 100) 72 := rfl
theorem lX9_append_72 : lk (tX9_append d mc ms P) 72 = oIc (fun x y => x ≤ y) 85 75 := rfl
theorem lX9_append_75 : lk (tX9_append d mc ms P) 75 = oThrow mc ms P 1 := rfl
theorem lX9_append_85 : lk (tX9_append d mc ms P) 85 = oPush (.int 24) 87 := rfl
theorem lX9_append_87 : lk (tX9_append d mc ms P) 87 = oIst 3 88 := rfl
theorem lX9_append_88 : lk (tX9_append d mc ms P) 88 = oIld 3 89 := rfl
theorem lX9_append_89 : lk (tX9_append d mc ms P) 89 = oIf (fun x => x < 0) 122 92 := rfl
theorem lX9_append_92 : lk (tX9_append d mc ms P) 92 = oIld 1 93 := rfl
theorem lX9_append_93 : lk (tX9_append d mc ms P) 93 = oIld 3 94 := rfl
theorem lX9_append_94 : lk (tX9_append d mc ms P) 94 = oI2 (fun x y => (x.toUInt32 >>> (y.toUInt32 &&& Int32.toUInt32 31)).toInt32) 95 := rfl
theorem lX9_append_95 : lk (tX9_append d mc ms P) 95 = oPush (.int 255) 98 := rfl
theorem lX9_append_98 : lk (tX9_append d mc ms P) 98 = oI2 (fun x y => x &&& y) 99 := rfl
theorem lX9_append_99 : lk (tX9_append d mc ms P) 99 = oIst 4 101 := rfl
theorem lX9_append_101 : lk (tX9_append d mc ms P) 101 = oIld 4 103 := rfl
theorem lX9_append_103 : lk (tX9_append d mc ms P) 103 = oIf (fun x => x = 0) 116 106 := rfl
theorem lX9_append_106 : lk (tX9_append d mc ms P) 106 = oAld 0 107 := rfl
theorem lX9_append_107 : lk (tX9_append d mc ms P) 107 = oGr 9 0 110 := rfl
theorem lX9_append_110 : lk (tX9_append d mc ms P) 110 = oIld 4 112 := rfl
theorem lX9_append_112 : lk (tX9_append d mc ms P) 112 = oIcv (fun x => .int (x.toUInt32 % 65536).toInt32) 113 := rfl
theorem lX9_append_113 : lk (tX9_append d mc ms P) 113 = oCallV d mc ms P 0 0 yX7_addSign (Cond.code yX7_addSign cX7_addSign 2 none) 1 7 116 := rfl
set_option maxRecDepth 20000 in
theorem lX9_append_116 : lk (tX9_append d mc ms P) 116 = oInc 3 (-8) 119 := rfl
set_option maxRecDepth 20000 in
theorem lX9_append_119 : lk (tX9_append d mc ms P) 119 = oGoto 88 := rfl
set_option maxRecDepth 20000 in
theorem lX9_append_122 : lk (tX9_append d mc ms P) 122 = oAld 0 123 := rfl
set_option maxRecDepth 20000 in
theorem lX9_append_123 : lk (tX9_append d mc ms P) 123 = oGr 9 0 126 := rfl
set_option maxRecDepth 20000 in
theorem lX9_append_126 : lk (tX9_append d mc ms P) 126 = oGi 7 1 129 := rfl
set_option maxRecDepth 20000 in
theorem lX9_append_129 : lk (tX9_append d mc ms P) 129 = oRetI mc ms P := rfl
theorem lX9_load_0 : lk (tX9_load d mc ms P) 0 = oAld 0 1 := rfl
theorem lX9_load_1 : lk (tX9_load d mc ms P) 1 = oGr 9 0 4 := rfl
theorem lX9_load_4 : lk (tX9_load d mc ms P) 4 = oCallV d mc ms P 0 0 yX7_readText (Cond.code yX7_readText cX7_readText 2 (some .boolean)) 0 7 7 := rfl
theorem lX9_load_7 : lk (tX9_load d mc ms P) 7 = oIst 1 8 := rfl
theorem lX9_load_8 : lk (tX9_load d mc ms P) 8 = oAld 0 9 := rfl
theorem lX9_load_9 : lk (tX9_load d mc ms P) 9 = oIld 1 10 := rfl
theorem lX9_load_10 : lk (tX9_load d mc ms P) 10 = oIf (fun x => x = 0) 17 13 := rfl
theorem lX9_load_13 : lk (tX9_load d mc ms P) 13 = oPush (.int (-1)) 14 := rfl
theorem lX9_load_14 : lk (tX9_load d mc ms P) 14 = oGoto 24 := rfl
theorem lX9_load_17 : lk (tX9_load d mc ms P) 17 = oAld 0 18 := rfl
theorem lX9_load_18 : lk (tX9_load d mc ms P) 18 = oGr 9 0 21 := rfl
theorem lX9_load_21 : lk (tX9_load d mc ms P) 21 = oGi 7 2 24 := rfl
theorem lX9_load_24 : lk (tX9_load d mc ms P) 24 = oPi 9 10 27 := rfl
theorem lX9_load_27 : lk (tX9_load d mc ms P) 27 = oAld 0 28 := rfl
theorem lX9_load_28 : lk (tX9_load d mc ms P) 28 = oGr 9 0 31 := rfl
theorem lX9_load_31 : lk (tX9_load d mc ms P) 31 = oPush (.int 0) 32 := rfl
theorem lX9_load_32 : lk (tX9_load d mc ms P) 32 = oPi 7 1 35 := rfl
theorem lX9_load_35 : lk (tX9_load d mc ms P) 35 = oIld 1 36 := rfl
theorem lX9_load_36 : lk (tX9_load d mc ms P) 36 = oIf (fun x => x = 0) 39 49 := rfl
theorem lX9_load_39 : lk (tX9_load d mc ms P) 39 = oThrow mc ms P 0 := rfl
theorem lX9_load_49 : lk (tX9_load d mc ms P) 49 = oAld 0 50 := rfl
theorem lX9_load_50 : lk (tX9_load d mc ms P) 50 = oCallV d mc ms P 0 0 yX9_spareProgram (Cond.code yX9_spareProgram cX9_spareProgram 2 (some (.object "ReductionFinder$Program"))) 0 9 53 := rfl
theorem lX9_load_53 : lk (tX9_load d mc ms P) 53 = oAst 2 54 := rfl
theorem lX9_load_54 : lk (tX9_load d mc ms P) 54 = oAld 2 55 := rfl
theorem lX9_load_55 : lk (tX9_load d mc ms P) 55 = oAld 0 56 := rfl
theorem lX9_load_56 : lk (tX9_load d mc ms P) 56 = oGr 9 0 59 := rfl
theorem lX9_load_59 : lk (tX9_load d mc ms P) 59 = oCallV d mc ms P 0 0 yX6_build (Cond.code yX6_build cX6_build 3 (some .boolean)) 1 6 62 := rfl
theorem lX9_load_62 : lk (tX9_load d mc ms P) 62 = oIf (fun x => x = 0) 65 75 := rfl
theorem lX9_load_65 : lk (tX9_load d mc ms P) 65 = oThrow mc ms P 1 := rfl
theorem lX9_load_75 : lk (tX9_load d mc ms P) 75 = oAld 2 76 := rfl
theorem lX9_load_76 : lk (tX9_load d mc ms P) 76 = oAld 0 77 := rfl
theorem lX9_load_77 : lk (tX9_load d mc ms P) 77 = oGr 9 2 80 := rfl
theorem lX9_load_80 : lk (tX9_load d mc ms P) 80 = oCallV d mc ms P 0 0 yX6_classify (Cond.code yX6_classify cX6_classify 4 none) 1 6 83 := rfl
theorem lX9_load_83 : lk (tX9_load d mc ms P) 83 = oAld 0 84 := rfl
theorem lX9_load_84 : lk (tX9_load d mc ms P) 84 = oAld 2 85 := rfl
theorem lX9_load_85 : lk (tX9_load d mc ms P) 85 = oCallV d mc ms P 0 0 yX9_switchTo (Cond.code yX9_switchTo cX9_switchTo 2 none) 1 9 88 := rfl
theorem lX9_load_88 : lk (tX9_load d mc ms P) 88 = oAld 0 89 := rfl
theorem lX9_load_89 : lk (tX9_load d mc ms P) 89 = oGr 9 8 92 := rfl
theorem lX9_load_92 : lk (tX9_load d mc ms P) 92 = oGi 6 3 95 := rfl
theorem lX9_load_95 : lk (tX9_load d mc ms P) 95 = oRetI mc ms P := rfl
theorem lX9_faultPosition_0 : lk (tX9_faultPosition d mc ms P) 0 = oAld 0 1 := rfl
theorem lX9_faultPosition_1 : lk (tX9_faultPosition d mc ms P) 1 = oGi 9 10 4 := rfl
theorem lX9_faultPosition_4 : lk (tX9_faultPosition d mc ms P) 4 = oRetI mc ms P := rfl
theorem lX9_statements_0 : lk (tX9_statements d mc ms P) 0 = oAld 0 1 := rfl
theorem lX9_statements_1 : lk (tX9_statements d mc ms P) 1 = oGr 9 8 4 := rfl
theorem lX9_statements_4 : lk (tX9_statements d mc ms P) 4 = oGi 6 3 7 := rfl
theorem lX9_statements_7 : lk (tX9_statements d mc ms P) 7 = oRetI mc ms P := rfl
theorem lX9_setMode_0 : lk (tX9_setMode d mc ms P) 0 = oIld 1 1 := rfl
theorem lX9_setMode_1 : lk (tX9_setMode d mc ms P) 1 = oIf (fun x => x = 0) 19 4 := rfl
theorem lX9_setMode_4 : lk (tX9_setMode d mc ms P) 4 = oIld 1 5 := rfl
theorem lX9_setMode_5 : lk (tX9_setMode d mc ms P) 5 = oPush (.int 1) 6 := rfl
theorem lX9_setMode_6 : lk (tX9_setMode d mc ms P) 6 = oIc (fun x y => x = y) 19 9 := rfl
theorem lX9_setMode_9 : lk (tX9_setMode d mc ms P) 9 = oThrow mc ms P 0 := rfl
theorem lX9_setMode_19 : lk (tX9_setMode d mc ms P) 19 = oAld 0 20 := rfl
theorem lX9_setMode_20 : lk (tX9_setMode d mc ms P) 20 = oGr 9 4 23 := rfl
theorem lX9_setMode_23 : lk (tX9_setMode d mc ms P) 23 = oGi 1 0 26 := rfl
theorem lX9_setMode_26 : lk (tX9_setMode d mc ms P) 26 = oIst 2 27 := rfl
theorem lX9_setMode_27 : lk (tX9_setMode d mc ms P) 27 = oAld 0 28 := rfl
theorem lX9_setMode_28 : lk (tX9_setMode d mc ms P) 28 = oGr 9 4 31 := rfl
theorem lX9_setMode_31 : lk (tX9_setMode d mc ms P) 31 = oIld 1 32 := rfl
theorem lX9_setMode_32 : lk (tX9_setMode d mc ms P) 32 = oPi 1 0 35 := rfl
theorem lX9_setMode_35 : lk (tX9_setMode d mc ms P) 35 = oIld 2 36 := rfl
theorem lX9_setMode_36 : lk (tX9_setMode d mc ms P) 36 = oRetI mc ms P := rfl
theorem lX9_setCount_0 : lk (tX9_setCount d mc ms P) 0 = oIld 1 1 := rfl
theorem lX9_setCount_1 : lk (tX9_setCount d mc ms P) 1 = oIf (fun x => x < 0) 10 4 := rfl
theorem lX9_setCount_4 : lk (tX9_setCount d mc ms P) 4 = oIld 1 5 := rfl
theorem lX9_setCount_5 : lk (tX9_setCount d mc ms P) 5 = oPush (.int 16) 7 := rfl
theorem lX9_setCount_7 : lk (tX9_setCount d mc ms P) 7 = oIc (fun x y => x ≤ y) 20 10 := rfl
theorem lX9_setCount_10 : lk (tX9_setCount d mc ms P) 10 = oThrow mc ms P 0 := rfl
theorem lX9_setCount_20 : lk (tX9_setCount d mc ms P) 20 = oAld 0 21 := rfl
theorem lX9_setCount_21 : lk (tX9_setCount d mc ms P) 21 = oGr 9 4 24 := rfl
theorem lX9_setCount_24 : lk (tX9_setCount d mc ms P) 24 = oGi 1 1 27 := rfl
theorem lX9_setCount_27 : lk (tX9_setCount d mc ms P) 27 = oIst 2 28 := rfl
theorem lX9_setCount_28 : lk (tX9_setCount d mc ms P) 28 = oAld 0 29 := rfl
theorem lX9_setCount_29 : lk (tX9_setCount d mc ms P) 29 = oGr 9 4 32 := rfl
theorem lX9_setCount_32 : lk (tX9_setCount d mc ms P) 32 = oIld 1 33 := rfl
theorem lX9_setCount_33 : lk (tX9_setCount d mc ms P) 33 = oPi 1 1 36 := rfl
theorem lX9_setCount_36 : lk (tX9_setCount d mc ms P) 36 = oIld 2 37 := rfl
theorem lX9_setCount_37 : lk (tX9_setCount d mc ms P) 37 = oRetI mc ms P := rfl
theorem lX9_setElement_0 : lk (tX9_setElement d mc ms P) 0 = oIld 1 1 := rfl
theorem lX9_setElement_1 : lk (tX9_setElement d mc ms P) 1 = oIld 2 2 := rfl
theorem lX9_setElement_2 : lk (tX9_setElement d mc ms P) 2 = oCallS d mc ms P 1 6 yX9_checkElement (Cond.code yX9_checkElement cX9_checkElement 2 none) 2 5 := rfl
theorem lX9_setElement_5 : lk (tX9_setElement d mc ms P) 5 = oIld 3 6 := rfl
theorem lX9_setElement_6 : lk (tX9_setElement d mc ms P) 6 = oPush (.int (-99)) 8 := rfl
theorem lX9_setElement_8 : lk (tX9_setElement d mc ms P) 8 = oIc (fun x y => x < y) 17 11 := rfl
theorem lX9_setElement_11 : lk (tX9_setElement d mc ms P) 11 = oIld 3 12 := rfl
theorem lX9_setElement_12 : lk (tX9_setElement d mc ms P) 12 = oPush (.int 99) 14 := rfl
theorem lX9_setElement_14 : lk (tX9_setElement d mc ms P) 14 = oIc (fun x y => x ≤ y) 27 17 := rfl
theorem lX9_setElement_17 : lk (tX9_setElement d mc ms P) 17 = oThrow mc ms P 0 := rfl
theorem lX9_setElement_27 : lk (tX9_setElement d mc ms P) 27 = oAld 0 28 := rfl
theorem lX9_setElement_28 : lk (tX9_setElement d mc ms P) 28 = oGr 9 4 31 := rfl
theorem lX9_setElement_31 : lk (tX9_setElement d mc ms P) 31 = oGr 1 2 34 := rfl
theorem lX9_setElement_34 : lk (tX9_setElement d mc ms P) 34 = oIld 1 35 := rfl
theorem lX9_setElement_35 : lk (tX9_setElement d mc ms P) 35 = oAr 106 36 := rfl
theorem lX9_setElement_36 : lk (tX9_setElement d mc ms P) 36 = oIld 2 37 := rfl
theorem lX9_setElement_37 : lk (tX9_setElement d mc ms P) 37 = oAi 100 38 := rfl
theorem lX9_setElement_38 : lk (tX9_setElement d mc ms P) 38 = oIst 4 40 := rfl
theorem lX9_setElement_40 : lk (tX9_setElement d mc ms P) 40 = oAld 0 41 := rfl
theorem lX9_setElement_41 : lk (tX9_setElement d mc ms P) 41 = oGr 9 4 44 := rfl
theorem lX9_setElement_44 : lk (tX9_setElement d mc ms P) 44 = oGr 1 2 47 := rfl
theorem lX9_setElement_47 : lk (tX9_setElement d mc ms P) 47 = oIld 1 48 := rfl
theorem lX9_setElement_48 : lk (tX9_setElement d mc ms P) 48 = oAr 106 49 := rfl
theorem lX9_setElement_49 : lk (tX9_setElement d mc ms P) 49 = oIld 2 50 := rfl
theorem lX9_setElement_50 : lk (tX9_setElement d mc ms P) 50 = oIld 3 51 := rfl
theorem lX9_setElement_51 : lk (tX9_setElement d mc ms P) 51 = oSi 100 (fun x => x) 52 := rfl
theorem lX9_setElement_52 : lk (tX9_setElement d mc ms P) 52 = oIld 4 54 := rfl
theorem lX9_setElement_54 : lk (tX9_setElement d mc ms P) 54 = oRetI mc ms P := rfl
theorem lX9_fill_0 : lk (tX9_fill d mc ms P) 0 = oIld 1 1 := rfl
theorem lX9_fill_1 : lk (tX9_fill d mc ms P) 1 = oPush (.int 0) 2 := rfl
theorem lX9_fill_2 : lk (tX9_fill d mc ms P) 2 = oCallS d mc ms P 1 6 yX9_checkElement (Cond.code yX9_checkElement cX9_checkElement 2 none) 2 5 := rfl
theorem lX9_fill_5 : lk (tX9_fill d mc ms P) 5 = oIld 2 6 := rfl
theorem lX9_fill_6 : lk (tX9_fill d mc ms P) 6 = oIst 3 7 := rfl
theorem lX9_fill_7 : lk (tX9_fill d mc ms P) 7 = oPush (.int 0) 8 := rfl
theorem lX9_fill_8 : lk (tX9_fill d mc ms P) 8 = oIst 4 10 := rfl
theorem lX9_fill_10 : lk (tX9_fill d mc ms P) 10 = oPush (.int 0) 11 := rfl
theorem lX9_fill_11 : lk (tX9_fill d mc ms P) 11 = oIst 5 13 := rfl
theorem lX9_fill_13 : lk (tX9_fill d mc ms P) 13 = oIld 5 15 := rfl
theorem lX9_fill_15 : lk (tX9_fill d mc ms P) 15 = oPush (.int 16) 17 := rfl
theorem lX9_fill_17 : lk (tX9_fill d mc ms P) 17 = oIc (fun x y => y ≤ x) 68 20 := rfl
theorem lX9_fill_20 : lk (tX9_fill d mc ms P) 20 = oIld 3 21 := rfl
theorem lX9_fill_21 : lk (tX9_fill d mc ms P) 21 = oPush (.int 1664525) 23 := rfl
theorem lX9_fill_23 : lk (tX9_fill d mc ms P) 23 = oI2 (fun x y => x * y) 24 := rfl
theorem lX9_fill_24 : lk (tX9_fill d mc ms P) 24 = oPush (.int 1013904223) 26 := rfl
theorem lX9_fill_26 : lk (tX9_fill d mc ms P) 26 = oI2 (fun x y => x + y) 27 := rfl
theorem lX9_fill_27 : lk (tX9_fill d mc ms P) 27 = oIst 3 28 := rfl
theorem lX9_fill_28 : lk (tX9_fill d mc ms P) 28 = oIld 3 29 := rfl
theorem lX9_fill_29 : lk (tX9_fill d mc ms P) 29 = oPush (.int 8) 31 := rfl
theorem lX9_fill_31 : lk (tX9_fill d mc ms P) 31 = oI2 (fun x y => (x.toUInt32 >>> (y.toUInt32 &&& Int32.toUInt32 31)).toInt32) 32 := rfl
theorem lX9_fill_32 : lk (tX9_fill d mc ms P) 32 = oPush (.int 199) 35 := rfl
theorem lX9_fill_35 : lk (tX9_fill d mc ms P) 35 = oI2n (fun x y => x - x / y * y) 36 := rfl
theorem lX9_fill_36 : lk (tX9_fill d mc ms P) 36 = oPush (.int 99) 38 := rfl
theorem lX9_fill_38 : lk (tX9_fill d mc ms P) 38 = oI2 (fun x y => x - y) 39 := rfl
theorem lX9_fill_39 : lk (tX9_fill d mc ms P) 39 = oIst 6 41 := rfl
theorem lX9_fill_41 : lk (tX9_fill d mc ms P) 41 = oAld 0 42 := rfl
theorem lX9_fill_42 : lk (tX9_fill d mc ms P) 42 = oGr 9 4 45 := rfl
theorem lX9_fill_45 : lk (tX9_fill d mc ms P) 45 = oGr 1 2 48 := rfl
theorem lX9_fill_48 : lk (tX9_fill d mc ms P) 48 = oIld 1 49 := rfl
theorem lX9_fill_49 : lk (tX9_fill d mc ms P) 49 = oAr 106 50 := rfl
theorem lX9_fill_50 : lk (tX9_fill d mc ms P) 50 = oIld 5 52 := rfl
theorem lX9_fill_52 : lk (tX9_fill d mc ms P) 52 = oIld 6 54 := rfl
theorem lX9_fill_54 : lk (tX9_fill d mc ms P) 54 = oSi 100 (fun x => x) 55 := rfl
theorem lX9_fill_55 : lk (tX9_fill d mc ms P) 55 = oIld 4 57 := rfl
theorem lX9_fill_57 : lk (tX9_fill d mc ms P) 57 = oIld 6 59 := rfl
theorem lX9_fill_59 : lk (tX9_fill d mc ms P) 59 = oI2 (fun x y => x + y) 60 := rfl
theorem lX9_fill_60 : lk (tX9_fill d mc ms P) 60 = oIst 4 62 := rfl
theorem lX9_fill_62 : lk (tX9_fill d mc ms P) 62 = oInc 5 1 65 := rfl
theorem lX9_fill_65 : lk (tX9_fill d mc ms P) 65 = oGoto 13 := rfl
theorem lX9_fill_68 : lk (tX9_fill d mc ms P) 68 = oIld 4 70 := rfl
theorem lX9_fill_70 : lk (tX9_fill d mc ms P) 70 = oRetI mc ms P := rfl
theorem lX9_element_0 : lk (tX9_element d mc ms P) 0 = oIld 1 1 := rfl
theorem lX9_element_1 : lk (tX9_element d mc ms P) 1 = oIld 2 2 := rfl
theorem lX9_element_2 : lk (tX9_element d mc ms P) 2 = oCallS d mc ms P 1 6 yX9_checkElement (Cond.code yX9_checkElement cX9_checkElement 2 none) 2 5 := rfl
theorem lX9_element_5 : lk (tX9_element d mc ms P) 5 = oAld 0 6 := rfl
theorem lX9_element_6 : lk (tX9_element d mc ms P) 6 = oGr 9 4 9 := rfl
theorem lX9_element_9 : lk (tX9_element d mc ms P) 9 = oGr 1 2 12 := rfl
theorem lX9_element_12 : lk (tX9_element d mc ms P) 12 = oIld 1 13 := rfl
theorem lX9_element_13 : lk (tX9_element d mc ms P) 13 = oAr 106 14 := rfl
theorem lX9_element_14 : lk (tX9_element d mc ms P) 14 = oIld 2 15 := rfl
theorem lX9_element_15 : lk (tX9_element d mc ms P) 15 = oAi 100 16 := rfl
theorem lX9_element_16 : lk (tX9_element d mc ms P) 16 = oRetI mc ms P := rfl
theorem lX9_setInitial_0 : lk (tX9_setInitial d mc ms P) 0 = oIld 1 1 := rfl
theorem lX9_setInitial_1 : lk (tX9_setInitial d mc ms P) 1 = oCallS d mc ms P 1 6 yX9_checkVariable (Cond.code yX9_checkVariable cX9_checkVariable 1 none) 1 4 := rfl
theorem lX9_setInitial_4 : lk (tX9_setInitial d mc ms P) 4 = oIld 2 5 := rfl
theorem lX9_setInitial_5 : lk (tX9_setInitial d mc ms P) 5 = oPush (.int (-999)) 8 := rfl
theorem lX9_setInitial_8 : lk (tX9_setInitial d mc ms P) 8 = oIc (fun x y => x < y) 18 11 := rfl
theorem lX9_setInitial_11 : lk (tX9_setInitial d mc ms P) 11 = oIld 2 12 := rfl
theorem lX9_setInitial_12 : lk (tX9_setInitial d mc ms P) 12 = oPush (.int 999) 15 := rfl
theorem lX9_setInitial_15 : lk (tX9_setInitial d mc ms P) 15 = oIc (fun x y => x ≤ y) 28 18 := rfl
theorem lX9_setInitial_18 : lk (tX9_setInitial d mc ms P) 18 = oThrow mc ms P 0 := rfl
theorem lX9_setInitial_28 : lk (tX9_setInitial d mc ms P) 28 = oAld 0 29 := rfl
theorem lX9_setInitial_29 : lk (tX9_setInitial d mc ms P) 29 = oGr 9 4 32 := rfl
theorem lX9_setInitial_32 : lk (tX9_setInitial d mc ms P) 32 = oGr 1 3 35 := rfl
theorem lX9_setInitial_35 : lk (tX9_setInitial d mc ms P) 35 = oIld 1 36 := rfl
theorem lX9_setInitial_36 : lk (tX9_setInitial d mc ms P) 36 = oAi 100 37 := rfl
theorem lX9_setInitial_37 : lk (tX9_setInitial d mc ms P) 37 = oIst 3 38 := rfl
theorem lX9_setInitial_38 : lk (tX9_setInitial d mc ms P) 38 = oAld 0 39 := rfl
theorem lX9_setInitial_39 : lk (tX9_setInitial d mc ms P) 39 = oGr 9 4 42 := rfl
theorem lX9_setInitial_42 : lk (tX9_setInitial d mc ms P) 42 = oGr 1 3 45 := rfl
theorem lX9_setInitial_45 : lk (tX9_setInitial d mc ms P) 45 = oIld 1 46 := rfl
theorem lX9_setInitial_46 : lk (tX9_setInitial d mc ms P) 46 = oIld 2 47 := rfl
theorem lX9_setInitial_47 : lk (tX9_setInitial d mc ms P) 47 = oSi 100 (fun x => x) 48 := rfl
theorem lX9_setInitial_48 : lk (tX9_setInitial d mc ms P) 48 = oIld 3 49 := rfl
theorem lX9_setInitial_49 : lk (tX9_setInitial d mc ms P) 49 = oRetI mc ms P := rfl
theorem lX9_kind_0 : lk (tX9_kind d mc ms P) 0 = oIld 1 1 := rfl
theorem lX9_kind_1 : lk (tX9_kind d mc ms P) 1 = oCallS d mc ms P 1 6 yX9_checkVariable (Cond.code yX9_checkVariable cX9_checkVariable 1 none) 1 4 := rfl
theorem lX9_kind_4 : lk (tX9_kind d mc ms P) 4 = oAld 0 5 := rfl
theorem lX9_kind_5 : lk (tX9_kind d mc ms P) 5 = oGr 9 8 8 := rfl
theorem lX9_kind_8 : lk (tX9_kind d mc ms P) 8 = oGr 6 11 11 := rfl
theorem lX9_kind_11 : lk (tX9_kind d mc ms P) 11 = oIld 1 12 := rfl
theorem lX9_kind_12 : lk (tX9_kind d mc ms P) 12 = oAi 100 13 := rfl
theorem lX9_kind_13 : lk (tX9_kind d mc ms P) 13 = oRetI mc ms P := rfl
theorem lX9_operator_0 : lk (tX9_operator d mc ms P) 0 = oIld 1 1 := rfl
theorem lX9_operator_1 : lk (tX9_operator d mc ms P) 1 = oCallS d mc ms P 1 6 yX9_checkVariable (Cond.code yX9_checkVariable cX9_checkVariable 1 none) 1 4 := rfl
theorem lX9_operator_4 : lk (tX9_operator d mc ms P) 4 = oAld 0 5 := rfl
theorem lX9_operator_5 : lk (tX9_operator d mc ms P) 5 = oIld 1 6 := rfl
theorem lX9_operator_6 : lk (tX9_operator d mc ms P) 6 = oCallV d mc ms P 1 6 yX9_checkChain (Cond.code yX9_checkChain cX9_checkChain 3 none) 1 9 9 := rfl
theorem lX9_operator_9 : lk (tX9_operator d mc ms P) 9 = oAld 0 10 := rfl
theorem lX9_operator_10 : lk (tX9_operator d mc ms P) 10 = oGr 9 8 13 := rfl
theorem lX9_operator_13 : lk (tX9_operator d mc ms P) 13 = oGr 6 12 16 := rfl
theorem lX9_operator_16 : lk (tX9_operator d mc ms P) 16 = oIld 1 17 := rfl
theorem lX9_operator_17 : lk (tX9_operator d mc ms P) 17 = oAi 100 18 := rfl
theorem lX9_operator_18 : lk (tX9_operator d mc ms P) 18 = oRetI mc ms P := rfl
theorem lX9_terms_0 : lk (tX9_terms d mc ms P) 0 = oIld 1 1 := rfl
theorem lX9_terms_1 : lk (tX9_terms d mc ms P) 1 = oCallS d mc ms P 1 6 yX9_checkVariable (Cond.code yX9_checkVariable cX9_checkVariable 1 none) 1 4 := rfl
theorem lX9_terms_4 : lk (tX9_terms d mc ms P) 4 = oAld 0 5 := rfl
theorem lX9_terms_5 : lk (tX9_terms d mc ms P) 5 = oIld 1 6 := rfl
theorem lX9_terms_6 : lk (tX9_terms d mc ms P) 6 = oCallV d mc ms P 1 6 yX9_checkChain (Cond.code yX9_checkChain cX9_checkChain 3 none) 1 9 9 := rfl
theorem lX9_terms_9 : lk (tX9_terms d mc ms P) 9 = oAld 0 10 := rfl
theorem lX9_terms_10 : lk (tX9_terms d mc ms P) 10 = oGr 9 8 13 := rfl
theorem lX9_terms_13 : lk (tX9_terms d mc ms P) 13 = oGr 6 13 16 := rfl
theorem lX9_terms_16 : lk (tX9_terms d mc ms P) 16 = oIld 1 17 := rfl
theorem lX9_terms_17 : lk (tX9_terms d mc ms P) 17 = oAi 100 18 := rfl
theorem lX9_terms_18 : lk (tX9_terms d mc ms P) 18 = oRetI mc ms P := rfl
theorem lX9_depends_0 : lk (tX9_depends d mc ms P) 0 = oIld 1 1 := rfl
theorem lX9_depends_1 : lk (tX9_depends d mc ms P) 1 = oCallS d mc ms P 1 6 yX9_checkVariable (Cond.code yX9_checkVariable cX9_checkVariable 1 none) 1 4 := rfl
theorem lX9_depends_4 : lk (tX9_depends d mc ms P) 4 = oAld 0 5 := rfl
theorem lX9_depends_5 : lk (tX9_depends d mc ms P) 5 = oGr 9 8 8 := rfl
theorem lX9_depends_8 : lk (tX9_depends d mc ms P) 8 = oGr 6 10 11 := rfl
theorem lX9_depends_11 : lk (tX9_depends d mc ms P) 11 = oIld 1 12 := rfl
theorem lX9_depends_12 : lk (tX9_depends d mc ms P) 12 = oAi 100 13 := rfl
theorem lX9_depends_13 : lk (tX9_depends d mc ms P) 13 = oRetI mc ms P := rfl
theorem lX9_nodes_0 : lk (tX9_nodes d mc ms P) 0 = oIld 1 1 := rfl
theorem lX9_nodes_1 : lk (tX9_nodes d mc ms P) 1 = oCallS d mc ms P 1 6 yX9_checkVariable (Cond.code yX9_checkVariable cX9_checkVariable 1 none) 1 4 := rfl
theorem lX9_nodes_4 : lk (tX9_nodes d mc ms P) 4 = oAld 0 5 := rfl
theorem lX9_nodes_5 : lk (tX9_nodes d mc ms P) 5 = oGr 9 8 8 := rfl
theorem lX9_nodes_8 : lk (tX9_nodes d mc ms P) 8 = oGr 6 7 11 := rfl
theorem lX9_nodes_11 : lk (tX9_nodes d mc ms P) 11 = oIld 1 12 := rfl
theorem lX9_nodes_12 : lk (tX9_nodes d mc ms P) 12 = oAi 100 13 := rfl
theorem lX9_nodes_13 : lk (tX9_nodes d mc ms P) 13 = oRetI mc ms P := rfl
theorem lX9_height_0 : lk (tX9_height d mc ms P) 0 = oIld 1 1 := rfl
theorem lX9_height_1 : lk (tX9_height d mc ms P) 1 = oCallS d mc ms P 1 6 yX9_checkVariable (Cond.code yX9_checkVariable cX9_checkVariable 1 none) 1 4 := rfl
theorem lX9_height_4 : lk (tX9_height d mc ms P) 4 = oAld 0 5 := rfl
theorem lX9_height_5 : lk (tX9_height d mc ms P) 5 = oGr 9 1 8 := rfl
theorem lX9_height_8 : lk (tX9_height d mc ms P) 8 = oAld 0 9 := rfl
theorem lX9_height_9 : lk (tX9_height d mc ms P) 9 = oGr 9 8 12 := rfl
theorem lX9_height_12 : lk (tX9_height d mc ms P) 12 = oGr 6 6 15 := rfl
theorem lX9_height_15 : lk (tX9_height d mc ms P) 15 = oIld 1 16 := rfl
theorem lX9_height_16 : lk (tX9_height d mc ms P) 16 = oAr 106 17 := rfl
theorem lX9_height_17 : lk (tX9_height d mc ms P) 17 = oAld 0 18 := rfl
theorem lX9_height_18 : lk (tX9_height d mc ms P) 18 = oGr 9 8 21 := rfl
theorem lX9_height_21 : lk (tX9_height d mc ms P) 21 = oGr 6 7 24 := rfl
theorem lX9_height_24 : lk (tX9_height d mc ms P) 24 = oIld 1 25 := rfl
theorem lX9_height_25 : lk (tX9_height d mc ms P) 25 = oAi 100 26 := rfl
theorem lX9_height_26 : lk (tX9_height d mc ms P) 26 = oCallV d mc ms P 0 0 yX3_heightOf (Cond.code yX3_heightOf cX3_heightOf 3 (some .int)) 2 3 29 := rfl
theorem lX9_height_29 : lk (tX9_height d mc ms P) 29 = oRetI mc ms P := rfl
theorem lX9_open_0 : lk (tX9_open d mc ms P) 0 = oIld 1 1 := rfl
theorem lX9_open_1 : lk (tX9_open d mc ms P) 1 = oCallS d mc ms P 1 6 yX9_checkVariable (Cond.code yX9_checkVariable cX9_checkVariable 1 none) 1 4 := rfl
theorem lX9_open_4 : lk (tX9_open d mc ms P) 4 = oAld 0 5 := rfl
theorem lX9_open_5 : lk (tX9_open d mc ms P) 5 = oIld 1 6 := rfl
theorem lX9_open_6 : lk (tX9_open d mc ms P) 6 = oPi 9 11 9 := rfl
theorem lX9_open_9 : lk (tX9_open d mc ms P) 9 = oAld 0 10 := rfl
theorem lX9_open_10 : lk (tX9_open d mc ms P) 10 = oPush (.int 0) 11 := rfl
theorem lX9_open_11 : lk (tX9_open d mc ms P) 11 = oPi 9 12 14 := rfl
theorem lX9_open_14 : lk (tX9_open d mc ms P) 14 = oAld 0 15 := rfl
theorem lX9_open_15 : lk (tX9_open d mc ms P) 15 = oGr 9 8 18 := rfl
theorem lX9_open_18 : lk (tX9_open d mc ms P) 18 = oGr 6 7 21 := rfl
theorem lX9_open_21 : lk (tX9_open d mc ms P) 21 = oIld 1 22 := rfl
theorem lX9_open_22 : lk (tX9_open d mc ms P) 22 = oAi 100 23 := rfl
theorem lX9_open_23 : lk (tX9_open d mc ms P) 23 = oRetI mc ms P := rfl
theorem lX9_hasNext_0 : lk (tX9_hasNext d mc ms P) 0 = oAld 0 1 := rfl
theorem lX9_hasNext_1 : lk (tX9_hasNext d mc ms P) 1 = oCallV d mc ms P 1 6 yX9_checkCursor (Cond.code yX9_checkCursor cX9_checkCursor 1 none) 0 9 4 := rfl
theorem lX9_hasNext_4 : lk (tX9_hasNext d mc ms P) 4 = oAld 0 5 := rfl
theorem lX9_hasNext_5 : lk (tX9_hasNext d mc ms P) 5 = oGi 9 12 8 := rfl
theorem lX9_hasNext_8 : lk (tX9_hasNext d mc ms P) 8 = oAld 0 9 := rfl
theorem lX9_hasNext_9 : lk (tX9_hasNext d mc ms P) 9 = oGr 9 8 12 := rfl
theorem lX9_hasNext_12 : lk (tX9_hasNext d mc ms P) 12 = oGr 6 7 15 := rfl
theorem lX9_hasNext_15 : lk (tX9_hasNext d mc ms P) 15 = oAld 0 16 := rfl
theorem lX9_hasNext_16 : lk (tX9_hasNext d mc ms P) 16 = oGi 9 11 19 := rfl
theorem lX9_hasNext_19 : lk (tX9_hasNext d mc ms P) 19 = oAi 100 20 := rfl
theorem lX9_hasNext_20 : lk (tX9_hasNext d mc ms P) 20 = oIc (fun x y => y ≤ x) 27 23 := rfl
theorem lX9_hasNext_23 : lk (tX9_hasNext d mc ms P) 23 = oPush (.int 1) 24 := rfl
theorem lX9_hasNext_24 : lk (tX9_hasNext d mc ms P) 24 = oGoto 28 := rfl
theorem lX9_hasNext_27 : lk (tX9_hasNext d mc ms P) 27 = oPush (.int 0) 28 := rfl
theorem lX9_hasNext_28 : lk (tX9_hasNext d mc ms P) 28 = oRetZ mc ms P := rfl
theorem lX9_isParallel_0 : lk (tX9_isParallel d mc ms P) 0 = oAld 0 1 := rfl
theorem lX9_isParallel_1 : lk (tX9_isParallel d mc ms P) 1 = oGr 9 8 4 := rfl
theorem lX9_isParallel_4 : lk (tX9_isParallel d mc ms P) 4 = oGi 6 15 7 := rfl
theorem lX9_isParallel_7 : lk (tX9_isParallel d mc ms P) 7 = oRetZ mc ms P := rfl
theorem lX9_isExact_0 : lk (tX9_isExact d mc ms P) 0 = oIld 1 1 := rfl
theorem lX9_isExact_1 : lk (tX9_isExact d mc ms P) 1 = oCallS d mc ms P 1 6 yX9_checkVariable (Cond.code yX9_checkVariable cX9_checkVariable 1 none) 1 4 := rfl
theorem lX9_isExact_4 : lk (tX9_isExact d mc ms P) 4 = oAld 0 5 := rfl
theorem lX9_isExact_5 : lk (tX9_isExact d mc ms P) 5 = oGr 9 8 8 := rfl
theorem lX9_isExact_8 : lk (tX9_isExact d mc ms P) 8 = oGr 6 11 11 := rfl
theorem lX9_isExact_11 : lk (tX9_isExact d mc ms P) 11 = oIld 1 12 := rfl
theorem lX9_isExact_12 : lk (tX9_isExact d mc ms P) 12 = oAi 100 13 := rfl
theorem lX9_isExact_13 : lk (tX9_isExact d mc ms P) 13 = oIst 2 14 := rfl
theorem lX9_isExact_14 : lk (tX9_isExact d mc ms P) 14 = oIld 2 15 := rfl
theorem lX9_isExact_15 : lk (tX9_isExact d mc ms P) 15 = oPush (.int 2) 16 := rfl
theorem lX9_isExact_16 : lk (tX9_isExact d mc ms P) 16 = oIc (fun x y => x = y) 19 63 := rfl
theorem lX9_isExact_19 : lk (tX9_isExact d mc ms P) 19 = oPush (.int 300) 22 := rfl
theorem lX9_isExact_22 : lk (tX9_isExact d mc ms P) 22 = oAld 0 23 := rfl
theorem lX9_isExact_23 : lk (tX9_isExact d mc ms P) 23 = oGr 9 8 26 := rfl
theorem lX9_isExact_26 : lk (tX9_isExact d mc ms P) 26 = oGr 6 12 29 := rfl
theorem lX9_isExact_29 : lk (tX9_isExact d mc ms P) 29 = oIld 1 30 := rfl
theorem lX9_isExact_30 : lk (tX9_isExact d mc ms P) 30 = oAi 100 31 := rfl
theorem lX9_isExact_31 : lk (tX9_isExact d mc ms P) 31 = oI2 (fun x y => x + y) 32 := rfl
theorem lX9_isExact_32 : lk (tX9_isExact d mc ms P) 32 = oIst 3 33 := rfl
theorem lX9_isExact_33 : lk (tX9_isExact d mc ms P) 33 = oAld 0 34 := rfl
theorem lX9_isExact_34 : lk (tX9_isExact d mc ms P) 34 = oGr 9 4 37 := rfl
theorem lX9_isExact_37 : lk (tX9_isExact d mc ms P) 37 = oGi 1 0 40 := rfl
theorem lX9_isExact_40 : lk (tX9_isExact d mc ms P) 40 = oIf (fun x => x = 0) 57 43 := rfl
theorem lX9_isExact_43 : lk (tX9_isExact d mc ms P) 43 = oIld 3 44 := rfl
theorem lX9_isExact_44 : lk (tX9_isExact d mc ms P) 44 = oPush (.int 305) 47 := rfl
theorem lX9_isExact_47 : lk (tX9_isExact d mc ms P) 47 = oIc (fun x y => x = y) 57 50 := rfl
theorem lX9_isExact_50 : lk (tX9_isExact d mc ms P) 50 = oIld 3 51 := rfl
theorem lX9_isExact_51 : lk (tX9_isExact d mc ms P) 51 = oPush (.int 306) 54 := rfl
theorem lX9_isExact_54 : lk (tX9_isExact d mc ms P) 54 = oIc (fun x y => x = y) 57 61 := rfl
theorem lX9_isExact_57 : lk (tX9_isExact d mc ms P) 57 = oPush (.int 1) 58 := rfl
theorem lX9_isExact_58 : lk (tX9_isExact d mc ms P) 58 = oGoto 62 := rfl
theorem lX9_isExact_61 : lk (tX9_isExact d mc ms P) 61 = oPush (.int 0) 62 := rfl
theorem lX9_isExact_62 : lk (tX9_isExact d mc ms P) 62 = oRetZ mc ms P := rfl
theorem lX9_isExact_63 : lk (tX9_isExact d mc ms P) 63 = oIld 2 64 := rfl
theorem lX9_isExact_64 : lk (tX9_isExact d mc ms P) 64 = oIf (fun x => x = 0) 72 67 := rfl
theorem lX9_isExact_67 : lk (tX9_isExact d mc ms P) 67 = oIld 2 68 := rfl
theorem lX9_isExact_68 : lk (tX9_isExact d mc ms P) 68 = oPush (.int 1) 69 := rfl
theorem lX9_isExact_69 : lk (tX9_isExact d mc ms P) 69 = oIc (fun x y => x = y) 72 76 := rfl
theorem lX9_isExact_72 : lk (tX9_isExact d mc ms P) 72 = oPush (.int 1) 73 := rfl
theorem lX9_isExact_73 : lk (tX9_isExact d mc ms P) 73 = oGoto 77 := rfl
theorem lX9_isExact_76 : lk (tX9_isExact d mc ms P) 76 = oPush (.int 0) 77 := rfl
theorem lX9_isExact_77 : lk (tX9_isExact d mc ms P) 77 = oRetZ mc ms P := rfl
theorem lX9_execute_0 : lk (tX9_execute d mc ms P) 0 = oIld 1 1 := rfl
theorem lX9_execute_1 : lk (tX9_execute d mc ms P) 1 = oIld 2 2 := rfl
theorem lX9_execute_2 : lk (tX9_execute d mc ms P) 2 = oCallS d mc ms P 1 6 yX9_checkOrder (Cond.code yX9_checkOrder cX9_checkOrder 2 none) 2 5 := rfl
theorem lX9_execute_5 : lk (tX9_execute d mc ms P) 5 = oAld 0 6 := rfl
theorem lX9_execute_6 : lk (tX9_execute d mc ms P) 6 = oCallV d mc ms P 1 6 yX9_checkOperators (Cond.code yX9_checkOperators cX9_checkOperators 1 none) 0 9 9 := rfl
theorem lX9_execute_9 : lk (tX9_execute d mc ms P) 9 = oAld 0 10 := rfl
theorem lX9_execute_10 : lk (tX9_execute d mc ms P) 10 = oIld 1 11 := rfl
theorem lX9_execute_11 : lk (tX9_execute d mc ms P) 11 = oCallV d mc ms P 1 6 yX9_checkParallel (Cond.code yX9_checkParallel cX9_checkParallel 2 none) 1 9 14 := rfl
theorem lX9_execute_14 : lk (tX9_execute d mc ms P) 14 = oAld 0 15 := rfl
theorem lX9_execute_15 : lk (tX9_execute d mc ms P) 15 = oCallV d mc ms P 0 0 yX9_machineOfMode (Cond.code yX9_machineOfMode cX9_machineOfMode 1 (some (.object "ReductionFinder$Machine"))) 0 9 18 := rfl
theorem lX9_execute_18 : lk (tX9_execute d mc ms P) 18 = oAst 3 19 := rfl
theorem lX9_execute_19 : lk (tX9_execute d mc ms P) 19 = oAld 3 20 := rfl
theorem lX9_execute_20 : lk (tX9_execute d mc ms P) 20 = oAld 0 21 := rfl
theorem lX9_execute_21 : lk (tX9_execute d mc ms P) 21 = oGr 9 8 24 := rfl
theorem lX9_execute_24 : lk (tX9_execute d mc ms P) 24 = oIld 1 25 := rfl
theorem lX9_execute_25 : lk (tX9_execute d mc ms P) 25 = oIld 2 26 := rfl
theorem lX9_execute_26 : lk (tX9_execute d mc ms P) 26 = oDisp 3 [(2, oCallV d mc ms P 0 0 yX5_runOrder (Cond.code yX5_runOrder cX5_runOrder 6 none) 3 2 29), (4, oCallV d mc ms P 0 0 yX5_runOrder (Cond.code yX5_runOrder cX5_runOrder 6 none) 3 4 29)] := rfl
theorem lX9_execute_29 : lk (tX9_execute d mc ms P) 29 = oAld 0 30 := rfl
theorem lX9_execute_30 : lk (tX9_execute d mc ms P) 30 = oAld 0 31 := rfl
theorem lX9_execute_31 : lk (tX9_execute d mc ms P) 31 = oGr 9 4 34 := rfl
theorem lX9_execute_34 : lk (tX9_execute d mc ms P) 34 = oGi 1 0 37 := rfl
theorem lX9_execute_37 : lk (tX9_execute d mc ms P) 37 = oPi 9 13 40 := rfl
theorem lX9_execute_40 : lk (tX9_execute d mc ms P) 40 = oAld 3 41 := rfl
theorem lX9_execute_41 : lk (tX9_execute d mc ms P) 41 = oDisp 0 [(2, oCallV d mc ms P 0 0 yX5_countChanged (Cond.code yX5_countChanged cX5_countChanged 3 (some .int)) 0 2 44), (4, oCallV d mc ms P 0 0 yX5_countChanged (Cond.code yX5_countChanged cX5_countChanged 3 (some .int)) 0 4 44)] := rfl
theorem lX9_execute_44 : lk (tX9_execute d mc ms P) 44 = oRetI mc ms P := rfl
theorem lX9_result_0 : lk (tX9_result d mc ms P) 0 = oIld 1 1 := rfl
theorem lX9_result_1 : lk (tX9_result d mc ms P) 1 = oCallS d mc ms P 1 6 yX9_checkVariable (Cond.code yX9_checkVariable cX9_checkVariable 1 none) 1 4 := rfl
theorem lX9_result_4 : lk (tX9_result d mc ms P) 4 = oAld 0 5 := rfl
theorem lX9_result_5 : lk (tX9_result d mc ms P) 5 = oGi 9 13 8 := rfl
theorem lX9_result_8 : lk (tX9_result d mc ms P) 8 = oIf (fun x => x = 0) 21 11 := rfl
theorem lX9_result_11 : lk (tX9_result d mc ms P) 11 = oThrow mc ms P 1 := rfl
theorem lX9_result_21 : lk (tX9_result d mc ms P) 21 = oAld 0 22 := rfl
theorem lX9_result_22 : lk (tX9_result d mc ms P) 22 = oGr 9 6 25 := rfl
theorem lX9_result_25 : lk (tX9_result d mc ms P) 25 = oGr 4 3 28 := rfl
theorem lX9_result_28 : lk (tX9_result d mc ms P) 28 = oPush (.int 16) 30 := rfl
theorem lX9_result_30 : lk (tX9_result d mc ms P) 30 = oAr 106 31 := rfl
theorem lX9_result_31 : lk (tX9_result d mc ms P) 31 = oIld 1 32 := rfl
theorem lX9_result_32 : lk (tX9_result d mc ms P) 32 = oAi 100 33 := rfl
theorem lX9_result_33 : lk (tX9_result d mc ms P) 33 = oRetI mc ms P := rfl
theorem lX9_resultFloat_0 : lk (tX9_resultFloat d mc ms P) 0 = oIld 1 1 := rfl
theorem lX9_resultFloat_1 : lk (tX9_resultFloat d mc ms P) 1 = oCallS d mc ms P 1 6 yX9_checkVariable (Cond.code yX9_checkVariable cX9_checkVariable 1 none) 1 4 := rfl
theorem lX9_resultFloat_4 : lk (tX9_resultFloat d mc ms P) 4 = oAld 0 5 := rfl
theorem lX9_resultFloat_5 : lk (tX9_resultFloat d mc ms P) 5 = oGi 9 13 8 := rfl
theorem lX9_resultFloat_8 : lk (tX9_resultFloat d mc ms P) 8 = oPush (.int 1) 9 := rfl
theorem lX9_resultFloat_9 : lk (tX9_resultFloat d mc ms P) 9 = oIc (fun x y => x = y) 22 12 := rfl
theorem lX9_resultFloat_12 : lk (tX9_resultFloat d mc ms P) 12 = oThrow mc ms P 1 := rfl
theorem lX9_resultFloat_22 : lk (tX9_resultFloat d mc ms P) 22 = oAld 0 23 := rfl
theorem lX9_resultFloat_23 : lk (tX9_resultFloat d mc ms P) 23 = oGr 9 7 26 := rfl
theorem lX9_resultFloat_26 : lk (tX9_resultFloat d mc ms P) 26 = oGr 2 3 29 := rfl
theorem lX9_resultFloat_29 : lk (tX9_resultFloat d mc ms P) 29 = oPush (.int 16) 31 := rfl
theorem lX9_resultFloat_31 : lk (tX9_resultFloat d mc ms P) 31 = oAr 107 32 := rfl
theorem lX9_resultFloat_32 : lk (tX9_resultFloat d mc ms P) 32 = oIld 1 33 := rfl
theorem lX9_resultFloat_33 : lk (tX9_resultFloat d mc ms P) 33 = oAf 34 := rfl
theorem lX9_resultFloat_34 : lk (tX9_resultFloat d mc ms P) 34 = oRetF mc ms P := rfl
theorem lX9_difference_0 : lk (tX9_difference d mc ms P) 0 = oIld 1 1 := rfl
theorem lX9_difference_1 : lk (tX9_difference d mc ms P) 1 = oCallS d mc ms P 1 6 yX9_checkVariable (Cond.code yX9_checkVariable cX9_checkVariable 1 none) 1 4 := rfl
theorem lX9_difference_4 : lk (tX9_difference d mc ms P) 4 = oAld 0 5 := rfl
theorem lX9_difference_5 : lk (tX9_difference d mc ms P) 5 = oGi 9 13 8 := rfl
theorem lX9_difference_8 : lk (tX9_difference d mc ms P) 8 = oPush (.int (-1)) 9 := rfl
theorem lX9_difference_9 : lk (tX9_difference d mc ms P) 9 = oIc (fun x y => x = y) 26 12 := rfl
theorem lX9_difference_12 : lk (tX9_difference d mc ms P) 12 = oAld 0 13 := rfl
theorem lX9_difference_13 : lk (tX9_difference d mc ms P) 13 = oGi 9 13 16 := rfl
theorem lX9_difference_16 : lk (tX9_difference d mc ms P) 16 = oAld 0 17 := rfl
theorem lX9_difference_17 : lk (tX9_difference d mc ms P) 17 = oGr 9 4 20 := rfl
theorem lX9_difference_20 : lk (tX9_difference d mc ms P) 20 = oGi 1 0 23 := rfl
theorem lX9_difference_23 : lk (tX9_difference d mc ms P) 23 = oIc (fun x y => x = y) 36 26 := rfl
theorem lX9_difference_26 : lk (tX9_difference d mc ms P) 26 = oThrow mc ms P 1 := rfl
theorem lX9_difference_36 : lk (tX9_difference d mc ms P) 36 = oAld 0 37 := rfl
theorem lX9_difference_37 : lk (tX9_difference d mc ms P) 37 = oCallV d mc ms P 1 6 yX9_checkOperators (Cond.code yX9_checkOperators cX9_checkOperators 1 none) 0 9 40 := rfl
theorem lX9_difference_40 : lk (tX9_difference d mc ms P) 40 = oAld 0 41 := rfl
theorem lX9_difference_41 : lk (tX9_difference d mc ms P) 41 = oCallV d mc ms P 0 0 yX9_machineOfMode (Cond.code yX9_machineOfMode cX9_machineOfMode 1 (some (.object "ReductionFinder$Machine"))) 0 9 44 := rfl
theorem lX9_difference_44 : lk (tX9_difference d mc ms P) 44 = oAst 2 45 := rfl
theorem lX9_difference_45 : lk (tX9_difference d mc ms P) 45 = oAld 2 46 := rfl
theorem lX9_difference_46 : lk (tX9_difference d mc ms P) 46 = oAld 0 47 := rfl
theorem lX9_difference_47 : lk (tX9_difference d mc ms P) 47 = oGr 9 8 50 := rfl
theorem lX9_difference_50 : lk (tX9_difference d mc ms P) 50 = oPush (.int 17) 52 := rfl
theorem lX9_difference_52 : lk (tX9_difference d mc ms P) 52 = oDisp 2 [(2, oCallV d mc ms P 0 0 yX5_runSequence (Cond.code yX5_runSequence cX5_runSequence 4 none) 2 2 55), (4, oCallV d mc ms P 0 0 yX5_runSequence (Cond.code yX5_runSequence cX5_runSequence 4 none) 2 4 55)] := rfl
theorem lX9_difference_55 : lk (tX9_difference d mc ms P) 55 = oAld 2 56 := rfl
theorem lX9_difference_56 : lk (tX9_difference d mc ms P) 56 = oPush (.int 16) 58 := rfl
theorem lX9_difference_58 : lk (tX9_difference d mc ms P) 58 = oIld 1 59 := rfl
theorem lX9_difference_59 : lk (tX9_difference d mc ms P) 59 = oDisp 2 [(2, oCallV d mc ms P 0 0 yX2_valueOf (Cond.code yX2_valueOf cX2_valueOf 3 (some .double)) 2 2 62), (4, oCallV d mc ms P 0 0 yX4_valueOf (Cond.code yX4_valueOf cX4_valueOf 3 (some .double)) 2 4 62)] := rfl
theorem lX9_difference_62 : lk (tX9_difference d mc ms P) 62 = oAld 2 63 := rfl
theorem lX9_difference_63 : lk (tX9_difference d mc ms P) 63 = oPush (.int 17) 65 := rfl
theorem lX9_difference_65 : lk (tX9_difference d mc ms P) 65 = oIld 1 66 := rfl
theorem lX9_difference_66 : lk (tX9_difference d mc ms P) 66 = oDisp 2 [(2, oCallV d mc ms P 0 0 yX2_valueOf (Cond.code yX2_valueOf cX2_valueOf 3 (some .double)) 2 2 69), (4, oCallV d mc ms P 0 0 yX4_valueOf (Cond.code yX4_valueOf cX4_valueOf 3 (some .double)) 2 4 69)] := rfl
theorem lX9_difference_69 : lk (tX9_difference d mc ms P) 69 = oD2 FP.dsub 70 := rfl
theorem lX9_difference_70 : lk (tX9_difference d mc ms P) 70 = oDst 3 71 := rfl
theorem lX9_difference_71 : lk (tX9_difference d mc ms P) 71 = oDld 3 72 := rfl
theorem lX9_difference_72 : lk (tX9_difference d mc ms P) 72 = oPush (.double FP.dconst0) 73 := rfl
theorem lX9_difference_73 : lk (tX9_difference d mc ms P) 73 = oDcmp .l 74 := rfl
theorem lX9_difference_74 : lk (tX9_difference d mc ms P) 74 = oIf (fun x => x ≤ 0) 81 77 := rfl
theorem lX9_difference_77 : lk (tX9_difference d mc ms P) 77 = oDld 3 78 := rfl
theorem lX9_difference_78 : lk (tX9_difference d mc ms P) 78 = oGoto 84 := rfl
theorem lX9_difference_81 : lk (tX9_difference d mc ms P) 81 = oPush (.double FP.dconst0) 82 := rfl
theorem lX9_difference_82 : lk (tX9_difference d mc ms P) 82 = oDld 3 83 := rfl
theorem lX9_difference_83 : lk (tX9_difference d mc ms P) 83 = oD2 FP.dsub 84 := rfl
theorem lX9_difference_84 : lk (tX9_difference d mc ms P) 84 = oRetD mc ms P := rfl
theorem lX9_cost_0 : lk (tX9_cost d mc ms P) 0 = oIld 1 1 := rfl
theorem lX9_cost_1 : lk (tX9_cost d mc ms P) 1 = oIld 2 2 := rfl
theorem lX9_cost_2 : lk (tX9_cost d mc ms P) 2 = oCallS d mc ms P 1 6 yX9_checkOrder (Cond.code yX9_checkOrder cX9_checkOrder 2 none) 2 5 := rfl
theorem lX9_cost_5 : lk (tX9_cost d mc ms P) 5 = oAld 0 6 := rfl
theorem lX9_cost_6 : lk (tX9_cost d mc ms P) 6 = oIld 1 7 := rfl
theorem lX9_cost_7 : lk (tX9_cost d mc ms P) 7 = oCallV d mc ms P 1 6 yX9_checkParallel (Cond.code yX9_checkParallel cX9_checkParallel 2 none) 1 9 10 := rfl
theorem lX9_cost_10 : lk (tX9_cost d mc ms P) 10 = oAld 0 11 := rfl
theorem lX9_cost_11 : lk (tX9_cost d mc ms P) 11 = oIld 1 12 := rfl
theorem lX9_cost_12 : lk (tX9_cost d mc ms P) 12 = oIld 2 13 := rfl
theorem lX9_cost_13 : lk (tX9_cost d mc ms P) 13 = oCallV d mc ms P 0 0 yX9_unitsOf (Cond.code yX9_unitsOf cX9_unitsOf 4 (some .int)) 2 9 16 := rfl
theorem lX9_cost_16 : lk (tX9_cost d mc ms P) 16 = oRetI mc ms P := rfl
theorem lX9_cheapest_0 : lk (tX9_cheapest d mc ms P) 0 = oPush (.int 0) 1 := rfl
theorem lX9_cheapest_1 : lk (tX9_cheapest d mc ms P) 1 = oIst 1 2 := rfl
theorem lX9_cheapest_2 : lk (tX9_cheapest d mc ms P) 2 = oAld 0 3 := rfl
theorem lX9_cheapest_3 : lk (tX9_cheapest d mc ms P) 3 = oGr 9 8 6 := rfl
theorem lX9_cheapest_6 : lk (tX9_cheapest d mc ms P) 6 = oGi 6 15 9 := rfl
theorem lX9_cheapest_9 : lk (tX9_cheapest d mc ms P) 9 = oIf (fun x => x = 0) 12 14 := rfl
theorem lX9_cheapest_12 : lk (tX9_cheapest d mc ms P) 12 = oIld 1 13 := rfl
theorem lX9_cheapest_13 : lk (tX9_cheapest d mc ms P) 13 = oRetI mc ms P := rfl
theorem lX9_cheapest_14 : lk (tX9_cheapest d mc ms P) 14 = oAld 0 15 := rfl
theorem lX9_cheapest_15 : lk (tX9_cheapest d mc ms P) 15 = oPush (.int 0) 16 := rfl
theorem lX9_cheapest_16 : lk (tX9_cheapest d mc ms P) 16 = oPush (.int 0) 17 := rfl
theorem lX9_cheapest_17 : lk (tX9_cheapest d mc ms P) 17 = oCallV d mc ms P 0 0 yX9_unitsOf (Cond.code yX9_unitsOf cX9_unitsOf 4 (some .int)) 2 9 20 := rfl
theorem lX9_cheapest_20 : lk (tX9_cheapest d mc ms P) 20 = oIst 2 21 := rfl
theorem lX9_cheapest_21 : lk (tX9_cheapest d mc ms P) 21 = oPush (.int 1) 22 := rfl
theorem lX9_cheapest_22 : lk (tX9_cheapest d mc ms P) 22 = oIst 3 23 := rfl
theorem lX9_cheapest_23 : lk (tX9_cheapest d mc ms P) 23 = oIld 3 24 := rfl
theorem lX9_cheapest_24 : lk (tX9_cheapest d mc ms P) 24 = oPush (.int 3) 25 := rfl
theorem lX9_cheapest_25 : lk (tX9_cheapest d mc ms P) 25 = oIc (fun x y => y < x) 89 28 := rfl
theorem lX9_cheapest_28 : lk (tX9_cheapest d mc ms P) 28 = oPush (.int 2) 29 := rfl
theorem lX9_cheapest_29 : lk (tX9_cheapest d mc ms P) 29 = oIst 4 31 := rfl
theorem lX9_cheapest_31 : lk (tX9_cheapest d mc ms P) 31 = oIld 4 33 := rfl
theorem lX9_cheapest_33 : lk (tX9_cheapest d mc ms P) 33 = oPush (.int 8) 35 := rfl
theorem lX9_cheapest_35 : lk (tX9_cheapest d mc ms P) 35 = oIc (fun x y => y < x) 83 38 := rfl
theorem lX9_cheapest_38 : lk (tX9_cheapest d mc ms P) 38 = oAld 0 39 := rfl
theorem lX9_cheapest_39 : lk (tX9_cheapest d mc ms P) 39 = oIld 3 40 := rfl
theorem lX9_cheapest_40 : lk (tX9_cheapest d mc ms P) 40 = oIld 4 42 := rfl
theorem lX9_cheapest_42 : lk (tX9_cheapest d mc ms P) 42 = oCallV d mc ms P 0 0 yX9_unitsOf (Cond.code yX9_unitsOf cX9_unitsOf 4 (some .int)) 2 9 45 := rfl
theorem lX9_cheapest_45 : lk (tX9_cheapest d mc ms P) 45 = oIst 5 47 := rfl
theorem lX9_cheapest_47 : lk (tX9_cheapest d mc ms P) 47 = oIld 5 49 := rfl
theorem lX9_cheapest_49 : lk (tX9_cheapest d mc ms P) 49 = oIld 2 50 := rfl
theorem lX9_cheapest_50 : lk (tX9_cheapest d mc ms P) 50 = oIc (fun x y => y ≤ x) 74 53 := rfl
theorem lX9_cheapest_53 : lk (tX9_cheapest d mc ms P) 53 = oIld 5 55 := rfl
theorem lX9_cheapest_55 : lk (tX9_cheapest d mc ms P) 55 = oIst 2 56 := rfl
theorem lX9_cheapest_56 : lk (tX9_cheapest d mc ms P) 56 = oIld 3 57 := rfl
theorem lX9_cheapest_57 : lk (tX9_cheapest d mc ms P) 57 = oPush (.int 3) 58 := rfl
theorem lX9_cheapest_58 : lk (tX9_cheapest d mc ms P) 58 = oIc (fun x y => x = y) 61 66 := rfl
theorem lX9_cheapest_61 : lk (tX9_cheapest d mc ms P) 61 = oPush (.int 30) 63 := rfl
theorem lX9_cheapest_63 : lk (tX9_cheapest d mc ms P) 63 = oGoto 73 := rfl
theorem lX9_cheapest_66 : lk (tX9_cheapest d mc ms P) 66 = oPush (.int 10) 68 := rfl
theorem lX9_cheapest_68 : lk (tX9_cheapest d mc ms P) 68 = oIld 3 69 := rfl
theorem lX9_cheapest_69 : lk (tX9_cheapest d mc ms P) 69 = oI2 (fun x y => x * y) 70 := rfl
theorem lX9_cheapest_70 : lk (tX9_cheapest d mc ms P) 70 = oIld 4 72 := rfl
theorem lX9_cheapest_72 : lk (tX9_cheapest d mc ms P) 72 = oI2 (fun x y => x + y) 73 := rfl
theorem lX9_cheapest_73 : lk (tX9_cheapest d mc ms P) 73 = oIst 1 74 := rfl
theorem lX9_cheapest_74 : lk (tX9_cheapest d mc ms P) 74 = oIld 4 76 := rfl
theorem lX9_cheapest_76 : lk (tX9_cheapest d mc ms P) 76 = oPush (.int 2) 77 := rfl
theorem lX9_cheapest_77 : lk (tX9_cheapest d mc ms P) 77 = oI2 (fun x y => x * y) 78 := rfl
theorem lX9_cheapest_78 : lk (tX9_cheapest d mc ms P) 78 = oIst 4 80 := rfl
theorem lX9_cheapest_80 : lk (tX9_cheapest d mc ms P) 80 = oGoto 31 := rfl
theorem lX9_cheapest_83 : lk (tX9_cheapest d mc ms P) 83 = oInc 3 1 86 := rfl
theorem lX9_cheapest_86 : lk (tX9_cheapest d mc ms P) 86 = oGoto 23 := rfl
set_option maxRecDepth 20000 in
theorem lX9_cheapest_89 : lk (tX9_cheapest d mc ms P) 89 = oIld 1 90 := rfl
set_option maxRecDepth 20000 in
theorem lX9_cheapest_90 : lk (tX9_cheapest d mc ms P) 90 = oRetI mc ms P := rfl
theorem lX9_save_0 : lk (tX9_save d mc ms P) 0 = oAld 0 1 := rfl
theorem lX9_save_1 : lk (tX9_save d mc ms P) 1 = oAld 0 2 := rfl
theorem lX9_save_2 : lk (tX9_save d mc ms P) 2 = oGr 9 8 5 := rfl
theorem lX9_save_5 : lk (tX9_save d mc ms P) 5 = oPr 9 9 8 := rfl
theorem lX9_save_8 : lk (tX9_save d mc ms P) 8 = oAld 0 9 := rfl
theorem lX9_save_9 : lk (tX9_save d mc ms P) 9 = oGr 9 5 12 := rfl
theorem lX9_save_12 : lk (tX9_save d mc ms P) 12 = oAld 0 13 := rfl
theorem lX9_save_13 : lk (tX9_save d mc ms P) 13 = oGr 9 4 16 := rfl
theorem lX9_save_16 : lk (tX9_save d mc ms P) 16 = oCallV d mc ms P 0 0 yX1_copyFrom (Cond.code yX1_copyFrom cX1_copyFrom 3 none) 1 1 19 := rfl
theorem lX9_save_19 : lk (tX9_save d mc ms P) 19 = oRetV mc ms P := rfl
theorem lX9_restore_0 : lk (tX9_restore d mc ms P) 0 = oAld 0 1 := rfl
theorem lX9_restore_1 : lk (tX9_restore d mc ms P) 1 = oGr 9 9 4 := rfl
theorem lX9_restore_4 : lk (tX9_restore d mc ms P) 4 = oNonnull 17 7 := rfl
theorem lX9_restore_7 : lk (tX9_restore d mc ms P) 7 = oThrow mc ms P 1 := rfl
theorem lX9_restore_17 : lk (tX9_restore d mc ms P) 17 = oAld 0 18 := rfl
theorem lX9_restore_18 : lk (tX9_restore d mc ms P) 18 = oGr 9 4 21 := rfl
theorem lX9_restore_21 : lk (tX9_restore d mc ms P) 21 = oAld 0 22 := rfl
theorem lX9_restore_22 : lk (tX9_restore d mc ms P) 22 = oGr 9 5 25 := rfl
theorem lX9_restore_25 : lk (tX9_restore d mc ms P) 25 = oCallV d mc ms P 0 0 yX1_copyFrom (Cond.code yX1_copyFrom cX1_copyFrom 3 none) 1 1 28 := rfl
theorem lX9_restore_28 : lk (tX9_restore d mc ms P) 28 = oAld 0 29 := rfl
theorem lX9_restore_29 : lk (tX9_restore d mc ms P) 29 = oAld 0 30 := rfl
theorem lX9_restore_30 : lk (tX9_restore d mc ms P) 30 = oGr 9 9 33 := rfl
theorem lX9_restore_33 : lk (tX9_restore d mc ms P) 33 = oCallV d mc ms P 0 0 yX9_switchTo (Cond.code yX9_switchTo cX9_switchTo 2 none) 1 9 36 := rfl
theorem lX9_restore_36 : lk (tX9_restore d mc ms P) 36 = oRetV mc ms P := rfl
theorem lX9_checkVariable_0 : lk (tX9_checkVariable d mc ms P) 0 = oIld 0 1 := rfl
theorem lX9_checkVariable_1 : lk (tX9_checkVariable d mc ms P) 1 = oIf (fun x => x < 0) 10 4 := rfl
theorem lX9_checkVariable_4 : lk (tX9_checkVariable d mc ms P) 4 = oIld 0 5 := rfl
theorem lX9_checkVariable_5 : lk (tX9_checkVariable d mc ms P) 5 = oPush (.int 8) 7 := rfl
theorem lX9_checkVariable_7 : lk (tX9_checkVariable d mc ms P) 7 = oIc (fun x y => x < y) 20 10 := rfl
theorem lX9_checkVariable_10 : lk (tX9_checkVariable d mc ms P) 10 = oThrow mc ms P 2 := rfl
theorem lX9_checkVariable_20 : lk (tX9_checkVariable d mc ms P) 20 = oRetV mc ms P := rfl
theorem lX9_checkElement_0 : lk (tX9_checkElement d mc ms P) 0 = oIld 0 1 := rfl
theorem lX9_checkElement_1 : lk (tX9_checkElement d mc ms P) 1 = oIf (fun x => x < 0) 19 4 := rfl
theorem lX9_checkElement_4 : lk (tX9_checkElement d mc ms P) 4 = oIld 0 5 := rfl
theorem lX9_checkElement_5 : lk (tX9_checkElement d mc ms P) 5 = oPush (.int 3) 6 := rfl
theorem lX9_checkElement_6 : lk (tX9_checkElement d mc ms P) 6 = oIc (fun x y => y ≤ x) 19 9 := rfl
theorem lX9_checkElement_9 : lk (tX9_checkElement d mc ms P) 9 = oIld 1 10 := rfl
theorem lX9_checkElement_10 : lk (tX9_checkElement d mc ms P) 10 = oIf (fun x => x < 0) 19 13 := rfl
theorem lX9_checkElement_13 : lk (tX9_checkElement d mc ms P) 13 = oIld 1 14 := rfl
theorem lX9_checkElement_14 : lk (tX9_checkElement d mc ms P) 14 = oPush (.int 16) 16 := rfl
theorem lX9_checkElement_16 : lk (tX9_checkElement d mc ms P) 16 = oIc (fun x y => x < y) 30 19 := rfl
theorem lX9_checkElement_19 : lk (tX9_checkElement d mc ms P) 19 = oThrow mc ms P 2 := rfl
theorem lX9_checkElement_30 : lk (tX9_checkElement d mc ms P) 30 = oRetV mc ms P := rfl
theorem lX9_checkChain_0 : lk (tX9_checkChain d mc ms P) 0 = oAld 0 1 := rfl
theorem lX9_checkChain_1 : lk (tX9_checkChain d mc ms P) 1 = oGr 9 8 4 := rfl
theorem lX9_checkChain_4 : lk (tX9_checkChain d mc ms P) 4 = oGr 6 11 7 := rfl
theorem lX9_checkChain_7 : lk (tX9_checkChain d mc ms P) 7 = oIld 1 8 := rfl
theorem lX9_checkChain_8 : lk (tX9_checkChain d mc ms P) 8 = oAi 100 9 := rfl
theorem lX9_checkChain_9 : lk (tX9_checkChain d mc ms P) 9 = oIst 2 10 := rfl
theorem lX9_checkChain_10 : lk (tX9_checkChain d mc ms P) 10 = oIld 2 11 := rfl
theorem lX9_checkChain_11 : lk (tX9_checkChain d mc ms P) 11 = oPush (.int 2) 12 := rfl
theorem lX9_checkChain_12 : lk (tX9_checkChain d mc ms P) 12 = oIc (fun x y => x = y) 31 15 := rfl
theorem lX9_checkChain_15 : lk (tX9_checkChain d mc ms P) 15 = oIld 2 16 := rfl
theorem lX9_checkChain_16 : lk (tX9_checkChain d mc ms P) 16 = oPush (.int 3) 17 := rfl
theorem lX9_checkChain_17 : lk (tX9_checkChain d mc ms P) 17 = oIc (fun x y => x = y) 31 20 := rfl
theorem lX9_checkChain_20 : lk (tX9_checkChain d mc ms P) 20 = oThrow mc ms P 3 := rfl
theorem lX9_checkChain_31 : lk (tX9_checkChain d mc ms P) 31 = oRetV mc ms P := rfl
theorem lX9_checkCursor_0 : lk (tX9_checkCursor d mc ms P) 0 = oAld 0 1 := rfl
theorem lX9_checkCursor_1 : lk (tX9_checkCursor d mc ms P) 1 = oGi 9 11 4 := rfl
theorem lX9_checkCursor_4 : lk (tX9_checkCursor d mc ms P) 4 = oPush (.int (-1)) 5 := rfl
theorem lX9_checkCursor_5 : lk (tX9_checkCursor d mc ms P) 5 = oIc (fun x y => x = y) 8 19 := rfl
theorem lX9_checkCursor_8 : lk (tX9_checkCursor d mc ms P) 8 = oThrow mc ms P 1 := rfl
theorem lX9_checkCursor_19 : lk (tX9_checkCursor d mc ms P) 19 = oRetV mc ms P := rfl
theorem lX9_checkOrder_0 : lk (tX9_checkOrder d mc ms P) 0 = oIld 0 1 := rfl
theorem lX9_checkOrder_1 : lk (tX9_checkOrder d mc ms P) 1 = oIf (fun x => x < 0) 9 4 := rfl
theorem lX9_checkOrder_4 : lk (tX9_checkOrder d mc ms P) 4 = oIld 0 5 := rfl
theorem lX9_checkOrder_5 : lk (tX9_checkOrder d mc ms P) 5 = oPush (.int 3) 6 := rfl
theorem lX9_checkOrder_6 : lk (tX9_checkOrder d mc ms P) 6 = oIc (fun x y => x ≤ y) 20 9 := rfl
theorem lX9_checkOrder_9 : lk (tX9_checkOrder d mc ms P) 9 = oThrow mc ms P 0 := rfl
theorem lX9_checkOrder_20 : lk (tX9_checkOrder d mc ms P) 20 = oIld 0 21 := rfl
theorem lX9_checkOrder_21 : lk (tX9_checkOrder d mc ms P) 21 = oPush (.int 1) 22 := rfl
theorem lX9_checkOrder_22 : lk (tX9_checkOrder d mc ms P) 22 = oIc (fun x y => x = y) 30 25 := rfl
theorem lX9_checkOrder_25 : lk (tX9_checkOrder d mc ms P) 25 = oIld 0 26 := rfl
theorem lX9_checkOrder_26 : lk (tX9_checkOrder d mc ms P) 26 = oPush (.int 2) 27 := rfl
theorem lX9_checkOrder_27 : lk (tX9_checkOrder d mc ms P) 27 = oIc (fun x y => x = y) 30 52 := rfl
theorem lX9_checkOrder_30 : lk (tX9_checkOrder d mc ms P) 30 = oIld 1 31 := rfl
theorem lX9_checkOrder_31 : lk (tX9_checkOrder d mc ms P) 31 = oPush (.int 1) 32 := rfl
theorem lX9_checkOrder_32 : lk (tX9_checkOrder d mc ms P) 32 = oIc (fun x y => x < y) 41 35 := rfl
theorem lX9_checkOrder_35 : lk (tX9_checkOrder d mc ms P) 35 = oIld 1 36 := rfl
theorem lX9_checkOrder_36 : lk (tX9_checkOrder d mc ms P) 36 = oPush (.int 8) 38 := rfl
theorem lX9_checkOrder_38 : lk (tX9_checkOrder d mc ms P) 38 = oIc (fun x y => x ≤ y) 52 41 := rfl
theorem lX9_checkOrder_41 : lk (tX9_checkOrder d mc ms P) 41 = oThrow mc ms P 0 := rfl
theorem lX9_checkOrder_52 : lk (tX9_checkOrder d mc ms P) 52 = oRetV mc ms P := rfl
theorem lX9_checkOperators_0 : lk (tX9_checkOperators d mc ms P) 0 = oAld 0 1 := rfl
theorem lX9_checkOperators_1 : lk (tX9_checkOperators d mc ms P) 1 = oGr 9 4 4 := rfl
theorem lX9_checkOperators_4 : lk (tX9_checkOperators d mc ms P) 4 = oGi 1 0 7 := rfl
theorem lX9_checkOperators_7 : lk (tX9_checkOperators d mc ms P) 7 = oPush (.int 1) 8 := rfl
theorem lX9_checkOperators_8 : lk (tX9_checkOperators d mc ms P) 8 = oIc (fun x y => x = y) 11 32 := rfl
theorem lX9_checkOperators_11 : lk (tX9_checkOperators d mc ms P) 11 = oAld 0 12 := rfl
theorem lX9_checkOperators_12 : lk (tX9_checkOperators d mc ms P) 12 = oGr 9 8 15 := rfl
theorem lX9_checkOperators_15 : lk (tX9_checkOperators d mc ms P) 15 = oGi 6 5 18 := rfl
theorem lX9_checkOperators_18 : lk (tX9_checkOperators d mc ms P) 18 = oIf (fun x => x = 0) 32 21 := rfl
theorem lX9_checkOperators_21 : lk (tX9_checkOperators d mc ms P) 21 = oThrow mc ms P 3 := rfl
theorem lX9_checkOperators_32 : lk (tX9_checkOperators d mc ms P) 32 = oRetV mc ms P := rfl
theorem lX9_checkParallel_0 : lk (tX9_checkParallel d mc ms P) 0 = oIld 1 1 := rfl
theorem lX9_checkParallel_1 : lk (tX9_checkParallel d mc ms P) 1 = oIf (fun x => x = 0) 25 4 := rfl
theorem lX9_checkParallel_4 : lk (tX9_checkParallel d mc ms P) 4 = oAld 0 5 := rfl
theorem lX9_checkParallel_5 : lk (tX9_checkParallel d mc ms P) 5 = oGr 9 8 8 := rfl
theorem lX9_checkParallel_8 : lk (tX9_checkParallel d mc ms P) 8 = oGi 6 15 11 := rfl
theorem lX9_checkParallel_11 : lk (tX9_checkParallel d mc ms P) 11 = oIf (fun x => x = 0) 14 25 := rfl
theorem lX9_checkParallel_14 : lk (tX9_checkParallel d mc ms P) 14 = oThrow mc ms P 1 := rfl
theorem lX9_checkParallel_25 : lk (tX9_checkParallel d mc ms P) 25 = oRetV mc ms P := rfl
theorem lX9_spareProgram_0 : lk (tX9_spareProgram d mc ms P) 0 = oPush (.int 0) 1 := rfl
theorem lX9_spareProgram_1 : lk (tX9_spareProgram d mc ms P) 1 = oIst 1 2 := rfl
theorem lX9_spareProgram_2 : lk (tX9_spareProgram d mc ms P) 2 = oIld 1 3 := rfl
theorem lX9_spareProgram_3 : lk (tX9_spareProgram d mc ms P) 3 = oPush (.int 2) 4 := rfl
theorem lX9_spareProgram_4 : lk (tX9_spareProgram d mc ms P) 4 = oIc (fun x y => y ≤ x) 46 7 := rfl
theorem lX9_spareProgram_7 : lk (tX9_spareProgram d mc ms P) 7 = oAld 0 8 := rfl
theorem lX9_spareProgram_8 : lk (tX9_spareProgram d mc ms P) 8 = oGr 9 3 11 := rfl
theorem lX9_spareProgram_11 : lk (tX9_spareProgram d mc ms P) 11 = oIld 1 12 := rfl
theorem lX9_spareProgram_12 : lk (tX9_spareProgram d mc ms P) 12 = oAr 108 13 := rfl
theorem lX9_spareProgram_13 : lk (tX9_spareProgram d mc ms P) 13 = oAld 0 14 := rfl
theorem lX9_spareProgram_14 : lk (tX9_spareProgram d mc ms P) 14 = oGr 9 8 17 := rfl
theorem lX9_spareProgram_17 : lk (tX9_spareProgram d mc ms P) 17 = oAcmp 40 20 := rfl
theorem lX9_spareProgram_20 : lk (tX9_spareProgram d mc ms P) 20 = oAld 0 21 := rfl
theorem lX9_spareProgram_21 : lk (tX9_spareProgram d mc ms P) 21 = oGr 9 3 24 := rfl
theorem lX9_spareProgram_24 : lk (tX9_spareProgram d mc ms P) 24 = oIld 1 25 := rfl
theorem lX9_spareProgram_25 : lk (tX9_spareProgram d mc ms P) 25 = oAr 108 26 := rfl
theorem lX9_spareProgram_26 : lk (tX9_spareProgram d mc ms P) 26 = oAld 0 27 := rfl
theorem lX9_spareProgram_27 : lk (tX9_spareProgram d mc ms P) 27 = oGr 9 9 30 := rfl
theorem lX9_spareProgram_30 : lk (tX9_spareProgram d mc ms P) 30 = oAcmp 40 33 := rfl
theorem lX9_spareProgram_33 : lk (tX9_spareProgram d mc ms P) 33 = oAld 0 34 := rfl
theorem lX9_spareProgram_34 : lk (tX9_spareProgram d mc ms P) 34 = oGr 9 3 37 := rfl
theorem lX9_spareProgram_37 : lk (tX9_spareProgram d mc ms P) 37 = oIld 1 38 := rfl
theorem lX9_spareProgram_38 : lk (tX9_spareProgram d mc ms P) 38 = oAr 108 39 := rfl
theorem lX9_spareProgram_39 : lk (tX9_spareProgram d mc ms P) 39 = oRetA mc ms P := rfl
theorem lX9_spareProgram_40 : lk (tX9_spareProgram d mc ms P) 40 = oInc 1 1 43 := rfl
theorem lX9_spareProgram_43 : lk (tX9_spareProgram d mc ms P) 43 = oGoto 2 := rfl
theorem lX9_spareProgram_46 : lk (tX9_spareProgram d mc ms P) 46 = oAld 0 47 := rfl
theorem lX9_spareProgram_47 : lk (tX9_spareProgram d mc ms P) 47 = oGr 9 3 50 := rfl
theorem lX9_spareProgram_50 : lk (tX9_spareProgram d mc ms P) 50 = oPush (.int 2) 51 := rfl
theorem lX9_spareProgram_51 : lk (tX9_spareProgram d mc ms P) 51 = oAr 108 52 := rfl
theorem lX9_spareProgram_52 : lk (tX9_spareProgram d mc ms P) 52 = oRetA mc ms P := rfl
theorem lX9_switchTo_0 : lk (tX9_switchTo d mc ms P) 0 = oAld 0 1 := rfl
theorem lX9_switchTo_1 : lk (tX9_switchTo d mc ms P) 1 = oAld 1 2 := rfl
theorem lX9_switchTo_2 : lk (tX9_switchTo d mc ms P) 2 = oPr 9 8 5 := rfl
theorem lX9_switchTo_5 : lk (tX9_switchTo d mc ms P) 5 = oAld 0 6 := rfl
theorem lX9_switchTo_6 : lk (tX9_switchTo d mc ms P) 6 = oPush (.int (-1)) 7 := rfl
theorem lX9_switchTo_7 : lk (tX9_switchTo d mc ms P) 7 = oPi 9 11 10 := rfl
theorem lX9_switchTo_10 : lk (tX9_switchTo d mc ms P) 10 = oAld 0 11 := rfl
theorem lX9_switchTo_11 : lk (tX9_switchTo d mc ms P) 11 = oPush (.int (-1)) 12 := rfl
theorem lX9_switchTo_12 : lk (tX9_switchTo d mc ms P) 12 = oPi 9 13 15 := rfl
theorem lX9_switchTo_15 : lk (tX9_switchTo d mc ms P) 15 = oRetV mc ms P := rfl
theorem lX9_machineOfMode_0 : lk (tX9_machineOfMode d mc ms P) 0 = oAld 0 1 := rfl
theorem lX9_machineOfMode_1 : lk (tX9_machineOfMode d mc ms P) 1 = oGr 9 4 4 := rfl
theorem lX9_machineOfMode_4 : lk (tX9_machineOfMode d mc ms P) 4 = oGi 1 0 7 := rfl
theorem lX9_machineOfMode_7 : lk (tX9_machineOfMode d mc ms P) 7 = oIf (fun x => x = 0) 10 15 := rfl
theorem lX9_machineOfMode_10 : lk (tX9_machineOfMode d mc ms P) 10 = oAld 0 11 := rfl
theorem lX9_machineOfMode_11 : lk (tX9_machineOfMode d mc ms P) 11 = oGr 9 6 14 := rfl
theorem lX9_machineOfMode_14 : lk (tX9_machineOfMode d mc ms P) 14 = oRetA mc ms P := rfl
theorem lX9_machineOfMode_15 : lk (tX9_machineOfMode d mc ms P) 15 = oAld 0 16 := rfl
theorem lX9_machineOfMode_16 : lk (tX9_machineOfMode d mc ms P) 16 = oGr 9 7 19 := rfl
theorem lX9_machineOfMode_19 : lk (tX9_machineOfMode d mc ms P) 19 = oRetA mc ms P := rfl
theorem lX9_unitsOf_0 : lk (tX9_unitsOf d mc ms P) 0 = oAld 0 1 := rfl
theorem lX9_unitsOf_1 : lk (tX9_unitsOf d mc ms P) 1 = oGr 9 8 4 := rfl
theorem lX9_unitsOf_4 : lk (tX9_unitsOf d mc ms P) 4 = oGi 6 4 7 := rfl
theorem lX9_unitsOf_7 : lk (tX9_unitsOf d mc ms P) 7 = oIst 3 8 := rfl
theorem lX9_unitsOf_8 : lk (tX9_unitsOf d mc ms P) 8 = oAld 0 9 := rfl
theorem lX9_unitsOf_9 : lk (tX9_unitsOf d mc ms P) 9 = oGr 9 4 12 := rfl
theorem lX9_unitsOf_12 : lk (tX9_unitsOf d mc ms P) 12 = oGi 1 1 15 := rfl
theorem lX9_unitsOf_15 : lk (tX9_unitsOf d mc ms P) 15 = oIf (fun x => x = 0) 18 20 := rfl
theorem lX9_unitsOf_18 : lk (tX9_unitsOf d mc ms P) 18 = oPush (.int 0) 19 := rfl
theorem lX9_unitsOf_19 : lk (tX9_unitsOf d mc ms P) 19 = oRetI mc ms P := rfl
theorem lX9_unitsOf_20 : lk (tX9_unitsOf d mc ms P) 20 = oIld 1 21 := rfl
theorem lX9_unitsOf_21 : lk (tX9_unitsOf d mc ms P) 21 = oIf (fun x => x = 0) 24 34 := rfl
theorem lX9_unitsOf_24 : lk (tX9_unitsOf d mc ms P) 24 = oAld 0 25 := rfl
theorem lX9_unitsOf_25 : lk (tX9_unitsOf d mc ms P) 25 = oGr 9 4 28 := rfl
theorem lX9_unitsOf_28 : lk (tX9_unitsOf d mc ms P) 28 = oGi 1 1 31 := rfl
theorem lX9_unitsOf_31 : lk (tX9_unitsOf d mc ms P) 31 = oIld 3 32 := rfl
theorem lX9_unitsOf_32 : lk (tX9_unitsOf d mc ms P) 32 = oI2 (fun x y => x * y) 33 := rfl
theorem lX9_unitsOf_33 : lk (tX9_unitsOf d mc ms P) 33 = oRetI mc ms P := rfl
theorem lX9_unitsOf_34 : lk (tX9_unitsOf d mc ms P) 34 = oIld 1 35 := rfl
theorem lX9_unitsOf_35 : lk (tX9_unitsOf d mc ms P) 35 = oPush (.int 3) 36 := rfl
theorem lX9_unitsOf_36 : lk (tX9_unitsOf d mc ms P) 36 = oIc (fun x y => x = y) 39 62 := rfl
theorem lX9_unitsOf_39 : lk (tX9_unitsOf d mc ms P) 39 = oIld 3 40 := rfl
theorem lX9_unitsOf_40 : lk (tX9_unitsOf d mc ms P) 40 = oAld 0 41 := rfl
theorem lX9_unitsOf_41 : lk (tX9_unitsOf d mc ms P) 41 = oGr 9 8 44 := rfl
theorem lX9_unitsOf_44 : lk (tX9_unitsOf d mc ms P) 44 = oGi 6 14 47 := rfl
theorem lX9_unitsOf_47 : lk (tX9_unitsOf d mc ms P) 47 = oAld 0 48 := rfl
theorem lX9_unitsOf_48 : lk (tX9_unitsOf d mc ms P) 48 = oGr 9 4 51 := rfl
theorem lX9_unitsOf_51 : lk (tX9_unitsOf d mc ms P) 51 = oGi 1 1 54 := rfl
theorem lX9_unitsOf_54 : lk (tX9_unitsOf d mc ms P) 54 = oCallS d mc ms P 0 0 yX9_treeRows (Cond.code yX9_treeRows cX9_treeRows 3 (some .int)) 1 57 := rfl
theorem lX9_unitsOf_57 : lk (tX9_unitsOf d mc ms P) 57 = oPush (.int 1) 58 := rfl
theorem lX9_unitsOf_58 : lk (tX9_unitsOf d mc ms P) 58 = oI2 (fun x y => x + y) 59 := rfl
theorem lX9_unitsOf_59 : lk (tX9_unitsOf d mc ms P) 59 = oI2 (fun x y => x * y) 60 := rfl
theorem lX9_unitsOf_60 : lk (tX9_unitsOf d mc ms P) 60 = oI2 (fun x y => x + y) 61 := rfl
theorem lX9_unitsOf_61 : lk (tX9_unitsOf d mc ms P) 61 = oRetI mc ms P := rfl
theorem lX9_unitsOf_62 : lk (tX9_unitsOf d mc ms P) 62 = oAld 0 63 := rfl
theorem lX9_unitsOf_63 : lk (tX9_unitsOf d mc ms P) 63 = oGr 9 4 66 := rfl
theorem lX9_unitsOf_66 : lk (tX9_unitsOf d mc ms P) 66 = oGi 1 1 69 := rfl
theorem lX9_unitsOf_69 : lk (tX9_unitsOf d mc ms P) 69 = oIld 2 70 := rfl
theorem lX9_unitsOf_70 : lk (tX9_unitsOf d mc ms P) 70 = oCallS d mc ms P 0 0 yX9_quotientUp (Cond.code yX9_quotientUp cX9_quotientUp 2 (some .int)) 2 73 := rfl
theorem lX9_unitsOf_73 : lk (tX9_unitsOf d mc ms P) 73 = oIld 3 74 := rfl
theorem lX9_unitsOf_74 : lk (tX9_unitsOf d mc ms P) 74 = oI2 (fun x y => x * y) 75 := rfl
theorem lX9_unitsOf_75 : lk (tX9_unitsOf d mc ms P) 75 = oAld 0 76 := rfl
theorem lX9_unitsOf_76 : lk (tX9_unitsOf d mc ms P) 76 = oGr 9 8 79 := rfl
theorem lX9_unitsOf_79 : lk (tX9_unitsOf d mc ms P) 79 = oGi 6 14 82 := rfl
theorem lX9_unitsOf_82 : lk (tX9_unitsOf d mc ms P) 82 = oIld 2 83 := rfl
theorem lX9_unitsOf_83 : lk (tX9_unitsOf d mc ms P) 83 = oI2 (fun x y => x * y) 84 := rfl
theorem lX9_unitsOf_84 : lk (tX9_unitsOf d mc ms P) 84 = oI2 (fun x y => x + y) 85 := rfl
theorem lX9_unitsOf_85 : lk (tX9_unitsOf d mc ms P) 85 = oRetI mc ms P := rfl
theorem lX9_treeRows_0 : lk (tX9_treeRows d mc ms P) 0 = oPush (.int 0) 1 := rfl
theorem lX9_treeRows_1 : lk (tX9_treeRows d mc ms P) 1 = oIst 1 2 := rfl
theorem lX9_treeRows_2 : lk (tX9_treeRows d mc ms P) 2 = oIld 0 3 := rfl
theorem lX9_treeRows_3 : lk (tX9_treeRows d mc ms P) 3 = oIst 2 4 := rfl
theorem lX9_treeRows_4 : lk (tX9_treeRows d mc ms P) 4 = oIld 2 5 := rfl
theorem lX9_treeRows_5 : lk (tX9_treeRows d mc ms P) 5 = oPush (.int 1) 6 := rfl
theorem lX9_treeRows_6 : lk (tX9_treeRows d mc ms P) 6 = oIc (fun x y => x ≤ y) 21 9 := rfl
theorem lX9_treeRows_9 : lk (tX9_treeRows d mc ms P) 9 = oInc 1 1 12 := rfl
theorem lX9_treeRows_12 : lk (tX9_treeRows d mc ms P) 12 = oIld 2 13 := rfl
theorem lX9_treeRows_13 : lk (tX9_treeRows d mc ms P) 13 = oPush (.int 1) 14 := rfl
theorem lX9_treeRows_14 : lk (tX9_treeRows d mc ms P) 14 = oI2 (fun x y => x + y) 15 := rfl
theorem lX9_treeRows_15 : lk (tX9_treeRows d mc ms P) 15 = oPush (.int 2) 16 := rfl
theorem lX9_treeRows_16 : lk (tX9_treeRows d mc ms P) 16 = oI2n (fun x y => x / y) 17 := rfl
theorem lX9_treeRows_17 : lk (tX9_treeRows d mc ms P) 17 = oIst 2 18 := rfl
theorem lX9_treeRows_18 : lk (tX9_treeRows d mc ms P) 18 = oGoto 4 := rfl
theorem lX9_treeRows_21 : lk (tX9_treeRows d mc ms P) 21 = oIld 1 22 := rfl
theorem lX9_treeRows_22 : lk (tX9_treeRows d mc ms P) 22 = oRetI mc ms P := rfl
theorem lX9_quotientUp_0 : lk (tX9_quotientUp d mc ms P) 0 = oIld 1 1 := rfl
theorem lX9_quotientUp_1 : lk (tX9_quotientUp d mc ms P) 1 = oPush (.int 1) 2 := rfl
theorem lX9_quotientUp_2 : lk (tX9_quotientUp d mc ms P) 2 = oIc (fun x y => y ≤ x) 9 5 := rfl
theorem lX9_quotientUp_5 : lk (tX9_quotientUp d mc ms P) 5 = oPush (.int 0) 6 := rfl
theorem lX9_quotientUp_6 : lk (tX9_quotientUp d mc ms P) 6 = oGoto 16 := rfl
theorem lX9_quotientUp_9 : lk (tX9_quotientUp d mc ms P) 9 = oIld 0 10 := rfl
theorem lX9_quotientUp_10 : lk (tX9_quotientUp d mc ms P) 10 = oIld 1 11 := rfl
theorem lX9_quotientUp_11 : lk (tX9_quotientUp d mc ms P) 11 = oI2 (fun x y => x + y) 12 := rfl
theorem lX9_quotientUp_12 : lk (tX9_quotientUp d mc ms P) 12 = oPush (.int 1) 13 := rfl
theorem lX9_quotientUp_13 : lk (tX9_quotientUp d mc ms P) 13 = oI2 (fun x y => x - y) 14 := rfl
theorem lX9_quotientUp_14 : lk (tX9_quotientUp d mc ms P) 14 = oIld 1 15 := rfl
theorem lX9_quotientUp_15 : lk (tX9_quotientUp d mc ms P) 15 = oI2n (fun x y => x / y) 16 := rfl
theorem lX9_quotientUp_16 : lk (tX9_quotientUp d mc ms P) 16 = oRetI mc ms P := rfl
theorem lX9_isStart_0 : lk (tX9_isStart d mc ms P) 0 = oIld 0 1 := rfl
theorem lX9_isStart_1 : lk (tX9_isStart d mc ms P) 1 = oPush (.int 100) 3 := rfl
theorem lX9_isStart_3 : lk (tX9_isStart d mc ms P) 3 = oIc (fun x y => x < y) 16 6 := rfl
theorem lX9_isStart_6 : lk (tX9_isStart d mc ms P) 6 = oIld 0 7 := rfl
theorem lX9_isStart_7 : lk (tX9_isStart d mc ms P) 7 = oPush (.int 108) 9 := rfl
theorem lX9_isStart_9 : lk (tX9_isStart d mc ms P) 9 = oIc (fun x y => y ≤ x) 16 12 := rfl
theorem lX9_isStart_12 : lk (tX9_isStart d mc ms P) 12 = oPush (.int 1) 13 := rfl
theorem lX9_isStart_13 : lk (tX9_isStart d mc ms P) 13 = oGoto 17 := rfl
theorem lX9_isStart_16 : lk (tX9_isStart d mc ms P) 16 = oPush (.int 0) 17 := rfl
theorem lX9_isStart_17 : lk (tX9_isStart d mc ms P) 17 = oRetZ mc ms P := rfl
theorem lX9_operandsOf_0 : lk (tX9_operandsOf d mc ms P) 0 = oIld 0 1 := rfl
theorem lX9_operandsOf_1 : lk (tX9_operandsOf d mc ms P) 1 = oPush (.int 300) 4 := rfl
theorem lX9_operandsOf_4 : lk (tX9_operandsOf d mc ms P) 4 = oIc (fun x y => y ≤ x) 9 7 := rfl
theorem lX9_operandsOf_7 : lk (tX9_operandsOf d mc ms P) 7 = oPush (.int 0) 8 := rfl
theorem lX9_operandsOf_8 : lk (tX9_operandsOf d mc ms P) 8 = oRetI mc ms P := rfl
theorem lX9_operandsOf_9 : lk (tX9_operandsOf d mc ms P) 9 = oIld 0 10 := rfl
theorem lX9_operandsOf_10 : lk (tX9_operandsOf d mc ms P) 10 = oPush (.int 308) 13 := rfl
theorem lX9_operandsOf_13 : lk (tX9_operandsOf d mc ms P) 13 = oIc (fun x y => x = y) 16 20 := rfl
theorem lX9_operandsOf_16 : lk (tX9_operandsOf d mc ms P) 16 = oPush (.int 3) 17 := rfl
theorem lX9_operandsOf_17 : lk (tX9_operandsOf d mc ms P) 17 = oGoto 21 := rfl
theorem lX9_operandsOf_20 : lk (tX9_operandsOf d mc ms P) 20 = oPush (.int 2) 21 := rfl
theorem lX9_operandsOf_21 : lk (tX9_operandsOf d mc ms P) 21 = oRetI mc ms P := rfl
end
