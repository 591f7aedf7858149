section
variable {d mc ms : Nat} {P : PO}
theorem lX7_addSign_0 : lk (tX7_addSign d mc ms P) 0 = oAld 0 1 := rfl
theorem lX7_addSign_1 : lk (tX7_addSign d mc ms P) 1 = oGi 7 1 4 := rfl
theorem lX7_addSign_4 : lk (tX7_addSign d mc ms P) 4 = oPush (.int 100) 6 := rfl
theorem lX7_addSign_6 : lk (tX7_addSign d mc ms P) 6 = oIc (fun x y => y ≤ x) 29 9 := rfl
theorem lX7_addSign_9 : lk (tX7_addSign d mc ms P) 9 = oAld 0 10 := rfl
theorem lX7_addSign_10 : lk (tX7_addSign d mc ms P) 10 = oGr 7 0 13 := rfl
theorem lX7_addSign_13 : lk (tX7_addSign d mc ms P) 13 = oAld 0 14 := rfl
theorem lX7_addSign_14 : lk (tX7_addSign d mc ms P) 14 = oGi 7 1 17 := rfl
theorem lX7_addSign_17 : lk (tX7_addSign d mc ms P) 17 = oIld 1 18 := rfl
theorem lX7_addSign_18 : lk (tX7_addSign d mc ms P) 18 = oSi 102 (fun x => vp_nar .char x) 19 := rfl
theorem lX7_addSign_19 : lk (tX7_addSign d mc ms P) 19 = oAld 0 20 := rfl
theorem lX7_addSign_20 : lk (tX7_addSign d mc ms P) 20 = oDup 21 := rfl
theorem lX7_addSign_21 : lk (tX7_addSign d mc ms P) 21 = oGi 7 1 24 := rfl
theorem lX7_addSign_24 : lk (tX7_addSign d mc ms P) 24 = oPush (.int 1) 25 := rfl
theorem lX7_addSign_25 : lk (tX7_addSign d mc ms P) 25 = oI2 (fun x y => x + y) 26 := rfl
theorem lX7_addSign_26 : lk (tX7_addSign d mc ms P) 26 = oPi 7 1 29 := rfl
theorem lX7_addSign_29 : lk (tX7_addSign d mc ms P) 29 = oRetV mc ms P := rfl
theorem lX7_readText_0 : lk (tX7_readText d mc ms P) 0 = oAld 0 1 := rfl
theorem lX7_readText_1 : lk (tX7_readText d mc ms P) 1 = oPush (.int 0) 2 := rfl
theorem lX7_readText_2 : lk (tX7_readText d mc ms P) 2 = oPi 7 2 5 := rfl
theorem lX7_readText_5 : lk (tX7_readText d mc ms P) 5 = oAld 0 6 := rfl
theorem lX7_readText_6 : lk (tX7_readText d mc ms P) 6 = oPush (.int 0) 7 := rfl
theorem lX7_readText_7 : lk (tX7_readText d mc ms P) 7 = oPi 7 4 10 := rfl
theorem lX7_readText_10 : lk (tX7_readText d mc ms P) 10 = oAld 0 11 := rfl
theorem lX7_readText_11 : lk (tX7_readText d mc ms P) 11 = oPush (.int 0) 12 := rfl
theorem lX7_readText_12 : lk (tX7_readText d mc ms P) 12 = oPi 7 7 15 := rfl
theorem lX7_readText_15 : lk (tX7_readText d mc ms P) 15 = oPush (.int 0) 16 := rfl
theorem lX7_readText_16 : lk (tX7_readText d mc ms P) 16 = oIst 1 17 := rfl
theorem lX7_readText_17 : lk (tX7_readText d mc ms P) 17 = oIld 1 18 := rfl
theorem lX7_readText_18 : lk (tX7_readText d mc ms P) 18 = oPush (.int 100) 20 := rfl
theorem lX7_readText_20 : lk (tX7_readText d mc ms P) 20 = oIc (fun x y => y ≤ x) 51 23 := rfl
theorem lX7_readText_23 : lk (tX7_readText d mc ms P) 23 = oAld 0 24 := rfl
theorem lX7_readText_24 : lk (tX7_readText d mc ms P) 24 = oCallV d mc ms P 0 0 yX7_readStatement (Cond.code yX7_readStatement cX7_readStatement 2 (some .boolean)) 0 7 27 := rfl
theorem lX7_readText_27 : lk (tX7_readText d mc ms P) 27 = oIf (fun x => x = 0) 30 32 := rfl
theorem lX7_readText_30 : lk (tX7_readText d mc ms P) 30 = oPush (.int 0) 31 := rfl
theorem lX7_readText_31 : lk (tX7_readText d mc ms P) 31 = oRetZ mc ms P := rfl
theorem lX7_readText_32 : lk (tX7_readText d mc ms P) 32 = oAld 0 33 := rfl
theorem lX7_readText_33 : lk (tX7_readText d mc ms P) 33 = oGi 7 2 36 := rfl
theorem lX7_readText_36 : lk (tX7_readText d mc ms P) 36 = oAld 0 37 := rfl
theorem lX7_readText_37 : lk (tX7_readText d mc ms P) 37 = oGi 7 1 40 := rfl
theorem lX7_readText_40 : lk (tX7_readText d mc ms P) 40 = oIc (fun x y => x < y) 45 43 := rfl
theorem lX7_readText_43 : lk (tX7_readText d mc ms P) 43 = oPush (.int 1) 44 := rfl
theorem lX7_readText_44 : lk (tX7_readText d mc ms P) 44 = oRetZ mc ms P := rfl
theorem lX7_readText_45 : lk (tX7_readText d mc ms P) 45 = oInc 1 1 48 := rfl
theorem lX7_readText_48 : lk (tX7_readText d mc ms P) 48 = oGoto 17 := rfl
theorem lX7_readText_51 : lk (tX7_readText d mc ms P) 51 = oPush (.int 0) 52 := rfl
theorem lX7_readText_52 : lk (tX7_readText d mc ms P) 52 = oRetZ mc ms P := rfl
theorem lX7_readStatement_0 : lk (tX7_readStatement d mc ms P) 0 = oAld 0 1 := rfl
theorem lX7_readStatement_1 : lk (tX7_readStatement d mc ms P) 1 = oCallV d mc ms P 0 0 yX7_peek (Cond.code yX7_peek cX7_peek 1 (some .char)) 0 7 4 := rfl
theorem lX7_readStatement_4 : lk (tX7_readStatement d mc ms P) 4 = oIst 1 5 := rfl
theorem lX7_readStatement_5 : lk (tX7_readStatement d mc ms P) 5 = oIld 1 6 := rfl
theorem lX7_readStatement_6 : lk (tX7_readStatement d mc ms P) 6 = oCallS d mc ms P 0 0 yX7_isVariable (Cond.code yX7_isVariable cX7_isVariable 1 (some .boolean)) 1 9 := rfl
theorem lX7_readStatement_9 : lk (tX7_readStatement d mc ms P) 9 = oIf (fun x => x = 0) 12 14 := rfl
theorem lX7_readStatement_12 : lk (tX7_readStatement d mc ms P) 12 = oPush (.int 0) 13 := rfl
theorem lX7_readStatement_13 : lk (tX7_readStatement d mc ms P) 13 = oRetZ mc ms P := rfl
theorem lX7_readStatement_14 : lk (tX7_readStatement d mc ms P) 14 = oAld 0 15 := rfl
theorem lX7_readStatement_15 : lk (tX7_readStatement d mc ms P) 15 = oDup 16 := rfl
theorem lX7_readStatement_16 : lk (tX7_readStatement d mc ms P) 16 = oGi 7 2 19 := rfl
theorem lX7_readStatement_19 : lk (tX7_readStatement d mc ms P) 19 = oPush (.int 1) 20 := rfl
theorem lX7_readStatement_20 : lk (tX7_readStatement d mc ms P) 20 = oI2 (fun x y => x + y) 21 := rfl
theorem lX7_readStatement_21 : lk (tX7_readStatement d mc ms P) 21 = oPi 7 2 24 := rfl
theorem lX7_readStatement_24 : lk (tX7_readStatement d mc ms P) 24 = oAld 0 25 := rfl
theorem lX7_readStatement_25 : lk (tX7_readStatement d mc ms P) 25 = oPush (.int 61) 27 := rfl
theorem lX7_readStatement_27 : lk (tX7_readStatement d mc ms P) 27 = oCallV d mc ms P 0 0 yX7_take (Cond.code yX7_take cX7_take 2 (some .boolean)) 1 7 30 := rfl
theorem lX7_readStatement_30 : lk (tX7_readStatement d mc ms P) 30 = oIf (fun x => x = 0) 51 33 := rfl
theorem lX7_readStatement_33 : lk (tX7_readStatement d mc ms P) 33 = oAld 0 34 := rfl
theorem lX7_readStatement_34 : lk (tX7_readStatement d mc ms P) 34 = oPush (.int 0) 35 := rfl
theorem lX7_readStatement_35 : lk (tX7_readStatement d mc ms P) 35 = oPush (.int 0) 36 := rfl
theorem lX7_readStatement_36 : lk (tX7_readStatement d mc ms P) 36 = oCallV d mc ms P 0 0 yX7_readLevel (Cond.code yX7_readLevel cX7_readLevel 4 (some .boolean)) 2 7 39 := rfl
theorem lX7_readStatement_39 : lk (tX7_readStatement d mc ms P) 39 = oIf (fun x => x = 0) 51 42 := rfl
theorem lX7_readStatement_42 : lk (tX7_readStatement d mc ms P) 42 = oAld 0 43 := rfl
theorem lX7_readStatement_43 : lk (tX7_readStatement d mc ms P) 43 = oPush (.int 59) 45 := rfl
theorem lX7_readStatement_45 : lk (tX7_readStatement d mc ms P) 45 = oCallV d mc ms P 0 0 yX7_take (Cond.code yX7_take cX7_take 2 (some .boolean)) 1 7 48 := rfl
theorem lX7_readStatement_48 : lk (tX7_readStatement d mc ms P) 48 = oIf (fun x => x = 0) 51 53 := rfl
theorem lX7_readStatement_51 : lk (tX7_readStatement d mc ms P) 51 = oPush (.int 0) 52 := rfl
theorem lX7_readStatement_52 : lk (tX7_readStatement d mc ms P) 52 = oRetZ mc ms P := rfl
theorem lX7_readStatement_53 : lk (tX7_readStatement d mc ms P) 53 = oAld 0 54 := rfl
theorem lX7_readStatement_54 : lk (tX7_readStatement d mc ms P) 54 = oGi 7 7 57 := rfl
theorem lX7_readStatement_57 : lk (tX7_readStatement d mc ms P) 57 = oPush (.int 100) 59 := rfl
theorem lX7_readStatement_59 : lk (tX7_readStatement d mc ms P) 59 = oIc (fun x y => y ≤ x) 98 62 := rfl
theorem lX7_readStatement_62 : lk (tX7_readStatement d mc ms P) 62 = oAld 0 63 := rfl
theorem lX7_readStatement_63 : lk (tX7_readStatement d mc ms P) 63 = oGr 7 5 66 := rfl
theorem lX7_readStatement_66 : lk (tX7_readStatement d mc ms P) 66 = oAld 0 67 := rfl
theorem lX7_readStatement_67 : lk (tX7_readStatement d mc ms P) 67 = oGi 7 7 70 := rfl
theorem lX7_readStatement_70 : lk (tX7_readStatement d mc ms P) 70 = oIld 1 71 := rfl
theorem lX7_readStatement_71 : lk (tX7_readStatement d mc ms P) 71 = oPush (.int 115) 73 := rfl
theorem lX7_readStatement_73 : lk (tX7_readStatement d mc ms P) 73 = oI2 (fun x y => x - y) 74 := rfl
theorem lX7_readStatement_74 : lk (tX7_readStatement d mc ms P) 74 = oSi 100 (fun x => x) 75 := rfl
theorem lX7_readStatement_75 : lk (tX7_readStatement d mc ms P) 75 = oAld 0 76 := rfl
theorem lX7_readStatement_76 : lk (tX7_readStatement d mc ms P) 76 = oGr 7 6 79 := rfl
theorem lX7_readStatement_79 : lk (tX7_readStatement d mc ms P) 79 = oAld 0 80 := rfl
theorem lX7_readStatement_80 : lk (tX7_readStatement d mc ms P) 80 = oGi 7 7 83 := rfl
theorem lX7_readStatement_83 : lk (tX7_readStatement d mc ms P) 83 = oAld 0 84 := rfl
theorem lX7_readStatement_84 : lk (tX7_readStatement d mc ms P) 84 = oGi 7 4 87 := rfl
theorem lX7_readStatement_87 : lk (tX7_readStatement d mc ms P) 87 = oSi 100 (fun x => x) 88 := rfl
theorem lX7_readStatement_88 : lk (tX7_readStatement d mc ms P) 88 = oAld 0 89 := rfl
theorem lX7_readStatement_89 : lk (tX7_readStatement d mc ms P) 89 = oDup 90 := rfl
theorem lX7_readStatement_90 : lk (tX7_readStatement d mc ms P) 90 = oGi 7 7 93 := rfl
set_option maxRecDepth 20000 in
theorem lX7_readStatement_93 : lk (tX7_readStatement d mc ms P) 93 = oPush (.int 1) 94 := rfl
set_option maxRecDepth 20000 in
theorem lX7_readStatement_94 : lk (tX7_readStatement d mc ms P) 94 = oI2 (fun x y => x + y) 95 := rfl
set_option maxRecDepth 20000 in
theorem lX7_readStatement_95 : lk (tX7_readStatement d mc ms P) 95 = oPi 7 7 98 := rfl
set_option maxRecDepth 20000 in
theorem lX7_readStatement_98 : lk (tX7_readStatement d mc ms P) 98 = oPush (.int 1) 99 := rfl
set_option maxRecDepth 20000 in
theorem lX7_readStatement_99 : lk (tX7_readStatement d mc ms P) 99 = oRetZ mc ms P := rfl
theorem lX7_readLevel_0 : lk (tX7_readLevel d mc ms P) 0 = oIld 1 1 := rfl
theorem lX7_readLevel_1 : lk (tX7_readLevel d mc ms P) 1 = oPush (.int 3) 2 := rfl
theorem lX7_readLevel_2 : lk (tX7_readLevel d mc ms P) 2 = oIc (fun x y => x < y) 11 5 := rfl
theorem lX7_readLevel_5 : lk (tX7_readLevel d mc ms P) 5 = oAld 0 6 := rfl
theorem lX7_readLevel_6 : lk (tX7_readLevel d mc ms P) 6 = oIld 2 7 := rfl
theorem lX7_readLevel_7 : lk (tX7_readLevel d mc ms P) 7 = oCallV d mc ms P 0 0 yX7_readFactor (Cond.code yX7_readFactor cX7_readFactor 4 (some .boolean)) 1 7 10 := rfl
theorem lX7_readLevel_10 : lk (tX7_readLevel d mc ms P) 10 = oRetZ mc ms P := rfl
theorem lX7_readLevel_11 : lk (tX7_readLevel d mc ms P) 11 = oAld 0 12 := rfl
theorem lX7_readLevel_12 : lk (tX7_readLevel d mc ms P) 12 = oGi 7 4 15 := rfl
theorem lX7_readLevel_15 : lk (tX7_readLevel d mc ms P) 15 = oIst 3 16 := rfl
theorem lX7_readLevel_16 : lk (tX7_readLevel d mc ms P) 16 = oAld 0 17 := rfl
theorem lX7_readLevel_17 : lk (tX7_readLevel d mc ms P) 17 = oIld 1 18 := rfl
theorem lX7_readLevel_18 : lk (tX7_readLevel d mc ms P) 18 = oPush (.int 1) 19 := rfl
theorem lX7_readLevel_19 : lk (tX7_readLevel d mc ms P) 19 = oI2 (fun x y => x + y) 20 := rfl
theorem lX7_readLevel_20 : lk (tX7_readLevel d mc ms P) 20 = oIld 2 21 := rfl
theorem lX7_readLevel_21 : lk (tX7_readLevel d mc ms P) 21 = oCallV d mc ms P 0 0 yX7_readLevel (Cond.code yX7_readLevel cX7_readLevel 4 (some .boolean)) 2 7 24 := rfl
theorem lX7_readLevel_24 : lk (tX7_readLevel d mc ms P) 24 = oIf (fun x => x = 0) 27 29 := rfl
theorem lX7_readLevel_27 : lk (tX7_readLevel d mc ms P) 27 = oPush (.int 0) 28 := rfl
theorem lX7_readLevel_28 : lk (tX7_readLevel d mc ms P) 28 = oRetZ mc ms P := rfl
theorem lX7_readLevel_29 : lk (tX7_readLevel d mc ms P) 29 = oAld 0 30 := rfl
theorem lX7_readLevel_30 : lk (tX7_readLevel d mc ms P) 30 = oGi 7 2 33 := rfl
theorem lX7_readLevel_33 : lk (tX7_readLevel d mc ms P) 33 = oAld 0 34 := rfl
theorem lX7_readLevel_34 : lk (tX7_readLevel d mc ms P) 34 = oGi 7 1 37 := rfl
theorem lX7_readLevel_37 : lk (tX7_readLevel d mc ms P) 37 = oIc (fun x y => y ≤ x) 99 40 := rfl
theorem lX7_readLevel_40 : lk (tX7_readLevel d mc ms P) 40 = oAld 0 41 := rfl
theorem lX7_readLevel_41 : lk (tX7_readLevel d mc ms P) 41 = oGr 7 0 44 := rfl
theorem lX7_readLevel_44 : lk (tX7_readLevel d mc ms P) 44 = oAld 0 45 := rfl
theorem lX7_readLevel_45 : lk (tX7_readLevel d mc ms P) 45 = oGi 7 2 48 := rfl
theorem lX7_readLevel_48 : lk (tX7_readLevel d mc ms P) 48 = oAi 102 49 := rfl
theorem lX7_readLevel_49 : lk (tX7_readLevel d mc ms P) 49 = oCallS d mc ms P 0 0 yX7_codeOf (Cond.code yX7_codeOf cX7_codeOf 1 (some .int)) 1 52 := rfl
theorem lX7_readLevel_52 : lk (tX7_readLevel d mc ms P) 52 = oCallS d mc ms P 0 0 yX7_levelOf (Cond.code yX7_levelOf cX7_levelOf 1 (some .int)) 1 55 := rfl
theorem lX7_readLevel_55 : lk (tX7_readLevel d mc ms P) 55 = oIld 1 56 := rfl
theorem lX7_readLevel_56 : lk (tX7_readLevel d mc ms P) 56 = oIc (fun x y => x = y) 59 99 := rfl
theorem lX7_readLevel_59 : lk (tX7_readLevel d mc ms P) 59 = oAld 0 60 := rfl
theorem lX7_readLevel_60 : lk (tX7_readLevel d mc ms P) 60 = oIld 3 61 := rfl
theorem lX7_readLevel_61 : lk (tX7_readLevel d mc ms P) 61 = oAld 0 62 := rfl
theorem lX7_readLevel_62 : lk (tX7_readLevel d mc ms P) 62 = oGr 7 0 65 := rfl
theorem lX7_readLevel_65 : lk (tX7_readLevel d mc ms P) 65 = oAld 0 66 := rfl
theorem lX7_readLevel_66 : lk (tX7_readLevel d mc ms P) 66 = oGi 7 2 69 := rfl
theorem lX7_readLevel_69 : lk (tX7_readLevel d mc ms P) 69 = oAi 102 70 := rfl
theorem lX7_readLevel_70 : lk (tX7_readLevel d mc ms P) 70 = oCallS d mc ms P 0 0 yX7_codeOf (Cond.code yX7_codeOf cX7_codeOf 1 (some .int)) 1 73 := rfl
theorem lX7_readLevel_73 : lk (tX7_readLevel d mc ms P) 73 = oCallV d mc ms P 0 0 yX7_insertCode (Cond.code yX7_insertCode cX7_insertCode 3 none) 2 7 76 := rfl
theorem lX7_readLevel_76 : lk (tX7_readLevel d mc ms P) 76 = oAld 0 77 := rfl
theorem lX7_readLevel_77 : lk (tX7_readLevel d mc ms P) 77 = oDup 78 := rfl
theorem lX7_readLevel_78 : lk (tX7_readLevel d mc ms P) 78 = oGi 7 2 81 := rfl
theorem lX7_readLevel_81 : lk (tX7_readLevel d mc ms P) 81 = oPush (.int 1) 82 := rfl
theorem lX7_readLevel_82 : lk (tX7_readLevel d mc ms P) 82 = oI2 (fun x y => x + y) 83 := rfl
theorem lX7_readLevel_83 : lk (tX7_readLevel d mc ms P) 83 = oPi 7 2 86 := rfl
theorem lX7_readLevel_86 : lk (tX7_readLevel d mc ms P) 86 = oAld 0 87 := rfl
theorem lX7_readLevel_87 : lk (tX7_readLevel d mc ms P) 87 = oIld 1 88 := rfl
theorem lX7_readLevel_88 : lk (tX7_readLevel d mc ms P) 88 = oPush (.int 1) 89 := rfl
set_option maxRecDepth 20000 in
theorem lX7_readLevel_89 : lk (tX7_readLevel d mc ms P) 89 = oI2 (fun x y => x + y) 90 := rfl
set_option maxRecDepth 20000 in
theorem lX7_readLevel_90 : lk (tX7_readLevel d mc ms P) 90 = oIld 2 91 := rfl
set_option maxRecDepth 20000 in
theorem lX7_readLevel_91 : lk (tX7_readLevel d mc ms P) 91 = oCallV d mc ms P 0 0 yX7_readLevel (Cond.code yX7_readLevel cX7_readLevel 4 (some .boolean)) 2 7 94 := rfl
set_option maxRecDepth 20000 in
theorem lX7_readLevel_94 : lk (tX7_readLevel d mc ms P) 94 = oIf (fun x => x = 0) 97 29 := rfl
set_option maxRecDepth 20000 in
theorem lX7_readLevel_97 : lk (tX7_readLevel d mc ms P) 97 = oPush (.int 0) 98 := rfl
set_option maxRecDepth 20000 in
theorem lX7_readLevel_98 : lk (tX7_readLevel d mc ms P) 98 = oRetZ mc ms P := rfl
set_option maxRecDepth 20000 in
theorem lX7_readLevel_99 : lk (tX7_readLevel d mc ms P) 99 = oPush (.int 1) 100 := rfl
set_option maxRecDepth 20000 in
theorem lX7_readLevel_100 : lk (tX7_readLevel d mc ms P) 100 = oRetZ mc ms P := rfl
theorem lX7_readFactor_0 : lk (tX7_readFactor d mc ms P) 0 = oAld 0 1 := rfl
theorem lX7_readFactor_1 : lk (tX7_readFactor d mc ms P) 1 = oCallV d mc ms P 0 0 yX7_peek (Cond.code yX7_peek cX7_peek 1 (some .char)) 0 7 4 := rfl
theorem lX7_readFactor_4 : lk (tX7_readFactor d mc ms P) 4 = oIst 2 5 := rfl
theorem lX7_readFactor_5 : lk (tX7_readFactor d mc ms P) 5 = oIld 2 6 := rfl
theorem lX7_readFactor_6 : lk (tX7_readFactor d mc ms P) 6 = oCallS d mc ms P 0 0 yX7_isDigit (Cond.code yX7_isDigit cX7_isDigit 1 (some .boolean)) 1 9 := rfl
theorem lX7_readFactor_9 : lk (tX7_readFactor d mc ms P) 9 = oIf (fun x => x = 0) 17 12 := rfl
theorem lX7_readFactor_12 : lk (tX7_readFactor d mc ms P) 12 = oAld 0 13 := rfl
theorem lX7_readFactor_13 : lk (tX7_readFactor d mc ms P) 13 = oCallV d mc ms P 0 0 yX7_readNumber (Cond.code yX7_readNumber cX7_readNumber 3 (some .boolean)) 0 7 16 := rfl
theorem lX7_readFactor_16 : lk (tX7_readFactor d mc ms P) 16 = oRetZ mc ms P := rfl
theorem lX7_readFactor_17 : lk (tX7_readFactor d mc ms P) 17 = oIld 2 18 := rfl
theorem lX7_readFactor_18 : lk (tX7_readFactor d mc ms P) 18 = oCallS d mc ms P 0 0 yX7_isVariable (Cond.code yX7_isVariable cX7_isVariable 1 (some .boolean)) 1 21 := rfl
theorem lX7_readFactor_21 : lk (tX7_readFactor d mc ms P) 21 = oIf (fun x => x = 0) 47 24 := rfl
theorem lX7_readFactor_24 : lk (tX7_readFactor d mc ms P) 24 = oAld 0 25 := rfl
theorem lX7_readFactor_25 : lk (tX7_readFactor d mc ms P) 25 = oDup 26 := rfl
theorem lX7_readFactor_26 : lk (tX7_readFactor d mc ms P) 26 = oGi 7 2 29 := rfl
theorem lX7_readFactor_29 : lk (tX7_readFactor d mc ms P) 29 = oPush (.int 1) 30 := rfl
theorem lX7_readFactor_30 : lk (tX7_readFactor d mc ms P) 30 = oI2 (fun x y => x + y) 31 := rfl
theorem lX7_readFactor_31 : lk (tX7_readFactor d mc ms P) 31 = oPi 7 2 34 := rfl
theorem lX7_readFactor_34 : lk (tX7_readFactor d mc ms P) 34 = oAld 0 35 := rfl
theorem lX7_readFactor_35 : lk (tX7_readFactor d mc ms P) 35 = oPush (.int 100) 37 := rfl
theorem lX7_readFactor_37 : lk (tX7_readFactor d mc ms P) 37 = oIld 2 38 := rfl
theorem lX7_readFactor_38 : lk (tX7_readFactor d mc ms P) 38 = oI2 (fun x y => x + y) 39 := rfl
theorem lX7_readFactor_39 : lk (tX7_readFactor d mc ms P) 39 = oPush (.int 115) 41 := rfl
theorem lX7_readFactor_41 : lk (tX7_readFactor d mc ms P) 41 = oI2 (fun x y => x - y) 42 := rfl
theorem lX7_readFactor_42 : lk (tX7_readFactor d mc ms P) 42 = oCallV d mc ms P 0 0 yX7_addCode (Cond.code yX7_addCode cX7_addCode 2 none) 1 7 45 := rfl
theorem lX7_readFactor_45 : lk (tX7_readFactor d mc ms P) 45 = oPush (.int 1) 46 := rfl
theorem lX7_readFactor_46 : lk (tX7_readFactor d mc ms P) 46 = oRetZ mc ms P := rfl
theorem lX7_readFactor_47 : lk (tX7_readFactor d mc ms P) 47 = oIld 2 48 := rfl
theorem lX7_readFactor_48 : lk (tX7_readFactor d mc ms P) 48 = oPush (.int 97) 50 := rfl
theorem lX7_readFactor_50 : lk (tX7_readFactor d mc ms P) 50 = oIc (fun x y => x < y) 114 53 := rfl
theorem lX7_readFactor_53 : lk (tX7_readFactor d mc ms P) 53 = oIld 2 54 := rfl
theorem lX7_readFactor_54 : lk (tX7_readFactor d mc ms P) 54 = oPush (.int 99) 56 := rfl
theorem lX7_readFactor_56 : lk (tX7_readFactor d mc ms P) 56 = oIc (fun x y => y < x) 114 59 := rfl
theorem lX7_readFactor_59 : lk (tX7_readFactor d mc ms P) 59 = oAld 0 60 := rfl
theorem lX7_readFactor_60 : lk (tX7_readFactor d mc ms P) 60 = oDup 61 := rfl
theorem lX7_readFactor_61 : lk (tX7_readFactor d mc ms P) 61 = oGi 7 2 64 := rfl
theorem lX7_readFactor_64 : lk (tX7_readFactor d mc ms P) 64 = oPush (.int 1) 65 := rfl
theorem lX7_readFactor_65 : lk (tX7_readFactor d mc ms P) 65 = oI2 (fun x y => x + y) 66 := rfl
theorem lX7_readFactor_66 : lk (tX7_readFactor d mc ms P) 66 = oPi 7 2 69 := rfl
theorem lX7_readFactor_69 : lk (tX7_readFactor d mc ms P) 69 = oAld 0 70 := rfl
theorem lX7_readFactor_70 : lk (tX7_readFactor d mc ms P) 70 = oPush (.int 200) 73 := rfl
theorem lX7_readFactor_73 : lk (tX7_readFactor d mc ms P) 73 = oIld 2 74 := rfl
theorem lX7_readFactor_74 : lk (tX7_readFactor d mc ms P) 74 = oI2 (fun x y => x + y) 75 := rfl
theorem lX7_readFactor_75 : lk (tX7_readFactor d mc ms P) 75 = oPush (.int 97) 77 := rfl
theorem lX7_readFactor_77 : lk (tX7_readFactor d mc ms P) 77 = oI2 (fun x y => x - y) 78 := rfl
theorem lX7_readFactor_78 : lk (tX7_readFactor d mc ms P) 78 = oCallV d mc ms P 0 0 yX7_addCode (Cond.code yX7_addCode cX7_addCode 2 none) 1 7 81 := rfl
theorem lX7_readFactor_81 : lk (tX7_readFactor d mc ms P) 81 = oAld 0 82 := rfl
theorem lX7_readFactor_82 : lk (tX7_readFactor d mc ms P) 82 = oPush (.int 91) 84 := rfl
theorem lX7_readFactor_84 : lk (tX7_readFactor d mc ms P) 84 = oCallV d mc ms P 0 0 yX7_take (Cond.code yX7_take cX7_take 2 (some .boolean)) 1 7 87 := rfl
theorem lX7_readFactor_87 : lk (tX7_readFactor d mc ms P) 87 = oIf (fun x => x = 0) 112 90 := rfl
theorem lX7_readFactor_90 : lk (tX7_readFactor d mc ms P) 90 = oAld 0 91 := rfl
set_option maxRecDepth 20000 in
theorem lX7_readFactor_91 : lk (tX7_readFactor d mc ms P) 91 = oPush (.int 105) 93 := rfl
set_option maxRecDepth 20000 in
theorem lX7_readFactor_93 : lk (tX7_readFactor d mc ms P) 93 = oCallV d mc ms P 0 0 yX7_take (Cond.code yX7_take cX7_take 2 (some .boolean)) 1 7 96 := rfl
set_option maxRecDepth 20000 in
theorem lX7_readFactor_96 : lk (tX7_readFactor d mc ms P) 96 = oIf (fun x => x = 0) 112 99 := rfl
set_option maxRecDepth 20000 in
theorem lX7_readFactor_99 : lk (tX7_readFactor d mc ms P) 99 = oAld 0 100 := rfl
set_option maxRecDepth 20000 in
theorem lX7_readFactor_100 : lk (tX7_readFactor d mc ms P) 100 = oPush (.int 93) 102 := rfl
set_option maxRecDepth 20000 in
theorem lX7_readFactor_102 : lk (tX7_readFactor d mc ms P) 102 = oCallV d mc ms P 0 0 yX7_take (Cond.code yX7_take cX7_take 2 (some .boolean)) 1 7 105 := rfl
set_option maxRecDepth 20000 in
theorem lX7_readFactor_105 : lk (tX7_readFactor d mc ms P) 105 = oIf (fun x => x = 0) 112 108 := rfl
set_option maxRecDepth 20000 in
theorem lX7_readFactor_108 : lk (tX7_readFactor d mc ms P) 108 = oPush (.int 1) 109 := rfl
set_option maxRecDepth 20000 in
theorem lX7_readFactor_109 : lk (tX7_readFactor d mc ms P) 109 = oGoto 113 := rfl
set_option maxRecDepth 20000 in
theorem lX7_readFactor_112 : lk (tX7_readFactor d mc ms P) 112 = oPush (.int 0) 113 := rfl
set_option maxRecDepth 20000 in
theorem lX7_readFactor_113 : lk (tX7_readFactor d mc ms P) 113 = oRetZ mc ms P := rfl
set_option maxRecDepth 20000 in
theorem lX7_readFactor_114 : lk (tX7_readFactor d mc ms P) 114 = oIld 2 115 := rfl
set_option maxRecDepth 20000 in
theorem lX7_readFactor_115 : lk (tX7_readFactor d mc ms P) 115 = oPush (.int 40) 117 := rfl
set_option maxRecDepth 20000 in
theorem lX7_readFactor_117 : lk (tX7_readFactor d mc ms P) 117 = oIc (fun x y => x = y) 120 160 := rfl
set_option maxRecDepth 20000 in
theorem lX7_readFactor_120 : lk (tX7_readFactor d mc ms P) 120 = oIld 1 121 := rfl
set_option maxRecDepth 20000 in
theorem lX7_readFactor_121 : lk (tX7_readFactor d mc ms P) 121 = oPush (.int 4) 122 := rfl
set_option maxRecDepth 20000 in
theorem lX7_readFactor_122 : lk (tX7_readFactor d mc ms P) 122 = oIc (fun x y => y ≤ x) 158 125 := rfl
set_option maxRecDepth 20000 in
theorem lX7_readFactor_125 : lk (tX7_readFactor d mc ms P) 125 = oAld 0 126 := rfl
set_option maxRecDepth 20000 in
theorem lX7_readFactor_126 : lk (tX7_readFactor d mc ms P) 126 = oPush (.int 40) 128 := rfl
set_option maxRecDepth 20000 in
theorem lX7_readFactor_128 : lk (tX7_readFactor d mc ms P) 128 = oCallV d mc ms P 0 0 yX7_take (Cond.code yX7_take cX7_take 2 (some .boolean)) 1 7 131 := rfl
set_option maxRecDepth 20000 in
theorem lX7_readFactor_131 : lk (tX7_readFactor d mc ms P) 131 = oIf (fun x => x = 0) 158 134 := rfl
set_option maxRecDepth 20000 in
theorem lX7_readFactor_134 : lk (tX7_readFactor d mc ms P) 134 = oAld 0 135 := rfl
set_option maxRecDepth 20000 in
theorem lX7_readFactor_135 : lk (tX7_readFactor d mc ms P) 135 = oPush (.int 0) 136 := rfl
set_option maxRecDepth 20000 in
theorem lX7_readFactor_136 : lk (tX7_readFactor d mc ms P) 136 = oIld 1 137 := rfl
set_option maxRecDepth 20000 in
theorem lX7_readFactor_137 : lk (tX7_readFactor d mc ms P) 137 = oPush (.int 1) 138 := rfl
set_option maxRecDepth 20000 in
theorem lX7_readFactor_138 : lk (tX7_readFactor d mc ms P) 138 = oI2 (fun x y => x + y) 139 := rfl
set_option maxRecDepth 20000 in
theorem lX7_readFactor_139 : lk (tX7_readFactor d mc ms P) 139 = oCallV d mc ms P 0 0 yX7_readLevel (Cond.code yX7_readLevel cX7_readLevel 4 (some .boolean)) 2 7 142 := rfl
set_option maxRecDepth 20000 in
theorem lX7_readFactor_142 : lk (tX7_readFactor d mc ms P) 142 = oIf (fun x => x = 0) 158 145 := rfl
set_option maxRecDepth 20000 in
theorem lX7_readFactor_145 : lk (tX7_readFactor d mc ms P) 145 = oAld 0 146 := rfl
set_option maxRecDepth 20000 in
theorem lX7_readFactor_146 : lk (tX7_readFactor d mc ms P) 146 = oPush (.int 41) 148 := rfl
set_option maxRecDepth 20000 in
theorem lX7_readFactor_148 : lk (tX7_readFactor d mc ms P) 148 = oCallV d mc ms P 0 0 yX7_take (Cond.code yX7_take cX7_take 2 (some .boolean)) 1 7 151 := rfl
set_option maxRecDepth 20000 in
theorem lX7_readFactor_151 : lk (tX7_readFactor d mc ms P) 151 = oIf (fun x => x = 0) 158 154 := rfl
set_option maxRecDepth 20000 in
theorem lX7_readFactor_154 : lk (tX7_readFactor d mc ms P) 154 = oPush (.int 1) 155 := rfl
set_option maxRecDepth 20000 in
theorem lX7_readFactor_155 : lk (tX7_readFactor d mc ms P) 155 = oGoto 159 := rfl
set_option maxRecDepth 20000 in
theorem lX7_readFactor_158 : lk (tX7_readFactor d mc ms P) 158 = oPush (.int 0) 159 := rfl
set_option maxRecDepth 20000 in
theorem lX7_readFactor_159 : lk (tX7_readFactor d mc ms P) 159 = oRetZ mc ms P := rfl
set_option maxRecDepth 20000 in
theorem lX7_readFactor_160 : lk (tX7_readFactor d mc ms P) 160 = oAld 0 161 := rfl
set_option maxRecDepth 20000 in
theorem lX7_readFactor_161 : lk (tX7_readFactor d mc ms P) 161 = oCallV d mc ms P 0 0 yX7_readName (Cond.code yX7_readName cX7_readName 1 (some .int)) 0 7 164 := rfl
set_option maxRecDepth 20000 in
theorem lX7_readFactor_164 : lk (tX7_readFactor d mc ms P) 164 = oIst 3 165 := rfl
set_option maxRecDepth 20000 in
theorem lX7_readFactor_165 : lk (tX7_readFactor d mc ms P) 165 = oIld 3 166 := rfl
set_option maxRecDepth 20000 in
theorem lX7_readFactor_166 : lk (tX7_readFactor d mc ms P) 166 = oPush (.int (-1)) 167 := rfl
set_option maxRecDepth 20000 in
theorem lX7_readFactor_167 : lk (tX7_readFactor d mc ms P) 167 = oIc (fun x y => x = y) 183 170 := rfl
set_option maxRecDepth 20000 in
theorem lX7_readFactor_170 : lk (tX7_readFactor d mc ms P) 170 = oAld 0 171 := rfl
set_option maxRecDepth 20000 in
theorem lX7_readFactor_171 : lk (tX7_readFactor d mc ms P) 171 = oIld 3 172 := rfl
set_option maxRecDepth 20000 in
theorem lX7_readFactor_172 : lk (tX7_readFactor d mc ms P) 172 = oIld 1 173 := rfl
set_option maxRecDepth 20000 in
theorem lX7_readFactor_173 : lk (tX7_readFactor d mc ms P) 173 = oCallV d mc ms P 0 0 yX7_readFunction (Cond.code yX7_readFunction cX7_readFunction 5 (some .boolean)) 2 7 176 := rfl
set_option maxRecDepth 20000 in
theorem lX7_readFactor_176 : lk (tX7_readFactor d mc ms P) 176 = oIf (fun x => x = 0) 183 179 := rfl
set_option maxRecDepth 20000 in
theorem lX7_readFactor_179 : lk (tX7_readFactor d mc ms P) 179 = oPush (.int 1) 180 := rfl
set_option maxRecDepth 20000 in
theorem lX7_readFactor_180 : lk (tX7_readFactor d mc ms P) 180 = oGoto 184 := rfl
set_option maxRecDepth 20000 in
theorem lX7_readFactor_183 : lk (tX7_readFactor d mc ms P) 183 = oPush (.int 0) 184 := rfl
set_option maxRecDepth 20000 in
theorem lX7_readFactor_184 : lk (tX7_readFactor d mc ms P) 184 = oRetZ mc ms P := rfl
theorem lX7_readNumber_0 : lk (tX7_readNumber d mc ms P) 0 = oAld 0 1 := rfl
theorem lX7_readNumber_1 : lk (tX7_readNumber d mc ms P) 1 = oCallV d mc ms P 0 0 yX7_peek (Cond.code yX7_peek cX7_peek 1 (some .char)) 0 7 4 := rfl
theorem lX7_readNumber_4 : lk (tX7_readNumber d mc ms P) 4 = oPush (.int 48) 6 := rfl
theorem lX7_readNumber_6 : lk (tX7_readNumber d mc ms P) 6 = oI2 (fun x y => x - y) 7 := rfl
theorem lX7_readNumber_7 : lk (tX7_readNumber d mc ms P) 7 = oIst 1 8 := rfl
theorem lX7_readNumber_8 : lk (tX7_readNumber d mc ms P) 8 = oAld 0 9 := rfl
theorem lX7_readNumber_9 : lk (tX7_readNumber d mc ms P) 9 = oDup 10 := rfl
theorem lX7_readNumber_10 : lk (tX7_readNumber d mc ms P) 10 = oGi 7 2 13 := rfl
theorem lX7_readNumber_13 : lk (tX7_readNumber d mc ms P) 13 = oPush (.int 1) 14 := rfl
theorem lX7_readNumber_14 : lk (tX7_readNumber d mc ms P) 14 = oI2 (fun x y => x + y) 15 := rfl
theorem lX7_readNumber_15 : lk (tX7_readNumber d mc ms P) 15 = oPi 7 2 18 := rfl
theorem lX7_readNumber_18 : lk (tX7_readNumber d mc ms P) 18 = oAld 0 19 := rfl
theorem lX7_readNumber_19 : lk (tX7_readNumber d mc ms P) 19 = oCallV d mc ms P 0 0 yX7_peek (Cond.code yX7_peek cX7_peek 1 (some .char)) 0 7 22 := rfl
theorem lX7_readNumber_22 : lk (tX7_readNumber d mc ms P) 22 = oIst 2 23 := rfl
theorem lX7_readNumber_23 : lk (tX7_readNumber d mc ms P) 23 = oIld 1 24 := rfl
theorem lX7_readNumber_24 : lk (tX7_readNumber d mc ms P) 24 = oIf (fun x => x = 0) 54 27 := rfl
theorem lX7_readNumber_27 : lk (tX7_readNumber d mc ms P) 27 = oIld 2 28 := rfl
theorem lX7_readNumber_28 : lk (tX7_readNumber d mc ms P) 28 = oCallS d mc ms P 0 0 yX7_isDigit (Cond.code yX7_isDigit cX7_isDigit 1 (some .boolean)) 1 31 := rfl
theorem lX7_readNumber_31 : lk (tX7_readNumber d mc ms P) 31 = oIf (fun x => x = 0) 54 34 := rfl
theorem lX7_readNumber_34 : lk (tX7_readNumber d mc ms P) 34 = oPush (.int 10) 36 := rfl
theorem lX7_readNumber_36 : lk (tX7_readNumber d mc ms P) 36 = oIld 1 37 := rfl
theorem lX7_readNumber_37 : lk (tX7_readNumber d mc ms P) 37 = oI2 (fun x y => x * y) 38 := rfl
theorem lX7_readNumber_38 : lk (tX7_readNumber d mc ms P) 38 = oIld 2 39 := rfl
theorem lX7_readNumber_39 : lk (tX7_readNumber d mc ms P) 39 = oI2 (fun x y => x + y) 40 := rfl
theorem lX7_readNumber_40 : lk (tX7_readNumber d mc ms P) 40 = oPush (.int 48) 42 := rfl
theorem lX7_readNumber_42 : lk (tX7_readNumber d mc ms P) 42 = oI2 (fun x y => x - y) 43 := rfl
theorem lX7_readNumber_43 : lk (tX7_readNumber d mc ms P) 43 = oIst 1 44 := rfl
theorem lX7_readNumber_44 : lk (tX7_readNumber d mc ms P) 44 = oAld 0 45 := rfl
theorem lX7_readNumber_45 : lk (tX7_readNumber d mc ms P) 45 = oDup 46 := rfl
theorem lX7_readNumber_46 : lk (tX7_readNumber d mc ms P) 46 = oGi 7 2 49 := rfl
theorem lX7_readNumber_49 : lk (tX7_readNumber d mc ms P) 49 = oPush (.int 1) 50 := rfl
theorem lX7_readNumber_50 : lk (tX7_readNumber d mc ms P) 50 = oI2 (fun x y => x + y) 51 := rfl
theorem lX7_readNumber_51 : lk (tX7_readNumber d mc ms P) 51 = oPi 7 2 54 := rfl
theorem lX7_readNumber_54 : lk (tX7_readNumber d mc ms P) 54 = oAld 0 55 := rfl
theorem lX7_readNumber_55 : lk (tX7_readNumber d mc ms P) 55 = oIld 1 56 := rfl
theorem lX7_readNumber_56 : lk (tX7_readNumber d mc ms P) 56 = oCallV d mc ms P 0 0 yX7_addCode (Cond.code yX7_addCode cX7_addCode 2 none) 1 7 59 := rfl
theorem lX7_readNumber_59 : lk (tX7_readNumber d mc ms P) 59 = oPush (.int 1) 60 := rfl
theorem lX7_readNumber_60 : lk (tX7_readNumber d mc ms P) 60 = oRetZ mc ms P := rfl
theorem lX7_readName_0 : lk (tX7_readName d mc ms P) 0 = oAld 0 1 := rfl
theorem lX7_readName_1 : lk (tX7_readName d mc ms P) 1 = oPush (.int 105) 3 := rfl
theorem lX7_readName_3 : lk (tX7_readName d mc ms P) 3 = oCallV d mc ms P 0 0 yX7_take (Cond.code yX7_take cX7_take 2 (some .boolean)) 1 7 6 := rfl
theorem lX7_readName_6 : lk (tX7_readName d mc ms P) 6 = oIf (fun x => x = 0) 26 9 := rfl
theorem lX7_readName_9 : lk (tX7_readName d mc ms P) 9 = oAld 0 10 := rfl
theorem lX7_readName_10 : lk (tX7_readName d mc ms P) 10 = oPush (.int 102) 12 := rfl
theorem lX7_readName_12 : lk (tX7_readName d mc ms P) 12 = oCallV d mc ms P 0 0 yX7_take (Cond.code yX7_take cX7_take 2 (some .boolean)) 1 7 15 := rfl
theorem lX7_readName_15 : lk (tX7_readName d mc ms P) 15 = oIf (fun x => x = 0) 24 18 := rfl
theorem lX7_readName_18 : lk (tX7_readName d mc ms P) 18 = oPush (.int 308) 21 := rfl
theorem lX7_readName_21 : lk (tX7_readName d mc ms P) 21 = oGoto 25 := rfl
theorem lX7_readName_24 : lk (tX7_readName d mc ms P) 24 = oPush (.int (-1)) 25 := rfl
theorem lX7_readName_25 : lk (tX7_readName d mc ms P) 25 = oRetI mc ms P := rfl
theorem lX7_readName_26 : lk (tX7_readName d mc ms P) 26 = oAld 0 27 := rfl
theorem lX7_readName_27 : lk (tX7_readName d mc ms P) 27 = oPush (.int 109) 29 := rfl
theorem lX7_readName_29 : lk (tX7_readName d mc ms P) 29 = oCallV d mc ms P 0 0 yX7_take (Cond.code yX7_take cX7_take 2 (some .boolean)) 1 7 32 := rfl
theorem lX7_readName_32 : lk (tX7_readName d mc ms P) 32 = oIf (fun x => x = 0) 35 37 := rfl
theorem lX7_readName_35 : lk (tX7_readName d mc ms P) 35 = oPush (.int (-1)) 36 := rfl
theorem lX7_readName_36 : lk (tX7_readName d mc ms P) 36 = oRetI mc ms P := rfl
theorem lX7_readName_37 : lk (tX7_readName d mc ms P) 37 = oAld 0 38 := rfl
theorem lX7_readName_38 : lk (tX7_readName d mc ms P) 38 = oPush (.int 105) 40 := rfl
theorem lX7_readName_40 : lk (tX7_readName d mc ms P) 40 = oCallV d mc ms P 0 0 yX7_take (Cond.code yX7_take cX7_take 2 (some .boolean)) 1 7 43 := rfl
theorem lX7_readName_43 : lk (tX7_readName d mc ms P) 43 = oIf (fun x => x = 0) 63 46 := rfl
theorem lX7_readName_46 : lk (tX7_readName d mc ms P) 46 = oAld 0 47 := rfl
theorem lX7_readName_47 : lk (tX7_readName d mc ms P) 47 = oPush (.int 110) 49 := rfl
theorem lX7_readName_49 : lk (tX7_readName d mc ms P) 49 = oCallV d mc ms P 0 0 yX7_take (Cond.code yX7_take cX7_take 2 (some .boolean)) 1 7 52 := rfl
theorem lX7_readName_52 : lk (tX7_readName d mc ms P) 52 = oIf (fun x => x = 0) 61 55 := rfl
theorem lX7_readName_55 : lk (tX7_readName d mc ms P) 55 = oPush (.int 305) 58 := rfl
theorem lX7_readName_58 : lk (tX7_readName d mc ms P) 58 = oGoto 62 := rfl
theorem lX7_readName_61 : lk (tX7_readName d mc ms P) 61 = oPush (.int (-1)) 62 := rfl
theorem lX7_readName_62 : lk (tX7_readName d mc ms P) 62 = oRetI mc ms P := rfl
theorem lX7_readName_63 : lk (tX7_readName d mc ms P) 63 = oAld 0 64 := rfl
theorem lX7_readName_64 : lk (tX7_readName d mc ms P) 64 = oPush (.int 97) 66 := rfl
theorem lX7_readName_66 : lk (tX7_readName d mc ms P) 66 = oCallV d mc ms P 0 0 yX7_take (Cond.code yX7_take cX7_take 2 (some .boolean)) 1 7 69 := rfl
theorem lX7_readName_69 : lk (tX7_readName d mc ms P) 69 = oIf (fun x => x = 0) 87 72 := rfl
theorem lX7_readName_72 : lk (tX7_readName d mc ms P) 72 = oAld 0 73 := rfl
theorem lX7_readName_73 : lk (tX7_readName d mc ms P) 73 = oPush (.int 120) 75 := rfl
theorem lX7_readName_75 : lk (tX7_readName d mc ms P) 75 = oCallV d mc ms P 0 0 yX7_take (Cond.code yX7_take cX7_take 2 (some .boolean)) 1 7 78 := rfl
theorem lX7_readName_78 : lk (tX7_readName d mc ms P) 78 = oIf (fun x => x = 0) 87 81 := rfl
theorem lX7_readName_81 : lk (tX7_readName d mc ms P) 81 = oPush (.int 306) 84 := rfl
theorem lX7_readName_84 : lk (tX7_readName d mc ms P) 84 = oGoto 88 := rfl
theorem lX7_readName_87 : lk (tX7_readName d mc ms P) 87 = oPush (.int (-1)) 88 := rfl
theorem lX7_readName_88 : lk (tX7_readName d mc ms P) 88 = oRetI mc ms P := rfl
theorem lX7_readFunction_0 : lk (tX7_readFunction d mc ms P) 0 = oIld 2 1 := rfl
theorem lX7_readFunction_1 : lk (tX7_readFunction d mc ms P) 1 = oPush (.int 4) 2 := rfl
theorem lX7_readFunction_2 : lk (tX7_readFunction d mc ms P) 2 = oIc (fun x y => y ≤ x) 14 5 := rfl
theorem lX7_readFunction_5 : lk (tX7_readFunction d mc ms P) 5 = oAld 0 6 := rfl
theorem lX7_readFunction_6 : lk (tX7_readFunction d mc ms P) 6 = oPush (.int 40) 8 := rfl
theorem lX7_readFunction_8 : lk (tX7_readFunction d mc ms P) 8 = oCallV d mc ms P 0 0 yX7_take (Cond.code yX7_take cX7_take 2 (some .boolean)) 1 7 11 := rfl
theorem lX7_readFunction_11 : lk (tX7_readFunction d mc ms P) 11 = oIf (fun x => x = 0) 14 16 := rfl
theorem lX7_readFunction_14 : lk (tX7_readFunction d mc ms P) 14 = oPush (.int 0) 15 := rfl
theorem lX7_readFunction_15 : lk (tX7_readFunction d mc ms P) 15 = oRetZ mc ms P := rfl
theorem lX7_readFunction_16 : lk (tX7_readFunction d mc ms P) 16 = oAld 0 17 := rfl
theorem lX7_readFunction_17 : lk (tX7_readFunction d mc ms P) 17 = oIld 1 18 := rfl
theorem lX7_readFunction_18 : lk (tX7_readFunction d mc ms P) 18 = oCallV d mc ms P 0 0 yX7_addCode (Cond.code yX7_addCode cX7_addCode 2 none) 1 7 21 := rfl
theorem lX7_readFunction_21 : lk (tX7_readFunction d mc ms P) 21 = oIld 1 22 := rfl
theorem lX7_readFunction_22 : lk (tX7_readFunction d mc ms P) 22 = oCallS d mc ms P 0 0 yX9_operandsOf (Cond.code yX9_operandsOf cX9_operandsOf 1 (some .int)) 1 25 := rfl
theorem lX7_readFunction_25 : lk (tX7_readFunction d mc ms P) 25 = oIst 3 26 := rfl
theorem lX7_readFunction_26 : lk (tX7_readFunction d mc ms P) 26 = oPush (.int 0) 27 := rfl
theorem lX7_readFunction_27 : lk (tX7_readFunction d mc ms P) 27 = oIst 4 29 := rfl
theorem lX7_readFunction_29 : lk (tX7_readFunction d mc ms P) 29 = oIld 4 31 := rfl
theorem lX7_readFunction_31 : lk (tX7_readFunction d mc ms P) 31 = oIld 3 32 := rfl
theorem lX7_readFunction_32 : lk (tX7_readFunction d mc ms P) 32 = oIc (fun x y => y ≤ x) 70 35 := rfl
theorem lX7_readFunction_35 : lk (tX7_readFunction d mc ms P) 35 = oIld 4 37 := rfl
theorem lX7_readFunction_37 : lk (tX7_readFunction d mc ms P) 37 = oIf (fun x => x ≤ 0) 51 40 := rfl
theorem lX7_readFunction_40 : lk (tX7_readFunction d mc ms P) 40 = oAld 0 41 := rfl
theorem lX7_readFunction_41 : lk (tX7_readFunction d mc ms P) 41 = oPush (.int 44) 43 := rfl
theorem lX7_readFunction_43 : lk (tX7_readFunction d mc ms P) 43 = oCallV d mc ms P 0 0 yX7_take (Cond.code yX7_take cX7_take 2 (some .boolean)) 1 7 46 := rfl
theorem lX7_readFunction_46 : lk (tX7_readFunction d mc ms P) 46 = oIf (fun x => x = 0) 49 51 := rfl
theorem lX7_readFunction_49 : lk (tX7_readFunction d mc ms P) 49 = oPush (.int 0) 50 := rfl
theorem lX7_readFunction_50 : lk (tX7_readFunction d mc ms P) 50 = oRetZ mc ms P := rfl
theorem lX7_readFunction_51 : lk (tX7_readFunction d mc ms P) 51 = oAld 0 52 := rfl
theorem lX7_readFunction_52 : lk (tX7_readFunction d mc ms P) 52 = oPush (.int 0) 53 := rfl
theorem lX7_readFunction_53 : lk (tX7_readFunction d mc ms P) 53 = oIld 2 54 := rfl
theorem lX7_readFunction_54 : lk (tX7_readFunction d mc ms P) 54 = oPush (.int 1) 55 := rfl
theorem lX7_readFunction_55 : lk (tX7_readFunction d mc ms P) 55 = oI2 (fun x y => x + y) 56 := rfl
theorem lX7_readFunction_56 : lk (tX7_readFunction d mc ms P) 56 = oCallV d mc ms P 0 0 yX7_readLevel (Cond.code yX7_readLevel cX7_readLevel 4 (some .boolean)) 2 7 59 := rfl
theorem lX7_readFunction_59 : lk (tX7_readFunction d mc ms P) 59 = oIf (fun x => x = 0) 62 64 := rfl
theorem lX7_readFunction_62 : lk (tX7_readFunction d mc ms P) 62 = oPush (.int 0) 63 := rfl
theorem lX7_readFunction_63 : lk (tX7_readFunction d mc ms P) 63 = oRetZ mc ms P := rfl
theorem lX7_readFunction_64 : lk (tX7_readFunction d mc ms P) 64 = oInc 4 1 67 := rfl
theorem lX7_readFunction_67 : lk (tX7_readFunction d mc ms P) 67 = oGoto 29 := rfl
theorem lX7_readFunction_70 : lk (tX7_readFunction d mc ms P) 70 = oAld 0 71 := rfl
theorem lX7_readFunction_71 : lk (tX7_readFunction d mc ms P) 71 = oPush (.int 41) 73 := rfl
theorem lX7_readFunction_73 : lk (tX7_readFunction d mc ms P) 73 = oCallV d mc ms P 0 0 yX7_take (Cond.code yX7_take cX7_take 2 (some .boolean)) 1 7 76 := rfl
theorem lX7_readFunction_76 : lk (tX7_readFunction d mc ms P) 76 = oRetZ mc ms P := rfl
theorem lX7_peek_0 : lk (tX7_peek d mc ms P) 0 = oAld 0 1 := rfl
theorem lX7_peek_1 : lk (tX7_peek d mc ms P) 1 = oGi 7 2 4 := rfl
theorem lX7_peek_4 : lk (tX7_peek d mc ms P) 4 = oAld 0 5 := rfl
theorem lX7_peek_5 : lk (tX7_peek d mc ms P) 5 = oGi 7 1 8 := rfl
theorem lX7_peek_8 : lk (tX7_peek d mc ms P) 8 = oIc (fun x y => y ≤ x) 23 11 := rfl
theorem lX7_peek_11 : lk (tX7_peek d mc ms P) 11 = oAld 0 12 := rfl
theorem lX7_peek_12 : lk (tX7_peek d mc ms P) 12 = oGr 7 0 15 := rfl
theorem lX7_peek_15 : lk (tX7_peek d mc ms P) 15 = oAld 0 16 := rfl
theorem lX7_peek_16 : lk (tX7_peek d mc ms P) 16 = oGi 7 2 19 := rfl
theorem lX7_peek_19 : lk (tX7_peek d mc ms P) 19 = oAi 102 20 := rfl
theorem lX7_peek_20 : lk (tX7_peek d mc ms P) 20 = oGoto 24 := rfl
theorem lX7_peek_23 : lk (tX7_peek d mc ms P) 23 = oPush (.int 0) 24 := rfl
theorem lX7_peek_24 : lk (tX7_peek d mc ms P) 24 = oRetC mc ms P := rfl
theorem lX7_take_0 : lk (tX7_take d mc ms P) 0 = oAld 0 1 := rfl
theorem lX7_take_1 : lk (tX7_take d mc ms P) 1 = oGi 7 2 4 := rfl
theorem lX7_take_4 : lk (tX7_take d mc ms P) 4 = oAld 0 5 := rfl
theorem lX7_take_5 : lk (tX7_take d mc ms P) 5 = oGi 7 1 8 := rfl
theorem lX7_take_8 : lk (tX7_take d mc ms P) 8 = oIc (fun x y => y ≤ x) 36 11 := rfl
theorem lX7_take_11 : lk (tX7_take d mc ms P) 11 = oAld 0 12 := rfl
theorem lX7_take_12 : lk (tX7_take d mc ms P) 12 = oGr 7 0 15 := rfl
theorem lX7_take_15 : lk (tX7_take d mc ms P) 15 = oAld 0 16 := rfl
theorem lX7_take_16 : lk (tX7_take d mc ms P) 16 = oGi 7 2 19 := rfl
theorem lX7_take_19 : lk (tX7_take d mc ms P) 19 = oAi 102 20 := rfl
theorem lX7_take_20 : lk (tX7_take d mc ms P) 20 = oIld 1 21 := rfl
theorem lX7_take_21 : lk (tX7_take d mc ms P) 21 = oIc (fun x y => x = y) 24 36 := rfl
theorem lX7_take_24 : lk (tX7_take d mc ms P) 24 = oAld 0 25 := rfl
theorem lX7_take_25 : lk (tX7_take d mc ms P) 25 = oDup 26 := rfl
theorem lX7_take_26 : lk (tX7_take d mc ms P) 26 = oGi 7 2 29 := rfl
theorem lX7_take_29 : lk (tX7_take d mc ms P) 29 = oPush (.int 1) 30 := rfl
theorem lX7_take_30 : lk (tX7_take d mc ms P) 30 = oI2 (fun x y => x + y) 31 := rfl
theorem lX7_take_31 : lk (tX7_take d mc ms P) 31 = oPi 7 2 34 := rfl
theorem lX7_take_34 : lk (tX7_take d mc ms P) 34 = oPush (.int 1) 35 := rfl
theorem lX7_take_35 : lk (tX7_take d mc ms P) 35 = oRetZ mc ms P := rfl
theorem lX7_take_36 : lk (tX7_take d mc ms P) 36 = oPush (.int 0) 37 := rfl
theorem lX7_take_37 : lk (tX7_take d mc ms P) 37 = oRetZ mc ms P := rfl
theorem lX7_addCode_0 : lk (tX7_addCode d mc ms P) 0 = oAld 0 1 := rfl
theorem lX7_addCode_1 : lk (tX7_addCode d mc ms P) 1 = oGi 7 4 4 := rfl
theorem lX7_addCode_4 : lk (tX7_addCode d mc ms P) 4 = oPush (.int 100) 6 := rfl
theorem lX7_addCode_6 : lk (tX7_addCode d mc ms P) 6 = oIc (fun x y => y ≤ x) 29 9 := rfl
theorem lX7_addCode_9 : lk (tX7_addCode d mc ms P) 9 = oAld 0 10 := rfl
theorem lX7_addCode_10 : lk (tX7_addCode d mc ms P) 10 = oGr 7 3 13 := rfl
theorem lX7_addCode_13 : lk (tX7_addCode d mc ms P) 13 = oAld 0 14 := rfl
theorem lX7_addCode_14 : lk (tX7_addCode d mc ms P) 14 = oGi 7 4 17 := rfl
theorem lX7_addCode_17 : lk (tX7_addCode d mc ms P) 17 = oIld 1 18 := rfl
theorem lX7_addCode_18 : lk (tX7_addCode d mc ms P) 18 = oSi 100 (fun x => x) 19 := rfl
theorem lX7_addCode_19 : lk (tX7_addCode d mc ms P) 19 = oAld 0 20 := rfl
theorem lX7_addCode_20 : lk (tX7_addCode d mc ms P) 20 = oDup 21 := rfl
theorem lX7_addCode_21 : lk (tX7_addCode d mc ms P) 21 = oGi 7 4 24 := rfl
theorem lX7_addCode_24 : lk (tX7_addCode d mc ms P) 24 = oPush (.int 1) 25 := rfl
theorem lX7_addCode_25 : lk (tX7_addCode d mc ms P) 25 = oI2 (fun x y => x + y) 26 := rfl
theorem lX7_addCode_26 : lk (tX7_addCode d mc ms P) 26 = oPi 7 4 29 := rfl
theorem lX7_addCode_29 : lk (tX7_addCode d mc ms P) 29 = oRetV mc ms P := rfl
theorem lX7_insertCode_0 : lk (tX7_insertCode d mc ms P) 0 = oAld 0 1 := rfl
theorem lX7_insertCode_1 : lk (tX7_insertCode d mc ms P) 1 = oGi 7 4 4 := rfl
theorem lX7_insertCode_4 : lk (tX7_insertCode d mc ms P) 4 = oPush (.int 100) 6 := rfl
theorem lX7_insertCode_6 : lk (tX7_insertCode d mc ms P) 6 = oIc (fun x y => y ≤ x) 59 9 := rfl
theorem lX7_insertCode_9 : lk (tX7_insertCode d mc ms P) 9 = oIld 1 10 := rfl
theorem lX7_insertCode_10 : lk (tX7_insertCode d mc ms P) 10 = oIf (fun x => x < 0) 59 13 := rfl
theorem lX7_insertCode_13 : lk (tX7_insertCode d mc ms P) 13 = oIld 1 14 := rfl
theorem lX7_insertCode_14 : lk (tX7_insertCode d mc ms P) 14 = oAld 0 15 := rfl
theorem lX7_insertCode_15 : lk (tX7_insertCode d mc ms P) 15 = oGi 7 4 18 := rfl
theorem lX7_insertCode_18 : lk (tX7_insertCode d mc ms P) 18 = oIc (fun x y => y < x) 59 21 := rfl
theorem lX7_insertCode_21 : lk (tX7_insertCode d mc ms P) 21 = oAld 0 22 := rfl
theorem lX7_insertCode_22 : lk (tX7_insertCode d mc ms P) 22 = oGr 7 3 25 := rfl
theorem lX7_insertCode_25 : lk (tX7_insertCode d mc ms P) 25 = oIld 1 26 := rfl
theorem lX7_insertCode_26 : lk (tX7_insertCode d mc ms P) 26 = oAld 0 27 := rfl
theorem lX7_insertCode_27 : lk (tX7_insertCode d mc ms P) 27 = oGr 7 3 30 := rfl
theorem lX7_insertCode_30 : lk (tX7_insertCode d mc ms P) 30 = oIld 1 31 := rfl
theorem lX7_insertCode_31 : lk (tX7_insertCode d mc ms P) 31 = oPush (.int 1) 32 := rfl
theorem lX7_insertCode_32 : lk (tX7_insertCode d mc ms P) 32 = oI2 (fun x y => x + y) 33 := rfl
theorem lX7_insertCode_33 : lk (tX7_insertCode d mc ms P) 33 = oAld 0 34 := rfl
theorem lX7_insertCode_34 : lk (tX7_insertCode d mc ms P) 34 = oGi 7 4 37 := rfl
theorem lX7_insertCode_37 : lk (tX7_insertCode d mc ms P) 37 = oIld 1 38 := rfl
theorem lX7_insertCode_38 : lk (tX7_insertCode d mc ms P) 38 = oI2 (fun x y => x - y) 39 := rfl
theorem lX7_insertCode_39 : lk (tX7_insertCode d mc ms P) 39 = oCopy 42 := rfl
theorem lX7_insertCode_42 : lk (tX7_insertCode d mc ms P) 42 = oAld 0 43 := rfl
theorem lX7_insertCode_43 : lk (tX7_insertCode d mc ms P) 43 = oGr 7 3 46 := rfl
theorem lX7_insertCode_46 : lk (tX7_insertCode d mc ms P) 46 = oIld 1 47 := rfl
theorem lX7_insertCode_47 : lk (tX7_insertCode d mc ms P) 47 = oIld 2 48 := rfl
theorem lX7_insertCode_48 : lk (tX7_insertCode d mc ms P) 48 = oSi 100 (fun x => x) 49 := rfl
theorem lX7_insertCode_49 : lk (tX7_insertCode d mc ms P) 49 = oAld 0 50 := rfl
theorem lX7_insertCode_50 : lk (tX7_insertCode d mc ms P) 50 = oDup 51 := rfl
theorem lX7_insertCode_51 : lk (tX7_insertCode d mc ms P) 51 = oGi 7 4 54 := rfl
theorem lX7_insertCode_54 : lk (tX7_insertCode d mc ms P) 54 = oPush (.int 1) 55 := rfl
theorem lX7_insertCode_55 : lk (tX7_insertCode d mc ms P) 55 = oI2 (fun x y => x + y) 56 := rfl
theorem lX7_insertCode_56 : lk (tX7_insertCode d mc ms P) 56 = oPi 7 4 59 := rfl
theorem lX7_insertCode_59 : lk (tX7_insertCode d mc ms P) 59 = oRetV mc ms P := rfl
theorem lX7_isVariable_0 : lk (tX7_isVariable d mc ms P) 0 = oIld 0 1 := rfl
theorem lX7_isVariable_1 : lk (tX7_isVariable d mc ms P) 1 = oPush (.int 115) 3 := rfl
theorem lX7_isVariable_3 : lk (tX7_isVariable d mc ms P) 3 = oIc (fun x y => x < y) 16 6 := rfl
theorem lX7_isVariable_6 : lk (tX7_isVariable d mc ms P) 6 = oIld 0 7 := rfl
theorem lX7_isVariable_7 : lk (tX7_isVariable d mc ms P) 7 = oPush (.int 122) 9 := rfl
theorem lX7_isVariable_9 : lk (tX7_isVariable d mc ms P) 9 = oIc (fun x y => y < x) 16 12 := rfl
theorem lX7_isVariable_12 : lk (tX7_isVariable d mc ms P) 12 = oPush (.int 1) 13 := rfl
theorem lX7_isVariable_13 : lk (tX7_isVariable d mc ms P) 13 = oGoto 17 := rfl
theorem lX7_isVariable_16 : lk (tX7_isVariable d mc ms P) 16 = oPush (.int 0) 17 := rfl
theorem lX7_isVariable_17 : lk (tX7_isVariable d mc ms P) 17 = oRetZ mc ms P := rfl
theorem lX7_isDigit_0 : lk (tX7_isDigit d mc ms P) 0 = oIld 0 1 := rfl
theorem lX7_isDigit_1 : lk (tX7_isDigit d mc ms P) 1 = oPush (.int 48) 3 := rfl
theorem lX7_isDigit_3 : lk (tX7_isDigit d mc ms P) 3 = oIc (fun x y => x < y) 16 6 := rfl
theorem lX7_isDigit_6 : lk (tX7_isDigit d mc ms P) 6 = oIld 0 7 := rfl
theorem lX7_isDigit_7 : lk (tX7_isDigit d mc ms P) 7 = oPush (.int 57) 9 := rfl
theorem lX7_isDigit_9 : lk (tX7_isDigit d mc ms P) 9 = oIc (fun x y => y < x) 16 12 := rfl
theorem lX7_isDigit_12 : lk (tX7_isDigit d mc ms P) 12 = oPush (.int 1) 13 := rfl
theorem lX7_isDigit_13 : lk (tX7_isDigit d mc ms P) 13 = oGoto 17 := rfl
theorem lX7_isDigit_16 : lk (tX7_isDigit d mc ms P) 16 = oPush (.int 0) 17 := rfl
theorem lX7_isDigit_17 : lk (tX7_isDigit d mc ms P) 17 = oRetZ mc ms P := rfl
theorem lX7_codeOf_0 : lk (tX7_codeOf d mc ms P) 0 = oIld 0 1 := rfl
theorem lX7_codeOf_1 : lk (tX7_codeOf d mc ms P) 1 = oPush (.int 38) 3 := rfl
theorem lX7_codeOf_3 : lk (tX7_codeOf d mc ms P) 3 = oIc (fun x y => x = y) 6 10 := rfl
theorem lX7_codeOf_6 : lk (tX7_codeOf d mc ms P) 6 = oPush (.int 302) 9 := rfl
theorem lX7_codeOf_9 : lk (tX7_codeOf d mc ms P) 9 = oRetI mc ms P := rfl
theorem lX7_codeOf_10 : lk (tX7_codeOf d mc ms P) 10 = oIld 0 11 := rfl
theorem lX7_codeOf_11 : lk (tX7_codeOf d mc ms P) 11 = oPush (.int 124) 13 := rfl
theorem lX7_codeOf_13 : lk (tX7_codeOf d mc ms P) 13 = oIc (fun x y => x = y) 16 20 := rfl
theorem lX7_codeOf_16 : lk (tX7_codeOf d mc ms P) 16 = oPush (.int 303) 19 := rfl
theorem lX7_codeOf_19 : lk (tX7_codeOf d mc ms P) 19 = oRetI mc ms P := rfl
theorem lX7_codeOf_20 : lk (tX7_codeOf d mc ms P) 20 = oIld 0 21 := rfl
theorem lX7_codeOf_21 : lk (tX7_codeOf d mc ms P) 21 = oPush (.int 94) 23 := rfl
theorem lX7_codeOf_23 : lk (tX7_codeOf d mc ms P) 23 = oIc (fun x y => x = y) 26 30 := rfl
theorem lX7_codeOf_26 : lk (tX7_codeOf d mc ms P) 26 = oPush (.int 304) 29 := rfl
theorem lX7_codeOf_29 : lk (tX7_codeOf d mc ms P) 29 = oRetI mc ms P := rfl
theorem lX7_codeOf_30 : lk (tX7_codeOf d mc ms P) 30 = oIld 0 31 := rfl
theorem lX7_codeOf_31 : lk (tX7_codeOf d mc ms P) 31 = oPush (.int 43) 33 := rfl
theorem lX7_codeOf_33 : lk (tX7_codeOf d mc ms P) 33 = oIc (fun x y => x = y) 36 40 := rfl
theorem lX7_codeOf_36 : lk (tX7_codeOf d mc ms P) 36 = oPush (.int 300) 39 := rfl
theorem lX7_codeOf_39 : lk (tX7_codeOf d mc ms P) 39 = oRetI mc ms P := rfl
theorem lX7_codeOf_40 : lk (tX7_codeOf d mc ms P) 40 = oIld 0 41 := rfl
theorem lX7_codeOf_41 : lk (tX7_codeOf d mc ms P) 41 = oPush (.int 45) 43 := rfl
theorem lX7_codeOf_43 : lk (tX7_codeOf d mc ms P) 43 = oIc (fun x y => x = y) 46 50 := rfl
theorem lX7_codeOf_46 : lk (tX7_codeOf d mc ms P) 46 = oPush (.int 307) 49 := rfl
theorem lX7_codeOf_49 : lk (tX7_codeOf d mc ms P) 49 = oRetI mc ms P := rfl
theorem lX7_codeOf_50 : lk (tX7_codeOf d mc ms P) 50 = oIld 0 51 := rfl
theorem lX7_codeOf_51 : lk (tX7_codeOf d mc ms P) 51 = oPush (.int 42) 53 := rfl
theorem lX7_codeOf_53 : lk (tX7_codeOf d mc ms P) 53 = oIc (fun x y => x = y) 56 62 := rfl
theorem lX7_codeOf_56 : lk (tX7_codeOf d mc ms P) 56 = oPush (.int 301) 59 := rfl
theorem lX7_codeOf_59 : lk (tX7_codeOf d mc ms P) 59 = oGoto 63 := rfl
theorem lX7_codeOf_62 : lk (tX7_codeOf d mc ms P) 62 = oPush (.int (-1)) 63 := rfl
theorem lX7_codeOf_63 : lk (tX7_codeOf d mc ms P) 63 = oRetI mc ms P := rfl
theorem lX7_levelOf_0 : lk (tX7_levelOf d mc ms P) 0 = oIld 0 1 := rfl
theorem lX7_levelOf_1 : lk (tX7_levelOf d mc ms P) 1 = oPush (.int 302) 4 := rfl
theorem lX7_levelOf_4 : lk (tX7_levelOf d mc ms P) 4 = oIc (fun x y => x = y) 21 7 := rfl
theorem lX7_levelOf_7 : lk (tX7_levelOf d mc ms P) 7 = oIld 0 8 := rfl
theorem lX7_levelOf_8 : lk (tX7_levelOf d mc ms P) 8 = oPush (.int 303) 11 := rfl
theorem lX7_levelOf_11 : lk (tX7_levelOf d mc ms P) 11 = oIc (fun x y => x = y) 21 14 := rfl
theorem lX7_levelOf_14 : lk (tX7_levelOf d mc ms P) 14 = oIld 0 15 := rfl
theorem lX7_levelOf_15 : lk (tX7_levelOf d mc ms P) 15 = oPush (.int 304) 18 := rfl
theorem lX7_levelOf_18 : lk (tX7_levelOf d mc ms P) 18 = oIc (fun x y => x = y) 21 23 := rfl
theorem lX7_levelOf_21 : lk (tX7_levelOf d mc ms P) 21 = oPush (.int 0) 22 := rfl
theorem lX7_levelOf_22 : lk (tX7_levelOf d mc ms P) 22 = oRetI mc ms P := rfl
theorem lX7_levelOf_23 : lk (tX7_levelOf d mc ms P) 23 = oIld 0 24 := rfl
theorem lX7_levelOf_24 : lk (tX7_levelOf d mc ms P) 24 = oPush (.int 300) 27 := rfl
theorem lX7_levelOf_27 : lk (tX7_levelOf d mc ms P) 27 = oIc (fun x y => x = y) 37 30 := rfl
theorem lX7_levelOf_30 : lk (tX7_levelOf d mc ms P) 30 = oIld 0 31 := rfl
theorem lX7_levelOf_31 : lk (tX7_levelOf d mc ms P) 31 = oPush (.int 307) 34 := rfl
theorem lX7_levelOf_34 : lk (tX7_levelOf d mc ms P) 34 = oIc (fun x y => x = y) 37 39 := rfl
theorem lX7_levelOf_37 : lk (tX7_levelOf d mc ms P) 37 = oPush (.int 1) 38 := rfl
theorem lX7_levelOf_38 : lk (tX7_levelOf d mc ms P) 38 = oRetI mc ms P := rfl
theorem lX7_levelOf_39 : lk (tX7_levelOf d mc ms P) 39 = oIld 0 40 := rfl
theorem lX7_levelOf_40 : lk (tX7_levelOf d mc ms P) 40 = oPush (.int 301) 43 := rfl
theorem lX7_levelOf_43 : lk (tX7_levelOf d mc ms P) 43 = oIc (fun x y => x = y) 46 50 := rfl
theorem lX7_levelOf_46 : lk (tX7_levelOf d mc ms P) 46 = oPush (.int 2) 47 := rfl
theorem lX7_levelOf_47 : lk (tX7_levelOf d mc ms P) 47 = oGoto 51 := rfl
theorem lX7_levelOf_50 : lk (tX7_levelOf d mc ms P) 50 = oPush (.int (-1)) 51 := rfl
theorem lX7_levelOf_51 : lk (tX7_levelOf d mc ms P) 51 = oRetI mc ms P := rfl
end
