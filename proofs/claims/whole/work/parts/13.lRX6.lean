section
variable {d mc ms : Nat} {P : PO}
theorem lX6_build_0 : lk (tX6_build d mc ms P) 0 = oAld 1 1 := rfl
theorem lX6_build_1 : lk (tX6_build d mc ms P) 1 = oGi 7 7 4 := rfl
theorem lX6_build_4 : lk (tX6_build d mc ms P) 4 = oPush (.int 8) 6 := rfl
theorem lX6_build_6 : lk (tX6_build d mc ms P) 6 = oIc (fun x y => x ≤ y) 11 9 := rfl
theorem lX6_build_9 : lk (tX6_build d mc ms P) 9 = oPush (.int 0) 10 := rfl
theorem lX6_build_10 : lk (tX6_build d mc ms P) 10 = oRetZ mc ms P := rfl
theorem lX6_build_11 : lk (tX6_build d mc ms P) 11 = oAld 0 12 := rfl
theorem lX6_build_12 : lk (tX6_build d mc ms P) 12 = oAld 1 13 := rfl
theorem lX6_build_13 : lk (tX6_build d mc ms P) 13 = oCallV d mc ms P 0 0 yX6_copyStatements (Cond.code yX6_copyStatements cX6_copyStatements 2 none) 1 6 16 := rfl
theorem lX6_build_16 : lk (tX6_build d mc ms P) 16 = oAld 0 17 := rfl
theorem lX6_build_17 : lk (tX6_build d mc ms P) 17 = oAld 1 18 := rfl
theorem lX6_build_18 : lk (tX6_build d mc ms P) 18 = oGi 7 4 21 := rfl
theorem lX6_build_21 : lk (tX6_build d mc ms P) 21 = oCallV d mc ms P 0 0 yX6_countOperations (Cond.code yX6_countOperations cX6_countOperations 4 none) 1 6 24 := rfl
theorem lX6_build_24 : lk (tX6_build d mc ms P) 24 = oPush (.int 0) 25 := rfl
theorem lX6_build_25 : lk (tX6_build d mc ms P) 25 = oIst 2 26 := rfl
theorem lX6_build_26 : lk (tX6_build d mc ms P) 26 = oIld 2 27 := rfl
theorem lX6_build_27 : lk (tX6_build d mc ms P) 27 = oPush (.int 8) 29 := rfl
theorem lX6_build_29 : lk (tX6_build d mc ms P) 29 = oIc (fun x y => y ≤ x) 64 32 := rfl
theorem lX6_build_32 : lk (tX6_build d mc ms P) 32 = oAld 0 33 := rfl
theorem lX6_build_33 : lk (tX6_build d mc ms P) 33 = oGr 6 6 36 := rfl
theorem lX6_build_36 : lk (tX6_build d mc ms P) 36 = oIld 2 37 := rfl
theorem lX6_build_37 : lk (tX6_build d mc ms P) 37 = oAr 106 38 := rfl
theorem lX6_build_38 : lk (tX6_build d mc ms P) 38 = oPush (.int 0) 39 := rfl
theorem lX6_build_39 : lk (tX6_build d mc ms P) 39 = oPush (.int 100) 41 := rfl
theorem lX6_build_41 : lk (tX6_build d mc ms P) 41 = oIld 2 42 := rfl
theorem lX6_build_42 : lk (tX6_build d mc ms P) 42 = oI2 (fun x y => x + y) 43 := rfl
theorem lX6_build_43 : lk (tX6_build d mc ms P) 43 = oSi 100 (fun x => x) 44 := rfl
theorem lX6_build_44 : lk (tX6_build d mc ms P) 44 = oAld 0 45 := rfl
theorem lX6_build_45 : lk (tX6_build d mc ms P) 45 = oGr 6 7 48 := rfl
theorem lX6_build_48 : lk (tX6_build d mc ms P) 48 = oIld 2 49 := rfl
theorem lX6_build_49 : lk (tX6_build d mc ms P) 49 = oPush (.int 1) 50 := rfl
theorem lX6_build_50 : lk (tX6_build d mc ms P) 50 = oSi 100 (fun x => x) 51 := rfl
theorem lX6_build_51 : lk (tX6_build d mc ms P) 51 = oAld 0 52 := rfl
theorem lX6_build_52 : lk (tX6_build d mc ms P) 52 = oGr 6 9 55 := rfl
theorem lX6_build_55 : lk (tX6_build d mc ms P) 55 = oIld 2 56 := rfl
theorem lX6_build_56 : lk (tX6_build d mc ms P) 56 = oPush (.int 0) 57 := rfl
theorem lX6_build_57 : lk (tX6_build d mc ms P) 57 = oSi 103 (fun x => vp_nar .boolean x) 58 := rfl
theorem lX6_build_58 : lk (tX6_build d mc ms P) 58 = oInc 2 1 61 := rfl
theorem lX6_build_61 : lk (tX6_build d mc ms P) 61 = oGoto 26 := rfl
theorem lX6_build_64 : lk (tX6_build d mc ms P) 64 = oPush (.int 0) 65 := rfl
theorem lX6_build_65 : lk (tX6_build d mc ms P) 65 = oIst 2 66 := rfl
theorem lX6_build_66 : lk (tX6_build d mc ms P) 66 = oIld 2 67 := rfl
theorem lX6_build_67 : lk (tX6_build d mc ms P) 67 = oAld 0 68 := rfl
theorem lX6_build_68 : lk (tX6_build d mc ms P) 68 = oGi 6 3 71 := rfl
theorem lX6_build_71 : lk (tX6_build d mc ms P) 71 = oIc (fun x y => y ≤ x) 90 74 := rfl
theorem lX6_build_74 : lk (tX6_build d mc ms P) 74 = oAld 0 75 := rfl
theorem lX6_build_75 : lk (tX6_build d mc ms P) 75 = oIld 2 76 := rfl
theorem lX6_build_76 : lk (tX6_build d mc ms P) 76 = oCallV d mc ms P 0 0 yX6_assign (Cond.code yX6_assign cX6_assign 7 (some .boolean)) 1 6 79 := rfl
theorem lX6_build_79 : lk (tX6_build d mc ms P) 79 = oIf (fun x => x = 0) 82 84 := rfl
theorem lX6_build_82 : lk (tX6_build d mc ms P) 82 = oPush (.int 0) 83 := rfl
theorem lX6_build_83 : lk (tX6_build d mc ms P) 83 = oRetZ mc ms P := rfl
set_option maxRecDepth 20000 in
theorem lX6_build_84 : lk (tX6_build d mc ms P) 84 = oInc 2 1 87 := rfl
set_option maxRecDepth 20000 in
theorem lX6_build_87 : lk (tX6_build d mc ms P) 87 = oGoto 66 := rfl
set_option maxRecDepth 20000 in
theorem lX6_build_90 : lk (tX6_build d mc ms P) 90 = oPush (.int 1) 91 := rfl
set_option maxRecDepth 20000 in
theorem lX6_build_91 : lk (tX6_build d mc ms P) 91 = oRetZ mc ms P := rfl
theorem lX6_copyStatements_0 : lk (tX6_copyStatements d mc ms P) 0 = oAld 0 1 := rfl
theorem lX6_copyStatements_1 : lk (tX6_copyStatements d mc ms P) 1 = oAld 1 2 := rfl
theorem lX6_copyStatements_2 : lk (tX6_copyStatements d mc ms P) 2 = oGi 7 7 5 := rfl
theorem lX6_copyStatements_5 : lk (tX6_copyStatements d mc ms P) 5 = oPi 6 3 8 := rfl
theorem lX6_copyStatements_8 : lk (tX6_copyStatements d mc ms P) 8 = oAld 1 9 := rfl
theorem lX6_copyStatements_9 : lk (tX6_copyStatements d mc ms P) 9 = oGr 7 5 12 := rfl
theorem lX6_copyStatements_12 : lk (tX6_copyStatements d mc ms P) 12 = oPush (.int 0) 13 := rfl
theorem lX6_copyStatements_13 : lk (tX6_copyStatements d mc ms P) 13 = oAld 0 14 := rfl
theorem lX6_copyStatements_14 : lk (tX6_copyStatements d mc ms P) 14 = oGr 6 1 17 := rfl
theorem lX6_copyStatements_17 : lk (tX6_copyStatements d mc ms P) 17 = oPush (.int 0) 18 := rfl
theorem lX6_copyStatements_18 : lk (tX6_copyStatements d mc ms P) 18 = oPush (.int 8) 20 := rfl
theorem lX6_copyStatements_20 : lk (tX6_copyStatements d mc ms P) 20 = oCopy 23 := rfl
theorem lX6_copyStatements_23 : lk (tX6_copyStatements d mc ms P) 23 = oAld 1 24 := rfl
theorem lX6_copyStatements_24 : lk (tX6_copyStatements d mc ms P) 24 = oGr 7 6 27 := rfl
theorem lX6_copyStatements_27 : lk (tX6_copyStatements d mc ms P) 27 = oPush (.int 0) 28 := rfl
theorem lX6_copyStatements_28 : lk (tX6_copyStatements d mc ms P) 28 = oAld 0 29 := rfl
theorem lX6_copyStatements_29 : lk (tX6_copyStatements d mc ms P) 29 = oGr 6 2 32 := rfl
theorem lX6_copyStatements_32 : lk (tX6_copyStatements d mc ms P) 32 = oPush (.int 0) 33 := rfl
theorem lX6_copyStatements_33 : lk (tX6_copyStatements d mc ms P) 33 = oPush (.int 8) 35 := rfl
theorem lX6_copyStatements_35 : lk (tX6_copyStatements d mc ms P) 35 = oCopy 38 := rfl
theorem lX6_copyStatements_38 : lk (tX6_copyStatements d mc ms P) 38 = oAld 1 39 := rfl
theorem lX6_copyStatements_39 : lk (tX6_copyStatements d mc ms P) 39 = oGr 7 3 42 := rfl
theorem lX6_copyStatements_42 : lk (tX6_copyStatements d mc ms P) 42 = oPush (.int 0) 43 := rfl
theorem lX6_copyStatements_43 : lk (tX6_copyStatements d mc ms P) 43 = oAld 0 44 := rfl
theorem lX6_copyStatements_44 : lk (tX6_copyStatements d mc ms P) 44 = oGr 6 0 47 := rfl
theorem lX6_copyStatements_47 : lk (tX6_copyStatements d mc ms P) 47 = oPush (.int 0) 48 := rfl
theorem lX6_copyStatements_48 : lk (tX6_copyStatements d mc ms P) 48 = oPush (.int 100) 50 := rfl
theorem lX6_copyStatements_50 : lk (tX6_copyStatements d mc ms P) 50 = oCopy 53 := rfl
theorem lX6_copyStatements_53 : lk (tX6_copyStatements d mc ms P) 53 = oRetV mc ms P := rfl
theorem lX6_countOperations_0 : lk (tX6_countOperations d mc ms P) 0 = oAld 0 1 := rfl
theorem lX6_countOperations_1 : lk (tX6_countOperations d mc ms P) 1 = oPush (.int 0) 2 := rfl
theorem lX6_countOperations_2 : lk (tX6_countOperations d mc ms P) 2 = oPi 6 4 5 := rfl
theorem lX6_countOperations_5 : lk (tX6_countOperations d mc ms P) 5 = oAld 0 6 := rfl
theorem lX6_countOperations_6 : lk (tX6_countOperations d mc ms P) 6 = oPush (.int 0) 7 := rfl
theorem lX6_countOperations_7 : lk (tX6_countOperations d mc ms P) 7 = oPz 6 5 10 := rfl
theorem lX6_countOperations_10 : lk (tX6_countOperations d mc ms P) 10 = oPush (.int 0) 11 := rfl
theorem lX6_countOperations_11 : lk (tX6_countOperations d mc ms P) 11 = oIst 2 12 := rfl
theorem lX6_countOperations_12 : lk (tX6_countOperations d mc ms P) 12 = oIld 2 13 := rfl
theorem lX6_countOperations_13 : lk (tX6_countOperations d mc ms P) 13 = oIld 1 14 := rfl
theorem lX6_countOperations_14 : lk (tX6_countOperations d mc ms P) 14 = oIc (fun x y => y ≤ x) 79 17 := rfl
theorem lX6_countOperations_17 : lk (tX6_countOperations d mc ms P) 17 = oIld 2 18 := rfl
theorem lX6_countOperations_18 : lk (tX6_countOperations d mc ms P) 18 = oPush (.int 100) 20 := rfl
theorem lX6_countOperations_20 : lk (tX6_countOperations d mc ms P) 20 = oIc (fun x y => y ≤ x) 79 23 := rfl
theorem lX6_countOperations_23 : lk (tX6_countOperations d mc ms P) 23 = oAld 0 24 := rfl
theorem lX6_countOperations_24 : lk (tX6_countOperations d mc ms P) 24 = oGr 6 0 27 := rfl
theorem lX6_countOperations_27 : lk (tX6_countOperations d mc ms P) 27 = oIld 2 28 := rfl
theorem lX6_countOperations_28 : lk (tX6_countOperations d mc ms P) 28 = oAi 100 29 := rfl
theorem lX6_countOperations_29 : lk (tX6_countOperations d mc ms P) 29 = oIst 3 30 := rfl
theorem lX6_countOperations_30 : lk (tX6_countOperations d mc ms P) 30 = oIld 3 31 := rfl
theorem lX6_countOperations_31 : lk (tX6_countOperations d mc ms P) 31 = oCallS d mc ms P 0 0 yX9_operandsOf (Cond.code yX9_operandsOf cX9_operandsOf 1 (some .int)) 1 34 := rfl
theorem lX6_countOperations_34 : lk (tX6_countOperations d mc ms P) 34 = oIf (fun x => x ≤ 0) 47 37 := rfl
theorem lX6_countOperations_37 : lk (tX6_countOperations d mc ms P) 37 = oAld 0 38 := rfl
theorem lX6_countOperations_38 : lk (tX6_countOperations d mc ms P) 38 = oDup 39 := rfl
theorem lX6_countOperations_39 : lk (tX6_countOperations d mc ms P) 39 = oGi 6 4 42 := rfl
theorem lX6_countOperations_42 : lk (tX6_countOperations d mc ms P) 42 = oPush (.int 1) 43 := rfl
theorem lX6_countOperations_43 : lk (tX6_countOperations d mc ms P) 43 = oI2 (fun x y => x + y) 44 := rfl
theorem lX6_countOperations_44 : lk (tX6_countOperations d mc ms P) 44 = oPi 6 4 47 := rfl
theorem lX6_countOperations_47 : lk (tX6_countOperations d mc ms P) 47 = oIld 3 48 := rfl
theorem lX6_countOperations_48 : lk (tX6_countOperations d mc ms P) 48 = oPush (.int 302) 51 := rfl
theorem lX6_countOperations_51 : lk (tX6_countOperations d mc ms P) 51 = oIc (fun x y => x = y) 68 54 := rfl
theorem lX6_countOperations_54 : lk (tX6_countOperations d mc ms P) 54 = oIld 3 55 := rfl
theorem lX6_countOperations_55 : lk (tX6_countOperations d mc ms P) 55 = oPush (.int 303) 58 := rfl
theorem lX6_countOperations_58 : lk (tX6_countOperations d mc ms P) 58 = oIc (fun x y => x = y) 68 61 := rfl
theorem lX6_countOperations_61 : lk (tX6_countOperations d mc ms P) 61 = oIld 3 62 := rfl
theorem lX6_countOperations_62 : lk (tX6_countOperations d mc ms P) 62 = oPush (.int 304) 65 := rfl
theorem lX6_countOperations_65 : lk (tX6_countOperations d mc ms P) 65 = oIc (fun x y => x = y) 68 73 := rfl
theorem lX6_countOperations_68 : lk (tX6_countOperations d mc ms P) 68 = oAld 0 69 := rfl
theorem lX6_countOperations_69 : lk (tX6_countOperations d mc ms P) 69 = oPush (.int 1) 70 := rfl
theorem lX6_countOperations_70 : lk (tX6_countOperations d mc ms P) 70 = oPz 6 5 73 := rfl
theorem lX6_countOperations_73 : lk (tX6_countOperations d mc ms P) 73 = oInc 2 1 76 := rfl
theorem lX6_countOperations_76 : lk (tX6_countOperations d mc ms P) 76 = oGoto 12 := rfl
theorem lX6_countOperations_79 : lk (tX6_countOperations d mc ms P) 79 = oRetV mc ms P := rfl
theorem lX6_firstCodeOf_0 : lk (tX6_firstCodeOf d mc ms P) 0 = oIld 1 1 := rfl
theorem lX6_firstCodeOf_1 : lk (tX6_firstCodeOf d mc ms P) 1 = oIf (fun x => x ≤ 0) 21 4 := rfl
theorem lX6_firstCodeOf_4 : lk (tX6_firstCodeOf d mc ms P) 4 = oIld 1 5 := rfl
theorem lX6_firstCodeOf_5 : lk (tX6_firstCodeOf d mc ms P) 5 = oPush (.int 8) 7 := rfl
theorem lX6_firstCodeOf_7 : lk (tX6_firstCodeOf d mc ms P) 7 = oIc (fun x y => y < x) 21 10 := rfl
theorem lX6_firstCodeOf_10 : lk (tX6_firstCodeOf d mc ms P) 10 = oAld 0 11 := rfl
theorem lX6_firstCodeOf_11 : lk (tX6_firstCodeOf d mc ms P) 11 = oGr 6 2 14 := rfl
theorem lX6_firstCodeOf_14 : lk (tX6_firstCodeOf d mc ms P) 14 = oIld 1 15 := rfl
theorem lX6_firstCodeOf_15 : lk (tX6_firstCodeOf d mc ms P) 15 = oPush (.int 1) 16 := rfl
theorem lX6_firstCodeOf_16 : lk (tX6_firstCodeOf d mc ms P) 16 = oI2 (fun x y => x - y) 17 := rfl
theorem lX6_firstCodeOf_17 : lk (tX6_firstCodeOf d mc ms P) 17 = oAi 100 18 := rfl
theorem lX6_firstCodeOf_18 : lk (tX6_firstCodeOf d mc ms P) 18 = oGoto 22 := rfl
theorem lX6_firstCodeOf_21 : lk (tX6_firstCodeOf d mc ms P) 21 = oPush (.int 0) 22 := rfl
theorem lX6_firstCodeOf_22 : lk (tX6_firstCodeOf d mc ms P) 22 = oRetI mc ms P := rfl
theorem lX6_assign_0 : lk (tX6_assign d mc ms P) 0 = oPush (.int 0) 1 := rfl
theorem lX6_assign_1 : lk (tX6_assign d mc ms P) 1 = oIst 2 2 := rfl
theorem lX6_assign_2 : lk (tX6_assign d mc ms P) 2 = oAld 0 3 := rfl
theorem lX6_assign_3 : lk (tX6_assign d mc ms P) 3 = oGr 6 2 6 := rfl
theorem lX6_assign_6 : lk (tX6_assign d mc ms P) 6 = oIld 1 7 := rfl
theorem lX6_assign_7 : lk (tX6_assign d mc ms P) 7 = oAi 100 8 := rfl
theorem lX6_assign_8 : lk (tX6_assign d mc ms P) 8 = oIst 3 9 := rfl
theorem lX6_assign_9 : lk (tX6_assign d mc ms P) 9 = oAld 0 10 := rfl
theorem lX6_assign_10 : lk (tX6_assign d mc ms P) 10 = oIld 1 11 := rfl
theorem lX6_assign_11 : lk (tX6_assign d mc ms P) 11 = oCallV d mc ms P 0 0 yX6_firstCodeOf (Cond.code yX6_firstCodeOf cX6_firstCodeOf 2 (some .int)) 1 6 14 := rfl
theorem lX6_assign_14 : lk (tX6_assign d mc ms P) 14 = oIst 4 16 := rfl
theorem lX6_assign_16 : lk (tX6_assign d mc ms P) 16 = oIld 4 18 := rfl
theorem lX6_assign_18 : lk (tX6_assign d mc ms P) 18 = oIld 3 19 := rfl
theorem lX6_assign_19 : lk (tX6_assign d mc ms P) 19 = oIc (fun x y => y ≤ x) 125 22 := rfl
theorem lX6_assign_22 : lk (tX6_assign d mc ms P) 22 = oIld 4 24 := rfl
theorem lX6_assign_24 : lk (tX6_assign d mc ms P) 24 = oPush (.int 100) 26 := rfl
theorem lX6_assign_26 : lk (tX6_assign d mc ms P) 26 = oIc (fun x y => y ≤ x) 125 29 := rfl
theorem lX6_assign_29 : lk (tX6_assign d mc ms P) 29 = oAld 0 30 := rfl
theorem lX6_assign_30 : lk (tX6_assign d mc ms P) 30 = oGr 6 0 33 := rfl
theorem lX6_assign_33 : lk (tX6_assign d mc ms P) 33 = oIld 4 35 := rfl
theorem lX6_assign_35 : lk (tX6_assign d mc ms P) 35 = oAi 100 36 := rfl
theorem lX6_assign_36 : lk (tX6_assign d mc ms P) 36 = oIst 5 38 := rfl
theorem lX6_assign_38 : lk (tX6_assign d mc ms P) 38 = oIld 5 40 := rfl
theorem lX6_assign_40 : lk (tX6_assign d mc ms P) 40 = oCallS d mc ms P 0 0 yX9_isStart (Cond.code yX9_isStart cX9_isStart 1 (some .boolean)) 1 43 := rfl
theorem lX6_assign_43 : lk (tX6_assign d mc ms P) 43 = oIf (fun x => x = 0) 59 46 := rfl
theorem lX6_assign_46 : lk (tX6_assign d mc ms P) 46 = oAld 0 47 := rfl
theorem lX6_assign_47 : lk (tX6_assign d mc ms P) 47 = oGr 6 7 50 := rfl
theorem lX6_assign_50 : lk (tX6_assign d mc ms P) 50 = oIld 5 52 := rfl
theorem lX6_assign_52 : lk (tX6_assign d mc ms P) 52 = oPush (.int 100) 54 := rfl
theorem lX6_assign_54 : lk (tX6_assign d mc ms P) 54 = oI2 (fun x y => x - y) 55 := rfl
theorem lX6_assign_55 : lk (tX6_assign d mc ms P) 55 = oAi 100 56 := rfl
theorem lX6_assign_56 : lk (tX6_assign d mc ms P) 56 = oGoto 60 := rfl
theorem lX6_assign_59 : lk (tX6_assign d mc ms P) 59 = oPush (.int 1) 60 := rfl
theorem lX6_assign_60 : lk (tX6_assign d mc ms P) 60 = oIst 6 62 := rfl
theorem lX6_assign_62 : lk (tX6_assign d mc ms P) 62 = oIld 2 63 := rfl
theorem lX6_assign_63 : lk (tX6_assign d mc ms P) 63 = oIld 6 65 := rfl
theorem lX6_assign_65 : lk (tX6_assign d mc ms P) 65 = oI2 (fun x y => x + y) 66 := rfl
theorem lX6_assign_66 : lk (tX6_assign d mc ms P) 66 = oPush (.int 200) 69 := rfl
theorem lX6_assign_69 : lk (tX6_assign d mc ms P) 69 = oIc (fun x y => x ≤ y) 74 72 := rfl
theorem lX6_assign_72 : lk (tX6_assign d mc ms P) 72 = oPush (.int 0) 73 := rfl
theorem lX6_assign_73 : lk (tX6_assign d mc ms P) 73 = oRetZ mc ms P := rfl
theorem lX6_assign_74 : lk (tX6_assign d mc ms P) 74 = oIld 5 76 := rfl
theorem lX6_assign_76 : lk (tX6_assign d mc ms P) 76 = oCallS d mc ms P 0 0 yX9_isStart (Cond.code yX9_isStart cX9_isStart 1 (some .boolean)) 1 79 := rfl
theorem lX6_assign_79 : lk (tX6_assign d mc ms P) 79 = oIf (fun x => x = 0) 106 82 := rfl
theorem lX6_assign_82 : lk (tX6_assign d mc ms P) 82 = oAld 0 83 := rfl
theorem lX6_assign_83 : lk (tX6_assign d mc ms P) 83 = oGr 6 6 86 := rfl
theorem lX6_assign_86 : lk (tX6_assign d mc ms P) 86 = oIld 5 88 := rfl
theorem lX6_assign_88 : lk (tX6_assign d mc ms P) 88 = oPush (.int 100) 90 := rfl
theorem lX6_assign_90 : lk (tX6_assign d mc ms P) 90 = oI2 (fun x y => x - y) 91 := rfl
theorem lX6_assign_91 : lk (tX6_assign d mc ms P) 91 = oAr 106 92 := rfl
theorem lX6_assign_92 : lk (tX6_assign d mc ms P) 92 = oPush (.int 0) 93 := rfl
set_option maxRecDepth 20000 in
theorem lX6_assign_93 : lk (tX6_assign d mc ms P) 93 = oAld 0 94 := rfl
set_option maxRecDepth 20000 in
theorem lX6_assign_94 : lk (tX6_assign d mc ms P) 94 = oGr 6 8 97 := rfl
set_option maxRecDepth 20000 in
theorem lX6_assign_97 : lk (tX6_assign d mc ms P) 97 = oIld 2 98 := rfl
set_option maxRecDepth 20000 in
theorem lX6_assign_98 : lk (tX6_assign d mc ms P) 98 = oIld 6 100 := rfl
set_option maxRecDepth 20000 in
theorem lX6_assign_100 : lk (tX6_assign d mc ms P) 100 = oCopy 103 := rfl
set_option maxRecDepth 20000 in
theorem lX6_assign_103 : lk (tX6_assign d mc ms P) 103 = oGoto 114 := rfl
set_option maxRecDepth 20000 in
theorem lX6_assign_106 : lk (tX6_assign d mc ms P) 106 = oAld 0 107 := rfl
set_option maxRecDepth 20000 in
theorem lX6_assign_107 : lk (tX6_assign d mc ms P) 107 = oGr 6 8 110 := rfl
set_option maxRecDepth 20000 in
theorem lX6_assign_110 : lk (tX6_assign d mc ms P) 110 = oIld 2 111 := rfl
set_option maxRecDepth 20000 in
theorem lX6_assign_111 : lk (tX6_assign d mc ms P) 111 = oIld 5 113 := rfl
set_option maxRecDepth 20000 in
theorem lX6_assign_113 : lk (tX6_assign d mc ms P) 113 = oSi 100 (fun x => x) 114 := rfl
set_option maxRecDepth 20000 in
theorem lX6_assign_114 : lk (tX6_assign d mc ms P) 114 = oIld 2 115 := rfl
set_option maxRecDepth 20000 in
theorem lX6_assign_115 : lk (tX6_assign d mc ms P) 115 = oIld 6 117 := rfl
set_option maxRecDepth 20000 in
theorem lX6_assign_117 : lk (tX6_assign d mc ms P) 117 = oI2 (fun x y => x + y) 118 := rfl
set_option maxRecDepth 20000 in
theorem lX6_assign_118 : lk (tX6_assign d mc ms P) 118 = oIst 2 119 := rfl
set_option maxRecDepth 20000 in
theorem lX6_assign_119 : lk (tX6_assign d mc ms P) 119 = oInc 4 1 122 := rfl
set_option maxRecDepth 20000 in
theorem lX6_assign_122 : lk (tX6_assign d mc ms P) 122 = oGoto 16 := rfl
set_option maxRecDepth 20000 in
theorem lX6_assign_125 : lk (tX6_assign d mc ms P) 125 = oAld 0 126 := rfl
set_option maxRecDepth 20000 in
theorem lX6_assign_126 : lk (tX6_assign d mc ms P) 126 = oGr 6 1 129 := rfl
set_option maxRecDepth 20000 in
theorem lX6_assign_129 : lk (tX6_assign d mc ms P) 129 = oIld 1 130 := rfl
set_option maxRecDepth 20000 in
theorem lX6_assign_130 : lk (tX6_assign d mc ms P) 130 = oAi 100 131 := rfl
set_option maxRecDepth 20000 in
theorem lX6_assign_131 : lk (tX6_assign d mc ms P) 131 = oIst 4 133 := rfl
set_option maxRecDepth 20000 in
theorem lX6_assign_133 : lk (tX6_assign d mc ms P) 133 = oAld 0 134 := rfl
set_option maxRecDepth 20000 in
theorem lX6_assign_134 : lk (tX6_assign d mc ms P) 134 = oGr 6 8 137 := rfl
set_option maxRecDepth 20000 in
theorem lX6_assign_137 : lk (tX6_assign d mc ms P) 137 = oPush (.int 0) 138 := rfl
set_option maxRecDepth 20000 in
theorem lX6_assign_138 : lk (tX6_assign d mc ms P) 138 = oAld 0 139 := rfl
set_option maxRecDepth 20000 in
theorem lX6_assign_139 : lk (tX6_assign d mc ms P) 139 = oGr 6 6 142 := rfl
set_option maxRecDepth 20000 in
theorem lX6_assign_142 : lk (tX6_assign d mc ms P) 142 = oIld 4 144 := rfl
set_option maxRecDepth 20000 in
theorem lX6_assign_144 : lk (tX6_assign d mc ms P) 144 = oAr 106 145 := rfl
set_option maxRecDepth 20000 in
theorem lX6_assign_145 : lk (tX6_assign d mc ms P) 145 = oPush (.int 0) 146 := rfl
set_option maxRecDepth 20000 in
theorem lX6_assign_146 : lk (tX6_assign d mc ms P) 146 = oIld 2 147 := rfl
set_option maxRecDepth 20000 in
theorem lX6_assign_147 : lk (tX6_assign d mc ms P) 147 = oCopy 150 := rfl
set_option maxRecDepth 20000 in
theorem lX6_assign_150 : lk (tX6_assign d mc ms P) 150 = oAld 0 151 := rfl
set_option maxRecDepth 20000 in
theorem lX6_assign_151 : lk (tX6_assign d mc ms P) 151 = oGr 6 7 154 := rfl
set_option maxRecDepth 20000 in
theorem lX6_assign_154 : lk (tX6_assign d mc ms P) 154 = oIld 4 156 := rfl
set_option maxRecDepth 20000 in
theorem lX6_assign_156 : lk (tX6_assign d mc ms P) 156 = oIld 2 157 := rfl
set_option maxRecDepth 20000 in
theorem lX6_assign_157 : lk (tX6_assign d mc ms P) 157 = oSi 100 (fun x => x) 158 := rfl
set_option maxRecDepth 20000 in
theorem lX6_assign_158 : lk (tX6_assign d mc ms P) 158 = oAld 0 159 := rfl
set_option maxRecDepth 20000 in
theorem lX6_assign_159 : lk (tX6_assign d mc ms P) 159 = oGr 6 9 162 := rfl
set_option maxRecDepth 20000 in
theorem lX6_assign_162 : lk (tX6_assign d mc ms P) 162 = oIld 4 164 := rfl
set_option maxRecDepth 20000 in
theorem lX6_assign_164 : lk (tX6_assign d mc ms P) 164 = oPush (.int 1) 165 := rfl
set_option maxRecDepth 20000 in
theorem lX6_assign_165 : lk (tX6_assign d mc ms P) 165 = oSi 103 (fun x => vp_nar .boolean x) 166 := rfl
set_option maxRecDepth 20000 in
theorem lX6_assign_166 : lk (tX6_assign d mc ms P) 166 = oPush (.int 1) 167 := rfl
set_option maxRecDepth 20000 in
theorem lX6_assign_167 : lk (tX6_assign d mc ms P) 167 = oRetZ mc ms P := rfl
theorem lX6_classify_0 : lk (tX6_classify d mc ms P) 0 = oPush (.int 0) 1 := rfl
theorem lX6_classify_1 : lk (tX6_classify d mc ms P) 1 = oIst 2 2 := rfl
theorem lX6_classify_2 : lk (tX6_classify d mc ms P) 2 = oIld 2 3 := rfl
theorem lX6_classify_3 : lk (tX6_classify d mc ms P) 3 = oPush (.int 8) 5 := rfl
theorem lX6_classify_5 : lk (tX6_classify d mc ms P) 5 = oIc (fun x y => y ≤ x) 25 8 := rfl
theorem lX6_classify_8 : lk (tX6_classify d mc ms P) 8 = oAld 0 9 := rfl
theorem lX6_classify_9 : lk (tX6_classify d mc ms P) 9 = oGr 6 10 12 := rfl
theorem lX6_classify_12 : lk (tX6_classify d mc ms P) 12 = oIld 2 13 := rfl
theorem lX6_classify_13 : lk (tX6_classify d mc ms P) 13 = oAld 0 14 := rfl
theorem lX6_classify_14 : lk (tX6_classify d mc ms P) 14 = oIld 2 15 := rfl
theorem lX6_classify_15 : lk (tX6_classify d mc ms P) 15 = oCallV d mc ms P 0 0 yX6_maskOf (Cond.code yX6_maskOf cX6_maskOf 5 (some .int)) 1 6 18 := rfl
theorem lX6_classify_18 : lk (tX6_classify d mc ms P) 18 = oSi 100 (fun x => x) 19 := rfl
theorem lX6_classify_19 : lk (tX6_classify d mc ms P) 19 = oInc 2 1 22 := rfl
theorem lX6_classify_22 : lk (tX6_classify d mc ms P) 22 = oGoto 2 := rfl
theorem lX6_classify_25 : lk (tX6_classify d mc ms P) 25 = oAld 0 26 := rfl
theorem lX6_classify_26 : lk (tX6_classify d mc ms P) 26 = oPush (.int 0) 27 := rfl
theorem lX6_classify_27 : lk (tX6_classify d mc ms P) 27 = oPi 6 14 30 := rfl
theorem lX6_classify_30 : lk (tX6_classify d mc ms P) 30 = oAld 0 31 := rfl
theorem lX6_classify_31 : lk (tX6_classify d mc ms P) 31 = oPush (.int 1) 32 := rfl
theorem lX6_classify_32 : lk (tX6_classify d mc ms P) 32 = oPz 6 15 35 := rfl
theorem lX6_classify_35 : lk (tX6_classify d mc ms P) 35 = oPush (.int 0) 36 := rfl
theorem lX6_classify_36 : lk (tX6_classify d mc ms P) 36 = oIst 2 37 := rfl
theorem lX6_classify_37 : lk (tX6_classify d mc ms P) 37 = oIld 2 38 := rfl
theorem lX6_classify_38 : lk (tX6_classify d mc ms P) 38 = oPush (.int 8) 40 := rfl
theorem lX6_classify_40 : lk (tX6_classify d mc ms P) 40 = oIc (fun x y => y ≤ x) 93 43 := rfl
theorem lX6_classify_43 : lk (tX6_classify d mc ms P) 43 = oAld 0 44 := rfl
theorem lX6_classify_44 : lk (tX6_classify d mc ms P) 44 = oIld 2 45 := rfl
theorem lX6_classify_45 : lk (tX6_classify d mc ms P) 45 = oAld 1 46 := rfl
theorem lX6_classify_46 : lk (tX6_classify d mc ms P) 46 = oCallV d mc ms P 0 0 yX6_kindOf (Cond.code yX6_kindOf cX6_kindOf 5 (some .int)) 2 6 49 := rfl
theorem lX6_classify_49 : lk (tX6_classify d mc ms P) 49 = oIst 3 50 := rfl
theorem lX6_classify_50 : lk (tX6_classify d mc ms P) 50 = oAld 0 51 := rfl
theorem lX6_classify_51 : lk (tX6_classify d mc ms P) 51 = oGr 6 11 54 := rfl
theorem lX6_classify_54 : lk (tX6_classify d mc ms P) 54 = oIld 2 55 := rfl
theorem lX6_classify_55 : lk (tX6_classify d mc ms P) 55 = oIld 3 56 := rfl
theorem lX6_classify_56 : lk (tX6_classify d mc ms P) 56 = oSi 100 (fun x => x) 57 := rfl
theorem lX6_classify_57 : lk (tX6_classify d mc ms P) 57 = oIld 3 58 := rfl
theorem lX6_classify_58 : lk (tX6_classify d mc ms P) 58 = oPush (.int 2) 59 := rfl
theorem lX6_classify_59 : lk (tX6_classify d mc ms P) 59 = oIc (fun x y => x = y) 62 72 := rfl
theorem lX6_classify_62 : lk (tX6_classify d mc ms P) 62 = oAld 0 63 := rfl
theorem lX6_classify_63 : lk (tX6_classify d mc ms P) 63 = oDup 64 := rfl
theorem lX6_classify_64 : lk (tX6_classify d mc ms P) 64 = oGi 6 14 67 := rfl
theorem lX6_classify_67 : lk (tX6_classify d mc ms P) 67 = oPush (.int 1) 68 := rfl
theorem lX6_classify_68 : lk (tX6_classify d mc ms P) 68 = oI2 (fun x y => x + y) 69 := rfl
theorem lX6_classify_69 : lk (tX6_classify d mc ms P) 69 = oPi 6 14 72 := rfl
theorem lX6_classify_72 : lk (tX6_classify d mc ms P) 72 = oIld 3 73 := rfl
theorem lX6_classify_73 : lk (tX6_classify d mc ms P) 73 = oPush (.int 3) 74 := rfl
theorem lX6_classify_74 : lk (tX6_classify d mc ms P) 74 = oIc (fun x y => x = y) 82 77 := rfl
theorem lX6_classify_77 : lk (tX6_classify d mc ms P) 77 = oIld 3 78 := rfl
theorem lX6_classify_78 : lk (tX6_classify d mc ms P) 78 = oPush (.int 4) 79 := rfl
theorem lX6_classify_79 : lk (tX6_classify d mc ms P) 79 = oIc (fun x y => x = y) 82 87 := rfl
theorem lX6_classify_82 : lk (tX6_classify d mc ms P) 82 = oAld 0 83 := rfl
set_option maxRecDepth 20000 in
theorem lX6_classify_83 : lk (tX6_classify d mc ms P) 83 = oPush (.int 0) 84 := rfl
set_option maxRecDepth 20000 in
theorem lX6_classify_84 : lk (tX6_classify d mc ms P) 84 = oPz 6 15 87 := rfl
set_option maxRecDepth 20000 in
theorem lX6_classify_87 : lk (tX6_classify d mc ms P) 87 = oInc 2 1 90 := rfl
set_option maxRecDepth 20000 in
theorem lX6_classify_90 : lk (tX6_classify d mc ms P) 90 = oGoto 37 := rfl
set_option maxRecDepth 20000 in
theorem lX6_classify_93 : lk (tX6_classify d mc ms P) 93 = oRetV mc ms P := rfl
theorem lX6_maskOf_0 : lk (tX6_maskOf d mc ms P) 0 = oPush (.int 0) 1 := rfl
theorem lX6_maskOf_1 : lk (tX6_maskOf d mc ms P) 1 = oIst 2 2 := rfl
theorem lX6_maskOf_2 : lk (tX6_maskOf d mc ms P) 2 = oPush (.int 0) 3 := rfl
theorem lX6_maskOf_3 : lk (tX6_maskOf d mc ms P) 3 = oIst 3 4 := rfl
theorem lX6_maskOf_4 : lk (tX6_maskOf d mc ms P) 4 = oIld 3 5 := rfl
theorem lX6_maskOf_5 : lk (tX6_maskOf d mc ms P) 5 = oAld 0 6 := rfl
theorem lX6_maskOf_6 : lk (tX6_maskOf d mc ms P) 6 = oGr 6 7 9 := rfl
theorem lX6_maskOf_9 : lk (tX6_maskOf d mc ms P) 9 = oIld 1 10 := rfl
theorem lX6_maskOf_10 : lk (tX6_maskOf d mc ms P) 10 = oAi 100 11 := rfl
theorem lX6_maskOf_11 : lk (tX6_maskOf d mc ms P) 11 = oIc (fun x y => y ≤ x) 55 14 := rfl
theorem lX6_maskOf_14 : lk (tX6_maskOf d mc ms P) 14 = oIld 3 15 := rfl
theorem lX6_maskOf_15 : lk (tX6_maskOf d mc ms P) 15 = oPush (.int 200) 18 := rfl
theorem lX6_maskOf_18 : lk (tX6_maskOf d mc ms P) 18 = oIc (fun x y => y ≤ x) 55 21 := rfl
theorem lX6_maskOf_21 : lk (tX6_maskOf d mc ms P) 21 = oAld 0 22 := rfl
theorem lX6_maskOf_22 : lk (tX6_maskOf d mc ms P) 22 = oGr 6 6 25 := rfl
theorem lX6_maskOf_25 : lk (tX6_maskOf d mc ms P) 25 = oIld 1 26 := rfl
theorem lX6_maskOf_26 : lk (tX6_maskOf d mc ms P) 26 = oAr 106 27 := rfl
theorem lX6_maskOf_27 : lk (tX6_maskOf d mc ms P) 27 = oIld 3 28 := rfl
theorem lX6_maskOf_28 : lk (tX6_maskOf d mc ms P) 28 = oAi 100 29 := rfl
theorem lX6_maskOf_29 : lk (tX6_maskOf d mc ms P) 29 = oIst 4 31 := rfl
theorem lX6_maskOf_31 : lk (tX6_maskOf d mc ms P) 31 = oIld 4 33 := rfl
theorem lX6_maskOf_33 : lk (tX6_maskOf d mc ms P) 33 = oCallS d mc ms P 0 0 yX9_isStart (Cond.code yX9_isStart cX9_isStart 1 (some .boolean)) 1 36 := rfl
theorem lX6_maskOf_36 : lk (tX6_maskOf d mc ms P) 36 = oIf (fun x => x = 0) 49 39 := rfl
theorem lX6_maskOf_39 : lk (tX6_maskOf d mc ms P) 39 = oIld 2 40 := rfl
theorem lX6_maskOf_40 : lk (tX6_maskOf d mc ms P) 40 = oPush (.int 1) 41 := rfl
theorem lX6_maskOf_41 : lk (tX6_maskOf d mc ms P) 41 = oIld 4 43 := rfl
theorem lX6_maskOf_43 : lk (tX6_maskOf d mc ms P) 43 = oPush (.int 100) 45 := rfl
theorem lX6_maskOf_45 : lk (tX6_maskOf d mc ms P) 45 = oI2 (fun x y => x - y) 46 := rfl
theorem lX6_maskOf_46 : lk (tX6_maskOf d mc ms P) 46 = oI2 (fun x y => x <<< (y &&& 31)) 47 := rfl
theorem lX6_maskOf_47 : lk (tX6_maskOf d mc ms P) 47 = oI2 (fun x y => x ||| y) 48 := rfl
theorem lX6_maskOf_48 : lk (tX6_maskOf d mc ms P) 48 = oIst 2 49 := rfl
theorem lX6_maskOf_49 : lk (tX6_maskOf d mc ms P) 49 = oInc 3 1 52 := rfl
theorem lX6_maskOf_52 : lk (tX6_maskOf d mc ms P) 52 = oGoto 4 := rfl
theorem lX6_maskOf_55 : lk (tX6_maskOf d mc ms P) 55 = oIld 2 56 := rfl
theorem lX6_maskOf_56 : lk (tX6_maskOf d mc ms P) 56 = oRetI mc ms P := rfl
theorem lX6_kindOf_0 : lk (tX6_kindOf d mc ms P) 0 = oAld 0 1 := rfl
theorem lX6_kindOf_1 : lk (tX6_kindOf d mc ms P) 1 = oGr 6 9 4 := rfl
theorem lX6_kindOf_4 : lk (tX6_kindOf d mc ms P) 4 = oIld 1 5 := rfl
theorem lX6_kindOf_5 : lk (tX6_kindOf d mc ms P) 5 = oAi 103 6 := rfl
theorem lX6_kindOf_6 : lk (tX6_kindOf d mc ms P) 6 = oIf (fun x => x = 0) 9 11 := rfl
theorem lX6_kindOf_9 : lk (tX6_kindOf d mc ms P) 9 = oPush (.int 0) 10 := rfl
theorem lX6_kindOf_10 : lk (tX6_kindOf d mc ms P) 10 = oRetI mc ms P := rfl
theorem lX6_kindOf_11 : lk (tX6_kindOf d mc ms P) 11 = oAld 0 12 := rfl
theorem lX6_kindOf_12 : lk (tX6_kindOf d mc ms P) 12 = oGr 6 10 15 := rfl
theorem lX6_kindOf_15 : lk (tX6_kindOf d mc ms P) 15 = oIld 1 16 := rfl
theorem lX6_kindOf_16 : lk (tX6_kindOf d mc ms P) 16 = oAi 100 17 := rfl
theorem lX6_kindOf_17 : lk (tX6_kindOf d mc ms P) 17 = oIld 1 18 := rfl
theorem lX6_kindOf_18 : lk (tX6_kindOf d mc ms P) 18 = oI2 (fun x y => x >>> (y &&& 31)) 19 := rfl
theorem lX6_kindOf_19 : lk (tX6_kindOf d mc ms P) 19 = oPush (.int 1) 20 := rfl
theorem lX6_kindOf_20 : lk (tX6_kindOf d mc ms P) 20 = oI2 (fun x y => x &&& y) 21 := rfl
theorem lX6_kindOf_21 : lk (tX6_kindOf d mc ms P) 21 = oIf (fun x => x = 0) 28 24 := rfl
theorem lX6_kindOf_24 : lk (tX6_kindOf d mc ms P) 24 = oPush (.int 1) 25 := rfl
theorem lX6_kindOf_25 : lk (tX6_kindOf d mc ms P) 25 = oGoto 29 := rfl
theorem lX6_kindOf_28 : lk (tX6_kindOf d mc ms P) 28 = oPush (.int 0) 29 := rfl
theorem lX6_kindOf_29 : lk (tX6_kindOf d mc ms P) 29 = oIst 3 30 := rfl
theorem lX6_kindOf_30 : lk (tX6_kindOf d mc ms P) 30 = oAld 0 31 := rfl
theorem lX6_kindOf_31 : lk (tX6_kindOf d mc ms P) 31 = oIld 1 32 := rfl
theorem lX6_kindOf_32 : lk (tX6_kindOf d mc ms P) 32 = oCallV d mc ms P 0 0 yX6_occursInOthers (Cond.code yX6_occursInOthers cX6_occursInOthers 3 (some .boolean)) 1 6 35 := rfl
theorem lX6_kindOf_35 : lk (tX6_kindOf d mc ms P) 35 = oIst 4 37 := rfl
theorem lX6_kindOf_37 : lk (tX6_kindOf d mc ms P) 37 = oIld 3 38 := rfl
theorem lX6_kindOf_38 : lk (tX6_kindOf d mc ms P) 38 = oIf (fun x => x = 0) 41 48 := rfl
theorem lX6_kindOf_41 : lk (tX6_kindOf d mc ms P) 41 = oIld 4 43 := rfl
theorem lX6_kindOf_43 : lk (tX6_kindOf d mc ms P) 43 = oIf (fun x => x = 0) 46 48 := rfl
theorem lX6_kindOf_46 : lk (tX6_kindOf d mc ms P) 46 = oPush (.int 1) 47 := rfl
theorem lX6_kindOf_47 : lk (tX6_kindOf d mc ms P) 47 = oRetI mc ms P := rfl
theorem lX6_kindOf_48 : lk (tX6_kindOf d mc ms P) 48 = oAld 0 49 := rfl
theorem lX6_kindOf_49 : lk (tX6_kindOf d mc ms P) 49 = oIld 1 50 := rfl
theorem lX6_kindOf_50 : lk (tX6_kindOf d mc ms P) 50 = oAld 2 51 := rfl
theorem lX6_kindOf_51 : lk (tX6_kindOf d mc ms P) 51 = oCallV d mc ms P 0 0 yX6_findChain (Cond.code yX6_findChain cX6_findChain 5 (some .boolean)) 2 6 54 := rfl
theorem lX6_kindOf_54 : lk (tX6_kindOf d mc ms P) 54 = oIf (fun x => x = 0) 57 59 := rfl
theorem lX6_kindOf_57 : lk (tX6_kindOf d mc ms P) 57 = oPush (.int 4) 58 := rfl
theorem lX6_kindOf_58 : lk (tX6_kindOf d mc ms P) 58 = oRetI mc ms P := rfl
theorem lX6_kindOf_59 : lk (tX6_kindOf d mc ms P) 59 = oIld 4 61 := rfl
theorem lX6_kindOf_61 : lk (tX6_kindOf d mc ms P) 61 = oIf (fun x => x = 0) 68 64 := rfl
theorem lX6_kindOf_64 : lk (tX6_kindOf d mc ms P) 64 = oPush (.int 3) 65 := rfl
theorem lX6_kindOf_65 : lk (tX6_kindOf d mc ms P) 65 = oGoto 69 := rfl
theorem lX6_kindOf_68 : lk (tX6_kindOf d mc ms P) 68 = oPush (.int 2) 69 := rfl
theorem lX6_kindOf_69 : lk (tX6_kindOf d mc ms P) 69 = oRetI mc ms P := rfl
theorem lX6_occursInOthers_0 : lk (tX6_occursInOthers d mc ms P) 0 = oPush (.int 0) 1 := rfl
theorem lX6_occursInOthers_1 : lk (tX6_occursInOthers d mc ms P) 1 = oIst 2 2 := rfl
theorem lX6_occursInOthers_2 : lk (tX6_occursInOthers d mc ms P) 2 = oIld 2 3 := rfl
theorem lX6_occursInOthers_3 : lk (tX6_occursInOthers d mc ms P) 3 = oPush (.int 8) 5 := rfl
theorem lX6_occursInOthers_5 : lk (tX6_occursInOthers d mc ms P) 5 = oIc (fun x y => y ≤ x) 43 8 := rfl
theorem lX6_occursInOthers_8 : lk (tX6_occursInOthers d mc ms P) 8 = oIld 2 9 := rfl
theorem lX6_occursInOthers_9 : lk (tX6_occursInOthers d mc ms P) 9 = oIld 1 10 := rfl
theorem lX6_occursInOthers_10 : lk (tX6_occursInOthers d mc ms P) 10 = oIc (fun x y => x = y) 37 13 := rfl
theorem lX6_occursInOthers_13 : lk (tX6_occursInOthers d mc ms P) 13 = oAld 0 14 := rfl
theorem lX6_occursInOthers_14 : lk (tX6_occursInOthers d mc ms P) 14 = oGr 6 9 17 := rfl
theorem lX6_occursInOthers_17 : lk (tX6_occursInOthers d mc ms P) 17 = oIld 2 18 := rfl
theorem lX6_occursInOthers_18 : lk (tX6_occursInOthers d mc ms P) 18 = oAi 103 19 := rfl
theorem lX6_occursInOthers_19 : lk (tX6_occursInOthers d mc ms P) 19 = oIf (fun x => x = 0) 37 22 := rfl
theorem lX6_occursInOthers_22 : lk (tX6_occursInOthers d mc ms P) 22 = oAld 0 23 := rfl
theorem lX6_occursInOthers_23 : lk (tX6_occursInOthers d mc ms P) 23 = oGr 6 10 26 := rfl
theorem lX6_occursInOthers_26 : lk (tX6_occursInOthers d mc ms P) 26 = oIld 2 27 := rfl
theorem lX6_occursInOthers_27 : lk (tX6_occursInOthers d mc ms P) 27 = oAi 100 28 := rfl
theorem lX6_occursInOthers_28 : lk (tX6_occursInOthers d mc ms P) 28 = oIld 1 29 := rfl
theorem lX6_occursInOthers_29 : lk (tX6_occursInOthers d mc ms P) 29 = oI2 (fun x y => x >>> (y &&& 31)) 30 := rfl
theorem lX6_occursInOthers_30 : lk (tX6_occursInOthers d mc ms P) 30 = oPush (.int 1) 31 := rfl
theorem lX6_occursInOthers_31 : lk (tX6_occursInOthers d mc ms P) 31 = oI2 (fun x y => x &&& y) 32 := rfl
theorem lX6_occursInOthers_32 : lk (tX6_occursInOthers d mc ms P) 32 = oIf (fun x => x = 0) 37 35 := rfl
theorem lX6_occursInOthers_35 : lk (tX6_occursInOthers d mc ms P) 35 = oPush (.int 1) 36 := rfl
theorem lX6_occursInOthers_36 : lk (tX6_occursInOthers d mc ms P) 36 = oRetZ mc ms P := rfl
theorem lX6_occursInOthers_37 : lk (tX6_occursInOthers d mc ms P) 37 = oInc 2 1 40 := rfl
theorem lX6_occursInOthers_40 : lk (tX6_occursInOthers d mc ms P) 40 = oGoto 2 := rfl
theorem lX6_occursInOthers_43 : lk (tX6_occursInOthers d mc ms P) 43 = oPush (.int 0) 44 := rfl
theorem lX6_occursInOthers_44 : lk (tX6_occursInOthers d mc ms P) 44 = oRetZ mc ms P := rfl
theorem lX6_findChain_0 : lk (tX6_findChain d mc ms P) 0 = oPush (.int 0) 1 := rfl
theorem lX6_findChain_1 : lk (tX6_findChain d mc ms P) 1 = oIst 3 2 := rfl
theorem lX6_findChain_2 : lk (tX6_findChain d mc ms P) 2 = oIld 3 3 := rfl
theorem lX6_findChain_3 : lk (tX6_findChain d mc ms P) 3 = oPush (.int 7) 5 := rfl
theorem lX6_findChain_5 : lk (tX6_findChain d mc ms P) 5 = oIc (fun x y => y ≤ x) 63 8 := rfl
theorem lX6_findChain_8 : lk (tX6_findChain d mc ms P) 8 = oAld 2 9 := rfl
theorem lX6_findChain_9 : lk (tX6_findChain d mc ms P) 9 = oAld 0 10 := rfl
theorem lX6_findChain_10 : lk (tX6_findChain d mc ms P) 10 = oGr 6 6 13 := rfl
theorem lX6_findChain_13 : lk (tX6_findChain d mc ms P) 13 = oIld 1 14 := rfl
theorem lX6_findChain_14 : lk (tX6_findChain d mc ms P) 14 = oAr 106 15 := rfl
theorem lX6_findChain_15 : lk (tX6_findChain d mc ms P) 15 = oAld 0 16 := rfl
theorem lX6_findChain_16 : lk (tX6_findChain d mc ms P) 16 = oGr 6 7 19 := rfl
theorem lX6_findChain_19 : lk (tX6_findChain d mc ms P) 19 = oIld 1 20 := rfl
theorem lX6_findChain_20 : lk (tX6_findChain d mc ms P) 20 = oAi 100 21 := rfl
theorem lX6_findChain_21 : lk (tX6_findChain d mc ms P) 21 = oPush (.int 100) 23 := rfl
theorem lX6_findChain_23 : lk (tX6_findChain d mc ms P) 23 = oIld 1 24 := rfl
theorem lX6_findChain_24 : lk (tX6_findChain d mc ms P) 24 = oI2 (fun x y => x + y) 25 := rfl
theorem lX6_findChain_25 : lk (tX6_findChain d mc ms P) 25 = oPush (.int 300) 28 := rfl
theorem lX6_findChain_28 : lk (tX6_findChain d mc ms P) 28 = oIld 3 29 := rfl
theorem lX6_findChain_29 : lk (tX6_findChain d mc ms P) 29 = oI2 (fun x y => x + y) 30 := rfl
theorem lX6_findChain_30 : lk (tX6_findChain d mc ms P) 30 = oCallV d mc ms P 0 0 yX0_countTerms (Cond.code yX0_countTerms cX0_countTerms 5 (some .int)) 4 0 33 := rfl
theorem lX6_findChain_33 : lk (tX6_findChain d mc ms P) 33 = oIst 4 35 := rfl
theorem lX6_findChain_35 : lk (tX6_findChain d mc ms P) 35 = oIld 4 37 := rfl
theorem lX6_findChain_37 : lk (tX6_findChain d mc ms P) 37 = oIf (fun x => x < 0) 57 40 := rfl
theorem lX6_findChain_40 : lk (tX6_findChain d mc ms P) 40 = oAld 0 41 := rfl
theorem lX6_findChain_41 : lk (tX6_findChain d mc ms P) 41 = oGr 6 12 44 := rfl
theorem lX6_findChain_44 : lk (tX6_findChain d mc ms P) 44 = oIld 1 45 := rfl
theorem lX6_findChain_45 : lk (tX6_findChain d mc ms P) 45 = oIld 3 46 := rfl
theorem lX6_findChain_46 : lk (tX6_findChain d mc ms P) 46 = oSi 100 (fun x => x) 47 := rfl
theorem lX6_findChain_47 : lk (tX6_findChain d mc ms P) 47 = oAld 0 48 := rfl
theorem lX6_findChain_48 : lk (tX6_findChain d mc ms P) 48 = oGr 6 13 51 := rfl
theorem lX6_findChain_51 : lk (tX6_findChain d mc ms P) 51 = oIld 1 52 := rfl
theorem lX6_findChain_52 : lk (tX6_findChain d mc ms P) 52 = oIld 4 54 := rfl
theorem lX6_findChain_54 : lk (tX6_findChain d mc ms P) 54 = oSi 100 (fun x => x) 55 := rfl
theorem lX6_findChain_55 : lk (tX6_findChain d mc ms P) 55 = oPush (.int 1) 56 := rfl
theorem lX6_findChain_56 : lk (tX6_findChain d mc ms P) 56 = oRetZ mc ms P := rfl
theorem lX6_findChain_57 : lk (tX6_findChain d mc ms P) 57 = oInc 3 1 60 := rfl
theorem lX6_findChain_60 : lk (tX6_findChain d mc ms P) 60 = oGoto 2 := rfl
theorem lX6_findChain_63 : lk (tX6_findChain d mc ms P) 63 = oPush (.int 0) 64 := rfl
theorem lX6_findChain_64 : lk (tX6_findChain d mc ms P) 64 = oRetZ mc ms P := rfl
end
