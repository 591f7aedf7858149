section
variable {d mc ms : Nat} {P : PO}
theorem lX2_putLeaf_0 : lk (tX2_putLeaf d mc ms P) 0 = oAld 0 1 := rfl
theorem lX2_putLeaf_1 : lk (tX2_putLeaf d mc ms P) 1 = oGr 2 4 4 := rfl
theorem lX2_putLeaf_4 : lk (tX2_putLeaf d mc ms P) 4 = oIld 1 5 := rfl
theorem lX2_putLeaf_5 : lk (tX2_putLeaf d mc ms P) 5 = oIld 2 6 := rfl
theorem lX2_putLeaf_6 : lk (tX2_putLeaf d mc ms P) 6 = oCallS d mc ms P 0 0 yX9_isStart (Cond.code yX9_isStart cX9_isStart 1 (some .boolean)) 1 9 := rfl
theorem lX2_putLeaf_9 : lk (tX2_putLeaf d mc ms P) 9 = oIf (fun x => x = 0) 29 12 := rfl
theorem lX2_putLeaf_12 : lk (tX2_putLeaf d mc ms P) 12 = oAld 0 13 := rfl
theorem lX2_putLeaf_13 : lk (tX2_putLeaf d mc ms P) 13 = oGr 2 3 16 := rfl
theorem lX2_putLeaf_16 : lk (tX2_putLeaf d mc ms P) 16 = oAld 0 17 := rfl
theorem lX2_putLeaf_17 : lk (tX2_putLeaf d mc ms P) 17 = oCallV d mc ms P 0 0 yX5_rowNow (Cond.code yX5_rowNow cX5_rowNow 1 (some .int)) 0 2 20 := rfl
theorem lX2_putLeaf_20 : lk (tX2_putLeaf d mc ms P) 20 = oAr 107 21 := rfl
theorem lX2_putLeaf_21 : lk (tX2_putLeaf d mc ms P) 21 = oIld 2 22 := rfl
theorem lX2_putLeaf_22 : lk (tX2_putLeaf d mc ms P) 22 = oPush (.int 100) 24 := rfl
theorem lX2_putLeaf_24 : lk (tX2_putLeaf d mc ms P) 24 = oI2 (fun x y => x - y) 25 := rfl
theorem lX2_putLeaf_25 : lk (tX2_putLeaf d mc ms P) 25 = oAf 26 := rfl
theorem lX2_putLeaf_26 : lk (tX2_putLeaf d mc ms P) 26 = oGoto 35 := rfl
theorem lX2_putLeaf_29 : lk (tX2_putLeaf d mc ms P) 29 = oAld 0 30 := rfl
theorem lX2_putLeaf_30 : lk (tX2_putLeaf d mc ms P) 30 = oIld 2 31 := rfl
theorem lX2_putLeaf_31 : lk (tX2_putLeaf d mc ms P) 31 = oCallV d mc ms P 0 0 yX5_constantOf (Cond.code yX5_constantOf cX5_constantOf 3 (some .int)) 1 2 34 := rfl
theorem lX2_putLeaf_34 : lk (tX2_putLeaf d mc ms P) 34 = oIcv (fun x => .float (FP.i2f x)) 35 := rfl
theorem lX2_putLeaf_35 : lk (tX2_putLeaf d mc ms P) 35 = oSf 36 := rfl
theorem lX2_putLeaf_36 : lk (tX2_putLeaf d mc ms P) 36 = oRetV mc ms P := rfl
theorem lX2_joinPair_0 : lk (tX2_joinPair d mc ms P) 0 = oAld 0 1 := rfl
theorem lX2_joinPair_1 : lk (tX2_joinPair d mc ms P) 1 = oGr 2 4 4 := rfl
theorem lX2_joinPair_4 : lk (tX2_joinPair d mc ms P) 4 = oIld 1 5 := rfl
theorem lX2_joinPair_5 : lk (tX2_joinPair d mc ms P) 5 = oIld 2 6 := rfl
theorem lX2_joinPair_6 : lk (tX2_joinPair d mc ms P) 6 = oAld 0 7 := rfl
theorem lX2_joinPair_7 : lk (tX2_joinPair d mc ms P) 7 = oGr 2 4 10 := rfl
theorem lX2_joinPair_10 : lk (tX2_joinPair d mc ms P) 10 = oIld 1 11 := rfl
theorem lX2_joinPair_11 : lk (tX2_joinPair d mc ms P) 11 = oPush (.int 1) 12 := rfl
theorem lX2_joinPair_12 : lk (tX2_joinPair d mc ms P) 12 = oI2 (fun x y => x + y) 13 := rfl
theorem lX2_joinPair_13 : lk (tX2_joinPair d mc ms P) 13 = oAf 14 := rfl
theorem lX2_joinPair_14 : lk (tX2_joinPair d mc ms P) 14 = oAld 0 15 := rfl
theorem lX2_joinPair_15 : lk (tX2_joinPair d mc ms P) 15 = oGr 2 4 18 := rfl
theorem lX2_joinPair_18 : lk (tX2_joinPair d mc ms P) 18 = oIld 1 19 := rfl
theorem lX2_joinPair_19 : lk (tX2_joinPair d mc ms P) 19 = oAf 20 := rfl
theorem lX2_joinPair_20 : lk (tX2_joinPair d mc ms P) 20 = oCallS d mc ms P 0 0 yX2_calculate (Cond.code yX2_calculate cX2_calculate 4 (some .float)) 3 23 := rfl
theorem lX2_joinPair_23 : lk (tX2_joinPair d mc ms P) 23 = oSf 24 := rfl
theorem lX2_joinPair_24 : lk (tX2_joinPair d mc ms P) 24 = oRetV mc ms P := rfl
theorem lX2_joinChoice_0 : lk (tX2_joinChoice d mc ms P) 0 = oAld 0 1 := rfl
theorem lX2_joinChoice_1 : lk (tX2_joinChoice d mc ms P) 1 = oGr 2 4 4 := rfl
theorem lX2_joinChoice_4 : lk (tX2_joinChoice d mc ms P) 4 = oIld 1 5 := rfl
theorem lX2_joinChoice_5 : lk (tX2_joinChoice d mc ms P) 5 = oAld 0 6 := rfl
theorem lX2_joinChoice_6 : lk (tX2_joinChoice d mc ms P) 6 = oGr 2 4 9 := rfl
theorem lX2_joinChoice_9 : lk (tX2_joinChoice d mc ms P) 9 = oIld 1 10 := rfl
theorem lX2_joinChoice_10 : lk (tX2_joinChoice d mc ms P) 10 = oPush (.int 2) 11 := rfl
theorem lX2_joinChoice_11 : lk (tX2_joinChoice d mc ms P) 11 = oI2 (fun x y => x + y) 12 := rfl
theorem lX2_joinChoice_12 : lk (tX2_joinChoice d mc ms P) 12 = oAf 13 := rfl
theorem lX2_joinChoice_13 : lk (tX2_joinChoice d mc ms P) 13 = oPush (.float FP.fconst0) 14 := rfl
theorem lX2_joinChoice_14 : lk (tX2_joinChoice d mc ms P) 14 = oFcmp .l 15 := rfl
theorem lX2_joinChoice_15 : lk (tX2_joinChoice d mc ms P) 15 = oIf (fun x => x ≤ 0) 29 18 := rfl
theorem lX2_joinChoice_18 : lk (tX2_joinChoice d mc ms P) 18 = oAld 0 19 := rfl
theorem lX2_joinChoice_19 : lk (tX2_joinChoice d mc ms P) 19 = oGr 2 4 22 := rfl
theorem lX2_joinChoice_22 : lk (tX2_joinChoice d mc ms P) 22 = oIld 1 23 := rfl
theorem lX2_joinChoice_23 : lk (tX2_joinChoice d mc ms P) 23 = oPush (.int 1) 24 := rfl
theorem lX2_joinChoice_24 : lk (tX2_joinChoice d mc ms P) 24 = oI2 (fun x y => x + y) 25 := rfl
theorem lX2_joinChoice_25 : lk (tX2_joinChoice d mc ms P) 25 = oAf 26 := rfl
theorem lX2_joinChoice_26 : lk (tX2_joinChoice d mc ms P) 26 = oGoto 35 := rfl
theorem lX2_joinChoice_29 : lk (tX2_joinChoice d mc ms P) 29 = oAld 0 30 := rfl
theorem lX2_joinChoice_30 : lk (tX2_joinChoice d mc ms P) 30 = oGr 2 4 33 := rfl
theorem lX2_joinChoice_33 : lk (tX2_joinChoice d mc ms P) 33 = oIld 1 34 := rfl
theorem lX2_joinChoice_34 : lk (tX2_joinChoice d mc ms P) 34 = oAf 35 := rfl
theorem lX2_joinChoice_35 : lk (tX2_joinChoice d mc ms P) 35 = oSf 36 := rfl
theorem lX2_joinChoice_36 : lk (tX2_joinChoice d mc ms P) 36 = oRetV mc ms P := rfl
theorem lX2_setInitialValue_0 : lk (tX2_setInitialValue d mc ms P) 0 = oAld 0 1 := rfl
theorem lX2_setInitialValue_1 : lk (tX2_setInitialValue d mc ms P) 1 = oGr 2 3 4 := rfl
theorem lX2_setInitialValue_4 : lk (tX2_setInitialValue d mc ms P) 4 = oIld 1 5 := rfl
theorem lX2_setInitialValue_5 : lk (tX2_setInitialValue d mc ms P) 5 = oAr 107 6 := rfl
theorem lX2_setInitialValue_6 : lk (tX2_setInitialValue d mc ms P) 6 = oIld 2 7 := rfl
theorem lX2_setInitialValue_7 : lk (tX2_setInitialValue d mc ms P) 7 = oIld 3 8 := rfl
theorem lX2_setInitialValue_8 : lk (tX2_setInitialValue d mc ms P) 8 = oIcv (fun x => .float (FP.i2f x)) 9 := rfl
theorem lX2_setInitialValue_9 : lk (tX2_setInitialValue d mc ms P) 9 = oSf 10 := rfl
theorem lX2_setInitialValue_10 : lk (tX2_setInitialValue d mc ms P) 10 = oRetV mc ms P := rfl
theorem lX2_setNeutral_0 : lk (tX2_setNeutral d mc ms P) 0 = oAld 0 1 := rfl
theorem lX2_setNeutral_1 : lk (tX2_setNeutral d mc ms P) 1 = oGr 2 3 4 := rfl
theorem lX2_setNeutral_4 : lk (tX2_setNeutral d mc ms P) 4 = oIld 1 5 := rfl
theorem lX2_setNeutral_5 : lk (tX2_setNeutral d mc ms P) 5 = oAr 107 6 := rfl
theorem lX2_setNeutral_6 : lk (tX2_setNeutral d mc ms P) 6 = oIld 2 7 := rfl
theorem lX2_setNeutral_7 : lk (tX2_setNeutral d mc ms P) 7 = oIld 3 8 := rfl
theorem lX2_setNeutral_8 : lk (tX2_setNeutral d mc ms P) 8 = oCallS d mc ms P 0 0 yX2_neutralOf (Cond.code yX2_neutralOf cX2_neutralOf 1 (some .float)) 1 11 := rfl
theorem lX2_setNeutral_11 : lk (tX2_setNeutral d mc ms P) 11 = oSf 12 := rfl
theorem lX2_setNeutral_12 : lk (tX2_setNeutral d mc ms P) 12 = oRetV mc ms P := rfl
theorem lX2_combine_0 : lk (tX2_combine d mc ms P) 0 = oAld 0 1 := rfl
theorem lX2_combine_1 : lk (tX2_combine d mc ms P) 1 = oGr 2 3 4 := rfl
theorem lX2_combine_4 : lk (tX2_combine d mc ms P) 4 = oIld 1 5 := rfl
theorem lX2_combine_5 : lk (tX2_combine d mc ms P) 5 = oAr 107 6 := rfl
theorem lX2_combine_6 : lk (tX2_combine d mc ms P) 6 = oIld 3 7 := rfl
theorem lX2_combine_7 : lk (tX2_combine d mc ms P) 7 = oIld 4 9 := rfl
theorem lX2_combine_9 : lk (tX2_combine d mc ms P) 9 = oAld 0 10 := rfl
theorem lX2_combine_10 : lk (tX2_combine d mc ms P) 10 = oGr 2 3 13 := rfl
theorem lX2_combine_13 : lk (tX2_combine d mc ms P) 13 = oIld 1 14 := rfl
theorem lX2_combine_14 : lk (tX2_combine d mc ms P) 14 = oAr 107 15 := rfl
theorem lX2_combine_15 : lk (tX2_combine d mc ms P) 15 = oIld 3 16 := rfl
theorem lX2_combine_16 : lk (tX2_combine d mc ms P) 16 = oAf 17 := rfl
theorem lX2_combine_17 : lk (tX2_combine d mc ms P) 17 = oAld 0 18 := rfl
theorem lX2_combine_18 : lk (tX2_combine d mc ms P) 18 = oGr 2 3 21 := rfl
theorem lX2_combine_21 : lk (tX2_combine d mc ms P) 21 = oIld 2 22 := rfl
theorem lX2_combine_22 : lk (tX2_combine d mc ms P) 22 = oAr 107 23 := rfl
theorem lX2_combine_23 : lk (tX2_combine d mc ms P) 23 = oIld 3 24 := rfl
theorem lX2_combine_24 : lk (tX2_combine d mc ms P) 24 = oAf 25 := rfl
theorem lX2_combine_25 : lk (tX2_combine d mc ms P) 25 = oCallS d mc ms P 0 0 yX2_calculate (Cond.code yX2_calculate cX2_calculate 4 (some .float)) 3 28 := rfl
theorem lX2_combine_28 : lk (tX2_combine d mc ms P) 28 = oSf 29 := rfl
theorem lX2_combine_29 : lk (tX2_combine d mc ms P) 29 = oRetV mc ms P := rfl
theorem lX2_copyValue_0 : lk (tX2_copyValue d mc ms P) 0 = oAld 0 1 := rfl
theorem lX2_copyValue_1 : lk (tX2_copyValue d mc ms P) 1 = oGr 2 3 4 := rfl
theorem lX2_copyValue_4 : lk (tX2_copyValue d mc ms P) 4 = oIld 1 5 := rfl
theorem lX2_copyValue_5 : lk (tX2_copyValue d mc ms P) 5 = oAr 107 6 := rfl
theorem lX2_copyValue_6 : lk (tX2_copyValue d mc ms P) 6 = oIld 3 7 := rfl
theorem lX2_copyValue_7 : lk (tX2_copyValue d mc ms P) 7 = oAld 0 8 := rfl
theorem lX2_copyValue_8 : lk (tX2_copyValue d mc ms P) 8 = oGr 2 3 11 := rfl
theorem lX2_copyValue_11 : lk (tX2_copyValue d mc ms P) 11 = oIld 2 12 := rfl
theorem lX2_copyValue_12 : lk (tX2_copyValue d mc ms P) 12 = oAr 107 13 := rfl
theorem lX2_copyValue_13 : lk (tX2_copyValue d mc ms P) 13 = oIld 3 14 := rfl
theorem lX2_copyValue_14 : lk (tX2_copyValue d mc ms P) 14 = oAf 15 := rfl
theorem lX2_copyValue_15 : lk (tX2_copyValue d mc ms P) 15 = oSf 16 := rfl
theorem lX2_copyValue_16 : lk (tX2_copyValue d mc ms P) 16 = oRetV mc ms P := rfl
theorem lX2_storeValue_0 : lk (tX2_storeValue d mc ms P) 0 = oAld 0 1 := rfl
theorem lX2_storeValue_1 : lk (tX2_storeValue d mc ms P) 1 = oGr 2 3 4 := rfl
theorem lX2_storeValue_4 : lk (tX2_storeValue d mc ms P) 4 = oIld 1 5 := rfl
theorem lX2_storeValue_5 : lk (tX2_storeValue d mc ms P) 5 = oAr 107 6 := rfl
theorem lX2_storeValue_6 : lk (tX2_storeValue d mc ms P) 6 = oIld 2 7 := rfl
theorem lX2_storeValue_7 : lk (tX2_storeValue d mc ms P) 7 = oAld 0 8 := rfl
theorem lX2_storeValue_8 : lk (tX2_storeValue d mc ms P) 8 = oGr 2 4 11 := rfl
theorem lX2_storeValue_11 : lk (tX2_storeValue d mc ms P) 11 = oPush (.int 0) 12 := rfl
theorem lX2_storeValue_12 : lk (tX2_storeValue d mc ms P) 12 = oAf 13 := rfl
theorem lX2_storeValue_13 : lk (tX2_storeValue d mc ms P) 13 = oSf 14 := rfl
theorem lX2_storeValue_14 : lk (tX2_storeValue d mc ms P) 14 = oRetV mc ms P := rfl
theorem lX2_valueOf_0 : lk (tX2_valueOf d mc ms P) 0 = oAld 0 1 := rfl
theorem lX2_valueOf_1 : lk (tX2_valueOf d mc ms P) 1 = oGr 2 3 4 := rfl
theorem lX2_valueOf_4 : lk (tX2_valueOf d mc ms P) 4 = oIld 1 5 := rfl
theorem lX2_valueOf_5 : lk (tX2_valueOf d mc ms P) 5 = oAr 107 6 := rfl
theorem lX2_valueOf_6 : lk (tX2_valueOf d mc ms P) 6 = oIld 2 7 := rfl
theorem lX2_valueOf_7 : lk (tX2_valueOf d mc ms P) 7 = oAf 8 := rfl
theorem lX2_valueOf_8 : lk (tX2_valueOf d mc ms P) 8 = oF2d 9 := rfl
theorem lX2_valueOf_9 : lk (tX2_valueOf d mc ms P) 9 = oRetD mc ms P := rfl
theorem lX2_calculate_0 : lk (tX2_calculate d mc ms P) 0 = oIld 0 1 := rfl
theorem lX2_calculate_1 : lk (tX2_calculate d mc ms P) 1 = oPush (.int 305) 4 := rfl
theorem lX2_calculate_4 : lk (tX2_calculate d mc ms P) 4 = oIc (fun x y => x = y) 7 19 := rfl
theorem lX2_calculate_7 : lk (tX2_calculate d mc ms P) 7 = oFld 1 8 := rfl
theorem lX2_calculate_8 : lk (tX2_calculate d mc ms P) 8 = oFld 2 9 := rfl
theorem lX2_calculate_9 : lk (tX2_calculate d mc ms P) 9 = oFcmp .g 10 := rfl
theorem lX2_calculate_10 : lk (tX2_calculate d mc ms P) 10 = oIf (fun x => 0 < x) 17 13 := rfl
theorem lX2_calculate_13 : lk (tX2_calculate d mc ms P) 13 = oFld 1 14 := rfl
theorem lX2_calculate_14 : lk (tX2_calculate d mc ms P) 14 = oGoto 18 := rfl
theorem lX2_calculate_17 : lk (tX2_calculate d mc ms P) 17 = oFld 2 18 := rfl
theorem lX2_calculate_18 : lk (tX2_calculate d mc ms P) 18 = oRetF mc ms P := rfl
theorem lX2_calculate_19 : lk (tX2_calculate d mc ms P) 19 = oIld 0 20 := rfl
theorem lX2_calculate_20 : lk (tX2_calculate d mc ms P) 20 = oPush (.int 306) 23 := rfl
theorem lX2_calculate_23 : lk (tX2_calculate d mc ms P) 23 = oIc (fun x y => x = y) 26 38 := rfl
theorem lX2_calculate_26 : lk (tX2_calculate d mc ms P) 26 = oFld 1 27 := rfl
theorem lX2_calculate_27 : lk (tX2_calculate d mc ms P) 27 = oFld 2 28 := rfl
theorem lX2_calculate_28 : lk (tX2_calculate d mc ms P) 28 = oFcmp .l 29 := rfl
theorem lX2_calculate_29 : lk (tX2_calculate d mc ms P) 29 = oIf (fun x => x < 0) 36 32 := rfl
theorem lX2_calculate_32 : lk (tX2_calculate d mc ms P) 32 = oFld 1 33 := rfl
theorem lX2_calculate_33 : lk (tX2_calculate d mc ms P) 33 = oGoto 37 := rfl
theorem lX2_calculate_36 : lk (tX2_calculate d mc ms P) 36 = oFld 2 37 := rfl
theorem lX2_calculate_37 : lk (tX2_calculate d mc ms P) 37 = oRetF mc ms P := rfl
theorem lX2_calculate_38 : lk (tX2_calculate d mc ms P) 38 = oIld 0 39 := rfl
theorem lX2_calculate_39 : lk (tX2_calculate d mc ms P) 39 = oPush (.int 301) 42 := rfl
theorem lX2_calculate_42 : lk (tX2_calculate d mc ms P) 42 = oIc (fun x y => x = y) 45 51 := rfl
theorem lX2_calculate_45 : lk (tX2_calculate d mc ms P) 45 = oFld 1 46 := rfl
theorem lX2_calculate_46 : lk (tX2_calculate d mc ms P) 46 = oFld 2 47 := rfl
theorem lX2_calculate_47 : lk (tX2_calculate d mc ms P) 47 = oF2 FP.fmul 48 := rfl
theorem lX2_calculate_48 : lk (tX2_calculate d mc ms P) 48 = oGoto 67 := rfl
theorem lX2_calculate_51 : lk (tX2_calculate d mc ms P) 51 = oIld 0 52 := rfl
theorem lX2_calculate_52 : lk (tX2_calculate d mc ms P) 52 = oPush (.int 307) 55 := rfl
theorem lX2_calculate_55 : lk (tX2_calculate d mc ms P) 55 = oIc (fun x y => x = y) 58 64 := rfl
theorem lX2_calculate_58 : lk (tX2_calculate d mc ms P) 58 = oFld 1 59 := rfl
theorem lX2_calculate_59 : lk (tX2_calculate d mc ms P) 59 = oFld 2 60 := rfl
theorem lX2_calculate_60 : lk (tX2_calculate d mc ms P) 60 = oF2 FP.fsub 61 := rfl
theorem lX2_calculate_61 : lk (tX2_calculate d mc ms P) 61 = oGoto 67 := rfl
theorem lX2_calculate_64 : lk (tX2_calculate d mc ms P) 64 = oFld 1 65 := rfl
theorem lX2_calculate_65 : lk (tX2_calculate d mc ms P) 65 = oFld 2 66 := rfl
theorem lX2_calculate_66 : lk (tX2_calculate d mc ms P) 66 = oF2 FP.fadd 67 := rfl
theorem lX2_calculate_67 : lk (tX2_calculate d mc ms P) 67 = oFst 3 68 := rfl
theorem lX2_calculate_68 : lk (tX2_calculate d mc ms P) 68 = oFld 3 69 := rfl
theorem lX2_calculate_69 : lk (tX2_calculate d mc ms P) 69 = oPush (.float 1900671690) 71 := rfl
theorem lX2_calculate_71 : lk (tX2_calculate d mc ms P) 71 = oFcmp .l 72 := rfl
theorem lX2_calculate_72 : lk (tX2_calculate d mc ms P) 72 = oIf (fun x => x ≤ 0) 78 75 := rfl
theorem lX2_calculate_75 : lk (tX2_calculate d mc ms P) 75 = oPush (.float 1900671690) 77 := rfl
theorem lX2_calculate_77 : lk (tX2_calculate d mc ms P) 77 = oRetF mc ms P := rfl
theorem lX2_calculate_78 : lk (tX2_calculate d mc ms P) 78 = oFld 3 79 := rfl
theorem lX2_calculate_79 : lk (tX2_calculate d mc ms P) 79 = oPush (.float 4048155338) 81 := rfl
theorem lX2_calculate_81 : lk (tX2_calculate d mc ms P) 81 = oFcmp .g 82 := rfl
theorem lX2_calculate_82 : lk (tX2_calculate d mc ms P) 82 = oIf (fun x => 0 ≤ x) 90 85 := rfl
theorem lX2_calculate_85 : lk (tX2_calculate d mc ms P) 85 = oPush (.float 4048155338) 87 := rfl
set_option maxRecDepth 20000 in
theorem lX2_calculate_87 : lk (tX2_calculate d mc ms P) 87 = oGoto 91 := rfl
set_option maxRecDepth 20000 in
theorem lX2_calculate_90 : lk (tX2_calculate d mc ms P) 90 = oFld 3 91 := rfl
set_option maxRecDepth 20000 in
theorem lX2_calculate_91 : lk (tX2_calculate d mc ms P) 91 = oRetF mc ms P := rfl
end
