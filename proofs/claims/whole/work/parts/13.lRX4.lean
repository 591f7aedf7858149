section
variable {d mc ms : Nat} {P : PO}
theorem lX4_putLeaf_0 : lk (tX4_putLeaf d mc ms P) 0 = oAld 0 1 := rfl
theorem lX4_putLeaf_1 : lk (tX4_putLeaf d mc ms P) 1 = oGr 4 4 4 := rfl
theorem lX4_putLeaf_4 : lk (tX4_putLeaf d mc ms P) 4 = oIld 1 5 := rfl
theorem lX4_putLeaf_5 : lk (tX4_putLeaf d mc ms P) 5 = oIld 2 6 := rfl
theorem lX4_putLeaf_6 : lk (tX4_putLeaf d mc ms P) 6 = oCallS d mc ms P 0 0 yX9_isStart (Cond.code yX9_isStart cX9_isStart 1 (some .boolean)) 1 9 := rfl
theorem lX4_putLeaf_9 : lk (tX4_putLeaf d mc ms P) 9 = oIf (fun x => x = 0) 29 12 := rfl
theorem lX4_putLeaf_12 : lk (tX4_putLeaf d mc ms P) 12 = oAld 0 13 := rfl
theorem lX4_putLeaf_13 : lk (tX4_putLeaf d mc ms P) 13 = oGr 4 3 16 := rfl
theorem lX4_putLeaf_16 : lk (tX4_putLeaf d mc ms P) 16 = oAld 0 17 := rfl
theorem lX4_putLeaf_17 : lk (tX4_putLeaf d mc ms P) 17 = oCallV d mc ms P 0 0 yX5_rowNow (Cond.code yX5_rowNow cX5_rowNow 1 (some .int)) 0 4 20 := rfl
theorem lX4_putLeaf_20 : lk (tX4_putLeaf d mc ms P) 20 = oAr 106 21 := rfl
theorem lX4_putLeaf_21 : lk (tX4_putLeaf d mc ms P) 21 = oIld 2 22 := rfl
theorem lX4_putLeaf_22 : lk (tX4_putLeaf d mc ms P) 22 = oPush (.int 100) 24 := rfl
theorem lX4_putLeaf_24 : lk (tX4_putLeaf d mc ms P) 24 = oI2 (fun x y => x - y) 25 := rfl
theorem lX4_putLeaf_25 : lk (tX4_putLeaf d mc ms P) 25 = oAi 100 26 := rfl
theorem lX4_putLeaf_26 : lk (tX4_putLeaf d mc ms P) 26 = oGoto 34 := rfl
theorem lX4_putLeaf_29 : lk (tX4_putLeaf d mc ms P) 29 = oAld 0 30 := rfl
theorem lX4_putLeaf_30 : lk (tX4_putLeaf d mc ms P) 30 = oIld 2 31 := rfl
theorem lX4_putLeaf_31 : lk (tX4_putLeaf d mc ms P) 31 = oCallV d mc ms P 0 0 yX5_constantOf (Cond.code yX5_constantOf cX5_constantOf 3 (some .int)) 1 4 34 := rfl
theorem lX4_putLeaf_34 : lk (tX4_putLeaf d mc ms P) 34 = oSi 100 (fun x => x) 35 := rfl
theorem lX4_putLeaf_35 : lk (tX4_putLeaf d mc ms P) 35 = oRetV mc ms P := rfl
theorem lX4_joinPair_0 : lk (tX4_joinPair d mc ms P) 0 = oAld 0 1 := rfl
theorem lX4_joinPair_1 : lk (tX4_joinPair d mc ms P) 1 = oGr 4 4 4 := rfl
theorem lX4_joinPair_4 : lk (tX4_joinPair d mc ms P) 4 = oIld 1 5 := rfl
theorem lX4_joinPair_5 : lk (tX4_joinPair d mc ms P) 5 = oIld 2 6 := rfl
theorem lX4_joinPair_6 : lk (tX4_joinPair d mc ms P) 6 = oAld 0 7 := rfl
theorem lX4_joinPair_7 : lk (tX4_joinPair d mc ms P) 7 = oGr 4 4 10 := rfl
theorem lX4_joinPair_10 : lk (tX4_joinPair d mc ms P) 10 = oIld 1 11 := rfl
theorem lX4_joinPair_11 : lk (tX4_joinPair d mc ms P) 11 = oPush (.int 1) 12 := rfl
theorem lX4_joinPair_12 : lk (tX4_joinPair d mc ms P) 12 = oI2 (fun x y => x + y) 13 := rfl
theorem lX4_joinPair_13 : lk (tX4_joinPair d mc ms P) 13 = oAi 100 14 := rfl
theorem lX4_joinPair_14 : lk (tX4_joinPair d mc ms P) 14 = oAld 0 15 := rfl
theorem lX4_joinPair_15 : lk (tX4_joinPair d mc ms P) 15 = oGr 4 4 18 := rfl
theorem lX4_joinPair_18 : lk (tX4_joinPair d mc ms P) 18 = oIld 1 19 := rfl
theorem lX4_joinPair_19 : lk (tX4_joinPair d mc ms P) 19 = oAi 100 20 := rfl
theorem lX4_joinPair_20 : lk (tX4_joinPair d mc ms P) 20 = oCallS d mc ms P 0 0 yX4_calculate (Cond.code yX4_calculate cX4_calculate 3 (some .int)) 3 23 := rfl
theorem lX4_joinPair_23 : lk (tX4_joinPair d mc ms P) 23 = oSi 100 (fun x => x) 24 := rfl
theorem lX4_joinPair_24 : lk (tX4_joinPair d mc ms P) 24 = oRetV mc ms P := rfl
theorem lX4_joinChoice_0 : lk (tX4_joinChoice d mc ms P) 0 = oAld 0 1 := rfl
theorem lX4_joinChoice_1 : lk (tX4_joinChoice d mc ms P) 1 = oGr 4 4 4 := rfl
theorem lX4_joinChoice_4 : lk (tX4_joinChoice d mc ms P) 4 = oIld 1 5 := rfl
theorem lX4_joinChoice_5 : lk (tX4_joinChoice d mc ms P) 5 = oAld 0 6 := rfl
theorem lX4_joinChoice_6 : lk (tX4_joinChoice d mc ms P) 6 = oGr 4 4 9 := rfl
theorem lX4_joinChoice_9 : lk (tX4_joinChoice d mc ms P) 9 = oIld 1 10 := rfl
theorem lX4_joinChoice_10 : lk (tX4_joinChoice d mc ms P) 10 = oPush (.int 2) 11 := rfl
theorem lX4_joinChoice_11 : lk (tX4_joinChoice d mc ms P) 11 = oI2 (fun x y => x + y) 12 := rfl
theorem lX4_joinChoice_12 : lk (tX4_joinChoice d mc ms P) 12 = oAi 100 13 := rfl
theorem lX4_joinChoice_13 : lk (tX4_joinChoice d mc ms P) 13 = oIf (fun x => x ≤ 0) 27 16 := rfl
theorem lX4_joinChoice_16 : lk (tX4_joinChoice d mc ms P) 16 = oAld 0 17 := rfl
theorem lX4_joinChoice_17 : lk (tX4_joinChoice d mc ms P) 17 = oGr 4 4 20 := rfl
theorem lX4_joinChoice_20 : lk (tX4_joinChoice d mc ms P) 20 = oIld 1 21 := rfl
theorem lX4_joinChoice_21 : lk (tX4_joinChoice d mc ms P) 21 = oPush (.int 1) 22 := rfl
theorem lX4_joinChoice_22 : lk (tX4_joinChoice d mc ms P) 22 = oI2 (fun x y => x + y) 23 := rfl
theorem lX4_joinChoice_23 : lk (tX4_joinChoice d mc ms P) 23 = oAi 100 24 := rfl
theorem lX4_joinChoice_24 : lk (tX4_joinChoice d mc ms P) 24 = oGoto 33 := rfl
theorem lX4_joinChoice_27 : lk (tX4_joinChoice d mc ms P) 27 = oAld 0 28 := rfl
theorem lX4_joinChoice_28 : lk (tX4_joinChoice d mc ms P) 28 = oGr 4 4 31 := rfl
theorem lX4_joinChoice_31 : lk (tX4_joinChoice d mc ms P) 31 = oIld 1 32 := rfl
theorem lX4_joinChoice_32 : lk (tX4_joinChoice d mc ms P) 32 = oAi 100 33 := rfl
theorem lX4_joinChoice_33 : lk (tX4_joinChoice d mc ms P) 33 = oSi 100 (fun x => x) 34 := rfl
theorem lX4_joinChoice_34 : lk (tX4_joinChoice d mc ms P) 34 = oRetV mc ms P := rfl
theorem lX4_setInitialValue_0 : lk (tX4_setInitialValue d mc ms P) 0 = oAld 0 1 := rfl
theorem lX4_setInitialValue_1 : lk (tX4_setInitialValue d mc ms P) 1 = oGr 4 3 4 := rfl
theorem lX4_setInitialValue_4 : lk (tX4_setInitialValue d mc ms P) 4 = oIld 1 5 := rfl
theorem lX4_setInitialValue_5 : lk (tX4_setInitialValue d mc ms P) 5 = oAr 106 6 := rfl
theorem lX4_setInitialValue_6 : lk (tX4_setInitialValue d mc ms P) 6 = oIld 2 7 := rfl
theorem lX4_setInitialValue_7 : lk (tX4_setInitialValue d mc ms P) 7 = oIld 3 8 := rfl
theorem lX4_setInitialValue_8 : lk (tX4_setInitialValue d mc ms P) 8 = oSi 100 (fun x => x) 9 := rfl
theorem lX4_setInitialValue_9 : lk (tX4_setInitialValue d mc ms P) 9 = oRetV mc ms P := rfl
theorem lX4_setNeutral_0 : lk (tX4_setNeutral d mc ms P) 0 = oAld 0 1 := rfl
theorem lX4_setNeutral_1 : lk (tX4_setNeutral d mc ms P) 1 = oGr 4 3 4 := rfl
theorem lX4_setNeutral_4 : lk (tX4_setNeutral d mc ms P) 4 = oIld 1 5 := rfl
theorem lX4_setNeutral_5 : lk (tX4_setNeutral d mc ms P) 5 = oAr 106 6 := rfl
theorem lX4_setNeutral_6 : lk (tX4_setNeutral d mc ms P) 6 = oIld 2 7 := rfl
theorem lX4_setNeutral_7 : lk (tX4_setNeutral d mc ms P) 7 = oIld 3 8 := rfl
theorem lX4_setNeutral_8 : lk (tX4_setNeutral d mc ms P) 8 = oCallS d mc ms P 0 0 yX4_neutralOf (Cond.code yX4_neutralOf cX4_neutralOf 1 (some .int)) 1 11 := rfl
theorem lX4_setNeutral_11 : lk (tX4_setNeutral d mc ms P) 11 = oSi 100 (fun x => x) 12 := rfl
theorem lX4_setNeutral_12 : lk (tX4_setNeutral d mc ms P) 12 = oRetV mc ms P := rfl
theorem lX4_combine_0 : lk (tX4_combine d mc ms P) 0 = oAld 0 1 := rfl
theorem lX4_combine_1 : lk (tX4_combine d mc ms P) 1 = oGr 4 3 4 := rfl
theorem lX4_combine_4 : lk (tX4_combine d mc ms P) 4 = oIld 1 5 := rfl
theorem lX4_combine_5 : lk (tX4_combine d mc ms P) 5 = oAr 106 6 := rfl
theorem lX4_combine_6 : lk (tX4_combine d mc ms P) 6 = oIld 3 7 := rfl
theorem lX4_combine_7 : lk (tX4_combine d mc ms P) 7 = oIld 4 9 := rfl
theorem lX4_combine_9 : lk (tX4_combine d mc ms P) 9 = oAld 0 10 := rfl
theorem lX4_combine_10 : lk (tX4_combine d mc ms P) 10 = oGr 4 3 13 := rfl
theorem lX4_combine_13 : lk (tX4_combine d mc ms P) 13 = oIld 1 14 := rfl
theorem lX4_combine_14 : lk (tX4_combine d mc ms P) 14 = oAr 106 15 := rfl
theorem lX4_combine_15 : lk (tX4_combine d mc ms P) 15 = oIld 3 16 := rfl
theorem lX4_combine_16 : lk (tX4_combine d mc ms P) 16 = oAi 100 17 := rfl
theorem lX4_combine_17 : lk (tX4_combine d mc ms P) 17 = oAld 0 18 := rfl
theorem lX4_combine_18 : lk (tX4_combine d mc ms P) 18 = oGr 4 3 21 := rfl
theorem lX4_combine_21 : lk (tX4_combine d mc ms P) 21 = oIld 2 22 := rfl
theorem lX4_combine_22 : lk (tX4_combine d mc ms P) 22 = oAr 106 23 := rfl
theorem lX4_combine_23 : lk (tX4_combine d mc ms P) 23 = oIld 3 24 := rfl
theorem lX4_combine_24 : lk (tX4_combine d mc ms P) 24 = oAi 100 25 := rfl
theorem lX4_combine_25 : lk (tX4_combine d mc ms P) 25 = oCallS d mc ms P 0 0 yX4_calculate (Cond.code yX4_calculate cX4_calculate 3 (some .int)) 3 28 := rfl
theorem lX4_combine_28 : lk (tX4_combine d mc ms P) 28 = oSi 100 (fun x => x) 29 := rfl
theorem lX4_combine_29 : lk (tX4_combine d mc ms P) 29 = oRetV mc ms P := rfl
theorem lX4_copyValue_0 : lk (tX4_copyValue d mc ms P) 0 = oAld 0 1 := rfl
theorem lX4_copyValue_1 : lk (tX4_copyValue d mc ms P) 1 = oGr 4 3 4 := rfl
theorem lX4_copyValue_4 : lk (tX4_copyValue d mc ms P) 4 = oIld 1 5 := rfl
theorem lX4_copyValue_5 : lk (tX4_copyValue d mc ms P) 5 = oAr 106 6 := rfl
theorem lX4_copyValue_6 : lk (tX4_copyValue d mc ms P) 6 = oIld 3 7 := rfl
theorem lX4_copyValue_7 : lk (tX4_copyValue d mc ms P) 7 = oAld 0 8 := rfl
theorem lX4_copyValue_8 : lk (tX4_copyValue d mc ms P) 8 = oGr 4 3 11 := rfl
theorem lX4_copyValue_11 : lk (tX4_copyValue d mc ms P) 11 = oIld 2 12 := rfl
theorem lX4_copyValue_12 : lk (tX4_copyValue d mc ms P) 12 = oAr 106 13 := rfl
theorem lX4_copyValue_13 : lk (tX4_copyValue d mc ms P) 13 = oIld 3 14 := rfl
theorem lX4_copyValue_14 : lk (tX4_copyValue d mc ms P) 14 = oAi 100 15 := rfl
theorem lX4_copyValue_15 : lk (tX4_copyValue d mc ms P) 15 = oSi 100 (fun x => x) 16 := rfl
theorem lX4_copyValue_16 : lk (tX4_copyValue d mc ms P) 16 = oRetV mc ms P := rfl
theorem lX4_storeValue_0 : lk (tX4_storeValue d mc ms P) 0 = oAld 0 1 := rfl
theorem lX4_storeValue_1 : lk (tX4_storeValue d mc ms P) 1 = oGr 4 3 4 := rfl
theorem lX4_storeValue_4 : lk (tX4_storeValue d mc ms P) 4 = oIld 1 5 := rfl
theorem lX4_storeValue_5 : lk (tX4_storeValue d mc ms P) 5 = oAr 106 6 := rfl
theorem lX4_storeValue_6 : lk (tX4_storeValue d mc ms P) 6 = oIld 2 7 := rfl
theorem lX4_storeValue_7 : lk (tX4_storeValue d mc ms P) 7 = oAld 0 8 := rfl
theorem lX4_storeValue_8 : lk (tX4_storeValue d mc ms P) 8 = oGr 4 4 11 := rfl
theorem lX4_storeValue_11 : lk (tX4_storeValue d mc ms P) 11 = oPush (.int 0) 12 := rfl
theorem lX4_storeValue_12 : lk (tX4_storeValue d mc ms P) 12 = oAi 100 13 := rfl
theorem lX4_storeValue_13 : lk (tX4_storeValue d mc ms P) 13 = oSi 100 (fun x => x) 14 := rfl
theorem lX4_storeValue_14 : lk (tX4_storeValue d mc ms P) 14 = oRetV mc ms P := rfl
theorem lX4_valueOf_0 : lk (tX4_valueOf d mc ms P) 0 = oAld 0 1 := rfl
theorem lX4_valueOf_1 : lk (tX4_valueOf d mc ms P) 1 = oGr 4 3 4 := rfl
theorem lX4_valueOf_4 : lk (tX4_valueOf d mc ms P) 4 = oIld 1 5 := rfl
theorem lX4_valueOf_5 : lk (tX4_valueOf d mc ms P) 5 = oAr 106 6 := rfl
theorem lX4_valueOf_6 : lk (tX4_valueOf d mc ms P) 6 = oIld 2 7 := rfl
theorem lX4_valueOf_7 : lk (tX4_valueOf d mc ms P) 7 = oAi 100 8 := rfl
theorem lX4_valueOf_8 : lk (tX4_valueOf d mc ms P) 8 = oIcv (fun x => .double (FP.i2d x)) 9 := rfl
theorem lX4_valueOf_9 : lk (tX4_valueOf d mc ms P) 9 = oRetD mc ms P := rfl
theorem lX4_neutralOf_0 : lk (tX4_neutralOf d mc ms P) 0 = oIld 0 1 := rfl
theorem lX4_neutralOf_1 : lk (tX4_neutralOf d mc ms P) 1 = oSw [(301, 40), (302, 42), (303, 50), (304, 50), (305, 44), (306, 47)] 50 := rfl
theorem lX4_neutralOf_40 : lk (tX4_neutralOf d mc ms P) 40 = oPush (.int 1) 41 := rfl
theorem lX4_neutralOf_41 : lk (tX4_neutralOf d mc ms P) 41 = oRetI mc ms P := rfl
theorem lX4_neutralOf_42 : lk (tX4_neutralOf d mc ms P) 42 = oPush (.int (-1)) 43 := rfl
theorem lX4_neutralOf_43 : lk (tX4_neutralOf d mc ms P) 43 = oRetI mc ms P := rfl
theorem lX4_neutralOf_44 : lk (tX4_neutralOf d mc ms P) 44 = oPush (.int 2147483647) 46 := rfl
theorem lX4_neutralOf_46 : lk (tX4_neutralOf d mc ms P) 46 = oRetI mc ms P := rfl
theorem lX4_neutralOf_47 : lk (tX4_neutralOf d mc ms P) 47 = oPush (.int (-2147483648)) 49 := rfl
theorem lX4_neutralOf_49 : lk (tX4_neutralOf d mc ms P) 49 = oRetI mc ms P := rfl
theorem lX4_neutralOf_50 : lk (tX4_neutralOf d mc ms P) 50 = oPush (.int 0) 51 := rfl
theorem lX4_neutralOf_51 : lk (tX4_neutralOf d mc ms P) 51 = oRetI mc ms P := rfl
theorem lX4_calculate_0 : lk (tX4_calculate d mc ms P) 0 = oIld 0 1 := rfl
theorem lX4_calculate_1 : lk (tX4_calculate d mc ms P) 1 = oSw [(300, 48), (301, 56), (302, 60), (303, 64), (304, 68), (305, 72), (306, 78), (307, 52)] 78 := rfl
theorem lX4_calculate_48 : lk (tX4_calculate d mc ms P) 48 = oIld 1 49 := rfl
theorem lX4_calculate_49 : lk (tX4_calculate d mc ms P) 49 = oIld 2 50 := rfl
theorem lX4_calculate_50 : lk (tX4_calculate d mc ms P) 50 = oI2 (fun x y => x + y) 51 := rfl
theorem lX4_calculate_51 : lk (tX4_calculate d mc ms P) 51 = oRetI mc ms P := rfl
theorem lX4_calculate_52 : lk (tX4_calculate d mc ms P) 52 = oIld 1 53 := rfl
theorem lX4_calculate_53 : lk (tX4_calculate d mc ms P) 53 = oIld 2 54 := rfl
theorem lX4_calculate_54 : lk (tX4_calculate d mc ms P) 54 = oI2 (fun x y => x - y) 55 := rfl
theorem lX4_calculate_55 : lk (tX4_calculate d mc ms P) 55 = oRetI mc ms P := rfl
theorem lX4_calculate_56 : lk (tX4_calculate d mc ms P) 56 = oIld 1 57 := rfl
theorem lX4_calculate_57 : lk (tX4_calculate d mc ms P) 57 = oIld 2 58 := rfl
theorem lX4_calculate_58 : lk (tX4_calculate d mc ms P) 58 = oI2 (fun x y => x * y) 59 := rfl
theorem lX4_calculate_59 : lk (tX4_calculate d mc ms P) 59 = oRetI mc ms P := rfl
theorem lX4_calculate_60 : lk (tX4_calculate d mc ms P) 60 = oIld 1 61 := rfl
theorem lX4_calculate_61 : lk (tX4_calculate d mc ms P) 61 = oIld 2 62 := rfl
theorem lX4_calculate_62 : lk (tX4_calculate d mc ms P) 62 = oI2 (fun x y => x &&& y) 63 := rfl
theorem lX4_calculate_63 : lk (tX4_calculate d mc ms P) 63 = oRetI mc ms P := rfl
theorem lX4_calculate_64 : lk (tX4_calculate d mc ms P) 64 = oIld 1 65 := rfl
theorem lX4_calculate_65 : lk (tX4_calculate d mc ms P) 65 = oIld 2 66 := rfl
theorem lX4_calculate_66 : lk (tX4_calculate d mc ms P) 66 = oI2 (fun x y => x ||| y) 67 := rfl
theorem lX4_calculate_67 : lk (tX4_calculate d mc ms P) 67 = oRetI mc ms P := rfl
theorem lX4_calculate_68 : lk (tX4_calculate d mc ms P) 68 = oIld 1 69 := rfl
theorem lX4_calculate_69 : lk (tX4_calculate d mc ms P) 69 = oIld 2 70 := rfl
theorem lX4_calculate_70 : lk (tX4_calculate d mc ms P) 70 = oI2 (fun x y => x ^^^ y) 71 := rfl
theorem lX4_calculate_71 : lk (tX4_calculate d mc ms P) 71 = oRetI mc ms P := rfl
theorem lX4_calculate_72 : lk (tX4_calculate d mc ms P) 72 = oIld 1 73 := rfl
theorem lX4_calculate_73 : lk (tX4_calculate d mc ms P) 73 = oIld 2 74 := rfl
theorem lX4_calculate_74 : lk (tX4_calculate d mc ms P) 74 = oMm (fun x y => if y < x then y else x) mc ms 77 := rfl
theorem lX4_calculate_77 : lk (tX4_calculate d mc ms P) 77 = oRetI mc ms P := rfl
theorem lX4_calculate_78 : lk (tX4_calculate d mc ms P) 78 = oIld 1 79 := rfl
theorem lX4_calculate_79 : lk (tX4_calculate d mc ms P) 79 = oIld 2 80 := rfl
theorem lX4_calculate_80 : lk (tX4_calculate d mc ms P) 80 = oMm (fun x y => if x < y then y else x) mc ms 83 := rfl
theorem lX4_calculate_83 : lk (tX4_calculate d mc ms P) 83 = oRetI mc ms P := rfl
end
