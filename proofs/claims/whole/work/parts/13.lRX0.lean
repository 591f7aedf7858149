section
variable {d mc ms : Nat} {P : PO}
theorem lX0_countTerms_0 : lk (tX0_countTerms d mc ms P) 0 = oAld 0 1 := rfl
theorem lX0_countTerms_1 : lk (tX0_countTerms d mc ms P) 1 = oIld 3 2 := rfl
theorem lX0_countTerms_2 : lk (tX0_countTerms d mc ms P) 2 = oPi 0 1 5 := rfl
theorem lX0_countTerms_5 : lk (tX0_countTerms d mc ms P) 5 = oAld 0 6 := rfl
theorem lX0_countTerms_6 : lk (tX0_countTerms d mc ms P) 6 = oIld 4 8 := rfl
theorem lX0_countTerms_8 : lk (tX0_countTerms d mc ms P) 8 = oPi 0 2 11 := rfl
theorem lX0_countTerms_11 : lk (tX0_countTerms d mc ms P) 11 = oAld 0 12 := rfl
theorem lX0_countTerms_12 : lk (tX0_countTerms d mc ms P) 12 = oAld 1 13 := rfl
theorem lX0_countTerms_13 : lk (tX0_countTerms d mc ms P) 13 = oPush (.int 0) 14 := rfl
theorem lX0_countTerms_14 : lk (tX0_countTerms d mc ms P) 14 = oIld 2 15 := rfl
theorem lX0_countTerms_15 : lk (tX0_countTerms d mc ms P) 15 = oCallV d mc ms P 0 0 yX8_walk (Cond.code yX8_walk cX8_walk 9 none) 3 0 18 := rfl
theorem lX0_countTerms_18 : lk (tX0_countTerms d mc ms P) 18 = oAld 0 19 := rfl
theorem lX0_countTerms_19 : lk (tX0_countTerms d mc ms P) 19 = oGr 0 0 22 := rfl
theorem lX0_countTerms_22 : lk (tX0_countTerms d mc ms P) 22 = oPush (.int 0) 23 := rfl
theorem lX0_countTerms_23 : lk (tX0_countTerms d mc ms P) 23 = oAi 100 24 := rfl
theorem lX0_countTerms_24 : lk (tX0_countTerms d mc ms P) 24 = oRetI mc ms P := rfl
theorem lX0_putLeaf_0 : lk (tX0_putLeaf d mc ms P) 0 = oAld 0 1 := rfl
theorem lX0_putLeaf_1 : lk (tX0_putLeaf d mc ms P) 1 = oGr 0 0 4 := rfl
theorem lX0_putLeaf_4 : lk (tX0_putLeaf d mc ms P) 4 = oIld 1 5 := rfl
theorem lX0_putLeaf_5 : lk (tX0_putLeaf d mc ms P) 5 = oIld 2 6 := rfl
theorem lX0_putLeaf_6 : lk (tX0_putLeaf d mc ms P) 6 = oAld 0 7 := rfl
theorem lX0_putLeaf_7 : lk (tX0_putLeaf d mc ms P) 7 = oGi 0 1 10 := rfl
theorem lX0_putLeaf_10 : lk (tX0_putLeaf d mc ms P) 10 = oIc (fun x y => x = y) 13 17 := rfl
theorem lX0_putLeaf_13 : lk (tX0_putLeaf d mc ms P) 13 = oPush (.int 0) 14 := rfl
theorem lX0_putLeaf_14 : lk (tX0_putLeaf d mc ms P) 14 = oGoto 19 := rfl
theorem lX0_putLeaf_17 : lk (tX0_putLeaf d mc ms P) 17 = oPush (.int (-2)) 19 := rfl
theorem lX0_putLeaf_19 : lk (tX0_putLeaf d mc ms P) 19 = oSi 100 (fun x => x) 20 := rfl
theorem lX0_putLeaf_20 : lk (tX0_putLeaf d mc ms P) 20 = oRetV mc ms P := rfl
theorem lX0_joinPair_0 : lk (tX0_joinPair d mc ms P) 0 = oAld 0 1 := rfl
theorem lX0_joinPair_1 : lk (tX0_joinPair d mc ms P) 1 = oGr 0 0 4 := rfl
theorem lX0_joinPair_4 : lk (tX0_joinPair d mc ms P) 4 = oIld 1 5 := rfl
theorem lX0_joinPair_5 : lk (tX0_joinPair d mc ms P) 5 = oPush (.int 1) 6 := rfl
theorem lX0_joinPair_6 : lk (tX0_joinPair d mc ms P) 6 = oI2 (fun x y => x + y) 7 := rfl
theorem lX0_joinPair_7 : lk (tX0_joinPair d mc ms P) 7 = oAi 100 8 := rfl
theorem lX0_joinPair_8 : lk (tX0_joinPair d mc ms P) 8 = oIst 3 9 := rfl
theorem lX0_joinPair_9 : lk (tX0_joinPair d mc ms P) 9 = oAld 0 10 := rfl
theorem lX0_joinPair_10 : lk (tX0_joinPair d mc ms P) 10 = oGr 0 0 13 := rfl
theorem lX0_joinPair_13 : lk (tX0_joinPair d mc ms P) 13 = oIld 1 14 := rfl
theorem lX0_joinPair_14 : lk (tX0_joinPair d mc ms P) 14 = oAi 100 15 := rfl
theorem lX0_joinPair_15 : lk (tX0_joinPair d mc ms P) 15 = oIst 4 17 := rfl
theorem lX0_joinPair_17 : lk (tX0_joinPair d mc ms P) 17 = oIld 2 18 := rfl
theorem lX0_joinPair_18 : lk (tX0_joinPair d mc ms P) 18 = oPush (.int 307) 21 := rfl
theorem lX0_joinPair_21 : lk (tX0_joinPair d mc ms P) 21 = oIc (fun x y => x = y) 24 38 := rfl
theorem lX0_joinPair_24 : lk (tX0_joinPair d mc ms P) 24 = oAld 0 25 := rfl
theorem lX0_joinPair_25 : lk (tX0_joinPair d mc ms P) 25 = oGi 0 2 28 := rfl
theorem lX0_joinPair_28 : lk (tX0_joinPair d mc ms P) 28 = oPush (.int 300) 31 := rfl
theorem lX0_joinPair_31 : lk (tX0_joinPair d mc ms P) 31 = oIc (fun x y => x = y) 34 38 := rfl
theorem lX0_joinPair_34 : lk (tX0_joinPair d mc ms P) 34 = oPush (.int 1) 35 := rfl
theorem lX0_joinPair_35 : lk (tX0_joinPair d mc ms P) 35 = oGoto 39 := rfl
theorem lX0_joinPair_38 : lk (tX0_joinPair d mc ms P) 38 = oPush (.int 0) 39 := rfl
theorem lX0_joinPair_39 : lk (tX0_joinPair d mc ms P) 39 = oIst 5 41 := rfl
theorem lX0_joinPair_41 : lk (tX0_joinPair d mc ms P) 41 = oIld 3 42 := rfl
theorem lX0_joinPair_42 : lk (tX0_joinPair d mc ms P) 42 = oPush (.int (-2)) 44 := rfl
theorem lX0_joinPair_44 : lk (tX0_joinPair d mc ms P) 44 = oIc (fun x y => x = y) 47 65 := rfl
theorem lX0_joinPair_47 : lk (tX0_joinPair d mc ms P) 47 = oIld 4 49 := rfl
theorem lX0_joinPair_49 : lk (tX0_joinPair d mc ms P) 49 = oPush (.int (-2)) 51 := rfl
theorem lX0_joinPair_51 : lk (tX0_joinPair d mc ms P) 51 = oIc (fun x y => x = y) 54 65 := rfl
theorem lX0_joinPair_54 : lk (tX0_joinPair d mc ms P) 54 = oAld 0 55 := rfl
theorem lX0_joinPair_55 : lk (tX0_joinPair d mc ms P) 55 = oGr 0 0 58 := rfl
theorem lX0_joinPair_58 : lk (tX0_joinPair d mc ms P) 58 = oIld 1 59 := rfl
theorem lX0_joinPair_59 : lk (tX0_joinPair d mc ms P) 59 = oPush (.int (-2)) 61 := rfl
theorem lX0_joinPair_61 : lk (tX0_joinPair d mc ms P) 61 = oSi 100 (fun x => x) 62 := rfl
theorem lX0_joinPair_62 : lk (tX0_joinPair d mc ms P) 62 = oGoto 140 := rfl
theorem lX0_joinPair_65 : lk (tX0_joinPair d mc ms P) 65 = oIld 3 66 := rfl
theorem lX0_joinPair_66 : lk (tX0_joinPair d mc ms P) 66 = oIf (fun x => x < 0) 101 69 := rfl
theorem lX0_joinPair_69 : lk (tX0_joinPair d mc ms P) 69 = oIld 4 71 := rfl
theorem lX0_joinPair_71 : lk (tX0_joinPair d mc ms P) 71 = oPush (.int (-2)) 73 := rfl
theorem lX0_joinPair_73 : lk (tX0_joinPair d mc ms P) 73 = oIc (fun x y => x = y) 76 101 := rfl
theorem lX0_joinPair_76 : lk (tX0_joinPair d mc ms P) 76 = oIld 2 77 := rfl
theorem lX0_joinPair_77 : lk (tX0_joinPair d mc ms P) 77 = oAld 0 78 := rfl
theorem lX0_joinPair_78 : lk (tX0_joinPair d mc ms P) 78 = oGi 0 2 81 := rfl
theorem lX0_joinPair_81 : lk (tX0_joinPair d mc ms P) 81 = oIc (fun x y => x = y) 89 84 := rfl
theorem lX0_joinPair_84 : lk (tX0_joinPair d mc ms P) 84 = oIld 5 86 := rfl
theorem lX0_joinPair_86 : lk (tX0_joinPair d mc ms P) 86 = oIf (fun x => x = 0) 101 89 := rfl
theorem lX0_joinPair_89 : lk (tX0_joinPair d mc ms P) 89 = oAld 0 90 := rfl
theorem lX0_joinPair_90 : lk (tX0_joinPair d mc ms P) 90 = oGr 0 0 93 := rfl
theorem lX0_joinPair_93 : lk (tX0_joinPair d mc ms P) 93 = oIld 1 94 := rfl
theorem lX0_joinPair_94 : lk (tX0_joinPair d mc ms P) 94 = oIld 3 95 := rfl
theorem lX0_joinPair_95 : lk (tX0_joinPair d mc ms P) 95 = oPush (.int 1) 96 := rfl
set_option maxRecDepth 20000 in
theorem lX0_joinPair_96 : lk (tX0_joinPair d mc ms P) 96 = oI2 (fun x y => x + y) 97 := rfl
set_option maxRecDepth 20000 in
theorem lX0_joinPair_97 : lk (tX0_joinPair d mc ms P) 97 = oSi 100 (fun x => x) 98 := rfl
set_option maxRecDepth 20000 in
theorem lX0_joinPair_98 : lk (tX0_joinPair d mc ms P) 98 = oGoto 140 := rfl
set_option maxRecDepth 20000 in
theorem lX0_joinPair_101 : lk (tX0_joinPair d mc ms P) 101 = oIld 3 102 := rfl
set_option maxRecDepth 20000 in
theorem lX0_joinPair_102 : lk (tX0_joinPair d mc ms P) 102 = oPush (.int (-2)) 104 := rfl
set_option maxRecDepth 20000 in
theorem lX0_joinPair_104 : lk (tX0_joinPair d mc ms P) 104 = oIc (fun x y => x = y) 107 133 := rfl
set_option maxRecDepth 20000 in
theorem lX0_joinPair_107 : lk (tX0_joinPair d mc ms P) 107 = oIld 4 109 := rfl
set_option maxRecDepth 20000 in
theorem lX0_joinPair_109 : lk (tX0_joinPair d mc ms P) 109 = oIf (fun x => x < 0) 133 112 := rfl
set_option maxRecDepth 20000 in
theorem lX0_joinPair_112 : lk (tX0_joinPair d mc ms P) 112 = oIld 2 113 := rfl
set_option maxRecDepth 20000 in
theorem lX0_joinPair_113 : lk (tX0_joinPair d mc ms P) 113 = oAld 0 114 := rfl
set_option maxRecDepth 20000 in
theorem lX0_joinPair_114 : lk (tX0_joinPair d mc ms P) 114 = oGi 0 2 117 := rfl
set_option maxRecDepth 20000 in
theorem lX0_joinPair_117 : lk (tX0_joinPair d mc ms P) 117 = oIc (fun x y => x = y) 120 133 := rfl
set_option maxRecDepth 20000 in
theorem lX0_joinPair_120 : lk (tX0_joinPair d mc ms P) 120 = oAld 0 121 := rfl
set_option maxRecDepth 20000 in
theorem lX0_joinPair_121 : lk (tX0_joinPair d mc ms P) 121 = oGr 0 0 124 := rfl
set_option maxRecDepth 20000 in
theorem lX0_joinPair_124 : lk (tX0_joinPair d mc ms P) 124 = oIld 1 125 := rfl
set_option maxRecDepth 20000 in
theorem lX0_joinPair_125 : lk (tX0_joinPair d mc ms P) 125 = oIld 4 127 := rfl
set_option maxRecDepth 20000 in
theorem lX0_joinPair_127 : lk (tX0_joinPair d mc ms P) 127 = oPush (.int 1) 128 := rfl
set_option maxRecDepth 20000 in
theorem lX0_joinPair_128 : lk (tX0_joinPair d mc ms P) 128 = oI2 (fun x y => x + y) 129 := rfl
set_option maxRecDepth 20000 in
theorem lX0_joinPair_129 : lk (tX0_joinPair d mc ms P) 129 = oSi 100 (fun x => x) 130 := rfl
set_option maxRecDepth 20000 in
theorem lX0_joinPair_130 : lk (tX0_joinPair d mc ms P) 130 = oGoto 140 := rfl
set_option maxRecDepth 20000 in
theorem lX0_joinPair_133 : lk (tX0_joinPair d mc ms P) 133 = oAld 0 134 := rfl
set_option maxRecDepth 20000 in
theorem lX0_joinPair_134 : lk (tX0_joinPair d mc ms P) 134 = oGr 0 0 137 := rfl
set_option maxRecDepth 20000 in
theorem lX0_joinPair_137 : lk (tX0_joinPair d mc ms P) 137 = oIld 1 138 := rfl
set_option maxRecDepth 20000 in
theorem lX0_joinPair_138 : lk (tX0_joinPair d mc ms P) 138 = oPush (.int (-1)) 139 := rfl
set_option maxRecDepth 20000 in
theorem lX0_joinPair_139 : lk (tX0_joinPair d mc ms P) 139 = oSi 100 (fun x => x) 140 := rfl
set_option maxRecDepth 20000 in
theorem lX0_joinPair_140 : lk (tX0_joinPair d mc ms P) 140 = oRetV mc ms P := rfl
theorem lX0_joinChoice_0 : lk (tX0_joinChoice d mc ms P) 0 = oAld 0 1 := rfl
theorem lX0_joinChoice_1 : lk (tX0_joinChoice d mc ms P) 1 = oGr 0 0 4 := rfl
theorem lX0_joinChoice_4 : lk (tX0_joinChoice d mc ms P) 4 = oIld 1 5 := rfl
theorem lX0_joinChoice_5 : lk (tX0_joinChoice d mc ms P) 5 = oPush (.int 2) 6 := rfl
theorem lX0_joinChoice_6 : lk (tX0_joinChoice d mc ms P) 6 = oI2 (fun x y => x + y) 7 := rfl
theorem lX0_joinChoice_7 : lk (tX0_joinChoice d mc ms P) 7 = oAi 100 8 := rfl
theorem lX0_joinChoice_8 : lk (tX0_joinChoice d mc ms P) 8 = oIst 2 9 := rfl
theorem lX0_joinChoice_9 : lk (tX0_joinChoice d mc ms P) 9 = oAld 0 10 := rfl
theorem lX0_joinChoice_10 : lk (tX0_joinChoice d mc ms P) 10 = oGr 0 0 13 := rfl
theorem lX0_joinChoice_13 : lk (tX0_joinChoice d mc ms P) 13 = oIld 1 14 := rfl
theorem lX0_joinChoice_14 : lk (tX0_joinChoice d mc ms P) 14 = oPush (.int 1) 15 := rfl
theorem lX0_joinChoice_15 : lk (tX0_joinChoice d mc ms P) 15 = oI2 (fun x y => x + y) 16 := rfl
theorem lX0_joinChoice_16 : lk (tX0_joinChoice d mc ms P) 16 = oAi 100 17 := rfl
theorem lX0_joinChoice_17 : lk (tX0_joinChoice d mc ms P) 17 = oIst 3 18 := rfl
theorem lX0_joinChoice_18 : lk (tX0_joinChoice d mc ms P) 18 = oAld 0 19 := rfl
theorem lX0_joinChoice_19 : lk (tX0_joinChoice d mc ms P) 19 = oGr 0 0 22 := rfl
theorem lX0_joinChoice_22 : lk (tX0_joinChoice d mc ms P) 22 = oIld 1 23 := rfl
theorem lX0_joinChoice_23 : lk (tX0_joinChoice d mc ms P) 23 = oAi 100 24 := rfl
theorem lX0_joinChoice_24 : lk (tX0_joinChoice d mc ms P) 24 = oIst 4 26 := rfl
theorem lX0_joinChoice_26 : lk (tX0_joinChoice d mc ms P) 26 = oIld 2 27 := rfl
theorem lX0_joinChoice_27 : lk (tX0_joinChoice d mc ms P) 27 = oPush (.int (-2)) 29 := rfl
theorem lX0_joinChoice_29 : lk (tX0_joinChoice d mc ms P) 29 = oIc (fun x y => x = y) 32 56 := rfl
theorem lX0_joinChoice_32 : lk (tX0_joinChoice d mc ms P) 32 = oIld 3 33 := rfl
theorem lX0_joinChoice_33 : lk (tX0_joinChoice d mc ms P) 33 = oPush (.int (-2)) 35 := rfl
theorem lX0_joinChoice_35 : lk (tX0_joinChoice d mc ms P) 35 = oIc (fun x y => x = y) 38 56 := rfl
theorem lX0_joinChoice_38 : lk (tX0_joinChoice d mc ms P) 38 = oIld 4 40 := rfl
theorem lX0_joinChoice_40 : lk (tX0_joinChoice d mc ms P) 40 = oPush (.int (-2)) 42 := rfl
theorem lX0_joinChoice_42 : lk (tX0_joinChoice d mc ms P) 42 = oIc (fun x y => x = y) 45 56 := rfl
theorem lX0_joinChoice_45 : lk (tX0_joinChoice d mc ms P) 45 = oAld 0 46 := rfl
theorem lX0_joinChoice_46 : lk (tX0_joinChoice d mc ms P) 46 = oGr 0 0 49 := rfl
theorem lX0_joinChoice_49 : lk (tX0_joinChoice d mc ms P) 49 = oIld 1 50 := rfl
theorem lX0_joinChoice_50 : lk (tX0_joinChoice d mc ms P) 50 = oPush (.int (-2)) 52 := rfl
theorem lX0_joinChoice_52 : lk (tX0_joinChoice d mc ms P) 52 = oSi 100 (fun x => x) 53 := rfl
theorem lX0_joinChoice_53 : lk (tX0_joinChoice d mc ms P) 53 = oGoto 91 := rfl
theorem lX0_joinChoice_56 : lk (tX0_joinChoice d mc ms P) 56 = oIld 2 57 := rfl
theorem lX0_joinChoice_57 : lk (tX0_joinChoice d mc ms P) 57 = oPush (.int (-2)) 59 := rfl
theorem lX0_joinChoice_59 : lk (tX0_joinChoice d mc ms P) 59 = oIc (fun x y => x = y) 62 84 := rfl
theorem lX0_joinChoice_62 : lk (tX0_joinChoice d mc ms P) 62 = oIld 3 63 := rfl
theorem lX0_joinChoice_63 : lk (tX0_joinChoice d mc ms P) 63 = oIf (fun x => x < 0) 84 66 := rfl
theorem lX0_joinChoice_66 : lk (tX0_joinChoice d mc ms P) 66 = oIld 4 68 := rfl
theorem lX0_joinChoice_68 : lk (tX0_joinChoice d mc ms P) 68 = oIf (fun x => x < 0) 84 71 := rfl
theorem lX0_joinChoice_71 : lk (tX0_joinChoice d mc ms P) 71 = oAld 0 72 := rfl
theorem lX0_joinChoice_72 : lk (tX0_joinChoice d mc ms P) 72 = oGr 0 0 75 := rfl
theorem lX0_joinChoice_75 : lk (tX0_joinChoice d mc ms P) 75 = oIld 1 76 := rfl
theorem lX0_joinChoice_76 : lk (tX0_joinChoice d mc ms P) 76 = oIld 3 77 := rfl
theorem lX0_joinChoice_77 : lk (tX0_joinChoice d mc ms P) 77 = oIld 4 79 := rfl
theorem lX0_joinChoice_79 : lk (tX0_joinChoice d mc ms P) 79 = oI2 (fun x y => x + y) 80 := rfl
theorem lX0_joinChoice_80 : lk (tX0_joinChoice d mc ms P) 80 = oSi 100 (fun x => x) 81 := rfl
theorem lX0_joinChoice_81 : lk (tX0_joinChoice d mc ms P) 81 = oGoto 91 := rfl
theorem lX0_joinChoice_84 : lk (tX0_joinChoice d mc ms P) 84 = oAld 0 85 := rfl
theorem lX0_joinChoice_85 : lk (tX0_joinChoice d mc ms P) 85 = oGr 0 0 88 := rfl
set_option maxRecDepth 20000 in
theorem lX0_joinChoice_88 : lk (tX0_joinChoice d mc ms P) 88 = oIld 1 89 := rfl
set_option maxRecDepth 20000 in
theorem lX0_joinChoice_89 : lk (tX0_joinChoice d mc ms P) 89 = oPush (.int (-1)) 90 := rfl
set_option maxRecDepth 20000 in
theorem lX0_joinChoice_90 : lk (tX0_joinChoice d mc ms P) 90 = oSi 100 (fun x => x) 91 := rfl
set_option maxRecDepth 20000 in
theorem lX0_joinChoice_91 : lk (tX0_joinChoice d mc ms P) 91 = oRetV mc ms P := rfl
end
