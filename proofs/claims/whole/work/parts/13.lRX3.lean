section
variable {d mc ms : Nat} {P : PO}
theorem lX3_heightOf_0 : lk (tX3_heightOf d mc ms P) 0 = oAld 0 1 := rfl
theorem lX3_heightOf_1 : lk (tX3_heightOf d mc ms P) 1 = oAld 1 2 := rfl
theorem lX3_heightOf_2 : lk (tX3_heightOf d mc ms P) 2 = oPush (.int 0) 3 := rfl
theorem lX3_heightOf_3 : lk (tX3_heightOf d mc ms P) 3 = oIld 2 4 := rfl
theorem lX3_heightOf_4 : lk (tX3_heightOf d mc ms P) 4 = oCallV d mc ms P 0 0 yX8_walk (Cond.code yX8_walk cX8_walk 9 none) 3 3 7 := rfl
theorem lX3_heightOf_7 : lk (tX3_heightOf d mc ms P) 7 = oAld 0 8 := rfl
theorem lX3_heightOf_8 : lk (tX3_heightOf d mc ms P) 8 = oGr 3 0 11 := rfl
theorem lX3_heightOf_11 : lk (tX3_heightOf d mc ms P) 11 = oPush (.int 0) 12 := rfl
theorem lX3_heightOf_12 : lk (tX3_heightOf d mc ms P) 12 = oAi 100 13 := rfl
theorem lX3_heightOf_13 : lk (tX3_heightOf d mc ms P) 13 = oRetI mc ms P := rfl
theorem lX3_putLeaf_0 : lk (tX3_putLeaf d mc ms P) 0 = oAld 0 1 := rfl
theorem lX3_putLeaf_1 : lk (tX3_putLeaf d mc ms P) 1 = oGr 3 0 4 := rfl
theorem lX3_putLeaf_4 : lk (tX3_putLeaf d mc ms P) 4 = oIld 1 5 := rfl
theorem lX3_putLeaf_5 : lk (tX3_putLeaf d mc ms P) 5 = oPush (.int 1) 6 := rfl
theorem lX3_putLeaf_6 : lk (tX3_putLeaf d mc ms P) 6 = oSi 100 (fun x => x) 7 := rfl
theorem lX3_putLeaf_7 : lk (tX3_putLeaf d mc ms P) 7 = oRetV mc ms P := rfl
theorem lX3_joinPair_0 : lk (tX3_joinPair d mc ms P) 0 = oAld 0 1 := rfl
theorem lX3_joinPair_1 : lk (tX3_joinPair d mc ms P) 1 = oGr 3 0 4 := rfl
theorem lX3_joinPair_4 : lk (tX3_joinPair d mc ms P) 4 = oIld 1 5 := rfl
theorem lX3_joinPair_5 : lk (tX3_joinPair d mc ms P) 5 = oPush (.int 1) 6 := rfl
theorem lX3_joinPair_6 : lk (tX3_joinPair d mc ms P) 6 = oAld 0 7 := rfl
theorem lX3_joinPair_7 : lk (tX3_joinPair d mc ms P) 7 = oGr 3 0 10 := rfl
theorem lX3_joinPair_10 : lk (tX3_joinPair d mc ms P) 10 = oIld 1 11 := rfl
theorem lX3_joinPair_11 : lk (tX3_joinPair d mc ms P) 11 = oAi 100 12 := rfl
theorem lX3_joinPair_12 : lk (tX3_joinPair d mc ms P) 12 = oAld 0 13 := rfl
theorem lX3_joinPair_13 : lk (tX3_joinPair d mc ms P) 13 = oGr 3 0 16 := rfl
theorem lX3_joinPair_16 : lk (tX3_joinPair d mc ms P) 16 = oIld 1 17 := rfl
theorem lX3_joinPair_17 : lk (tX3_joinPair d mc ms P) 17 = oPush (.int 1) 18 := rfl
theorem lX3_joinPair_18 : lk (tX3_joinPair d mc ms P) 18 = oI2 (fun x y => x + y) 19 := rfl
theorem lX3_joinPair_19 : lk (tX3_joinPair d mc ms P) 19 = oAi 100 20 := rfl
theorem lX3_joinPair_20 : lk (tX3_joinPair d mc ms P) 20 = oMm (fun x y => if x < y then y else x) mc ms 23 := rfl
theorem lX3_joinPair_23 : lk (tX3_joinPair d mc ms P) 23 = oI2 (fun x y => x + y) 24 := rfl
theorem lX3_joinPair_24 : lk (tX3_joinPair d mc ms P) 24 = oSi 100 (fun x => x) 25 := rfl
theorem lX3_joinPair_25 : lk (tX3_joinPair d mc ms P) 25 = oRetV mc ms P := rfl
theorem lX3_joinChoice_0 : lk (tX3_joinChoice d mc ms P) 0 = oAld 0 1 := rfl
theorem lX3_joinChoice_1 : lk (tX3_joinChoice d mc ms P) 1 = oGr 3 0 4 := rfl
theorem lX3_joinChoice_4 : lk (tX3_joinChoice d mc ms P) 4 = oIld 1 5 := rfl
theorem lX3_joinChoice_5 : lk (tX3_joinChoice d mc ms P) 5 = oPush (.int 1) 6 := rfl
theorem lX3_joinChoice_6 : lk (tX3_joinChoice d mc ms P) 6 = oAld 0 7 := rfl
theorem lX3_joinChoice_7 : lk (tX3_joinChoice d mc ms P) 7 = oGr 3 0 10 := rfl
theorem lX3_joinChoice_10 : lk (tX3_joinChoice d mc ms P) 10 = oIld 1 11 := rfl
theorem lX3_joinChoice_11 : lk (tX3_joinChoice d mc ms P) 11 = oAi 100 12 := rfl
theorem lX3_joinChoice_12 : lk (tX3_joinChoice d mc ms P) 12 = oAld 0 13 := rfl
theorem lX3_joinChoice_13 : lk (tX3_joinChoice d mc ms P) 13 = oGr 3 0 16 := rfl
theorem lX3_joinChoice_16 : lk (tX3_joinChoice d mc ms P) 16 = oIld 1 17 := rfl
theorem lX3_joinChoice_17 : lk (tX3_joinChoice d mc ms P) 17 = oPush (.int 1) 18 := rfl
theorem lX3_joinChoice_18 : lk (tX3_joinChoice d mc ms P) 18 = oI2 (fun x y => x + y) 19 := rfl
theorem lX3_joinChoice_19 : lk (tX3_joinChoice d mc ms P) 19 = oAi 100 20 := rfl
theorem lX3_joinChoice_20 : lk (tX3_joinChoice d mc ms P) 20 = oAld 0 21 := rfl
theorem lX3_joinChoice_21 : lk (tX3_joinChoice d mc ms P) 21 = oGr 3 0 24 := rfl
theorem lX3_joinChoice_24 : lk (tX3_joinChoice d mc ms P) 24 = oIld 1 25 := rfl
theorem lX3_joinChoice_25 : lk (tX3_joinChoice d mc ms P) 25 = oPush (.int 2) 26 := rfl
theorem lX3_joinChoice_26 : lk (tX3_joinChoice d mc ms P) 26 = oI2 (fun x y => x + y) 27 := rfl
theorem lX3_joinChoice_27 : lk (tX3_joinChoice d mc ms P) 27 = oAi 100 28 := rfl
theorem lX3_joinChoice_28 : lk (tX3_joinChoice d mc ms P) 28 = oMm (fun x y => if x < y then y else x) mc ms 31 := rfl
theorem lX3_joinChoice_31 : lk (tX3_joinChoice d mc ms P) 31 = oMm (fun x y => if x < y then y else x) mc ms 34 := rfl
theorem lX3_joinChoice_34 : lk (tX3_joinChoice d mc ms P) 34 = oI2 (fun x y => x + y) 35 := rfl
theorem lX3_joinChoice_35 : lk (tX3_joinChoice d mc ms P) 35 = oSi 100 (fun x => x) 36 := rfl
theorem lX3_joinChoice_36 : lk (tX3_joinChoice d mc ms P) 36 = oRetV mc ms P := rfl
end
