section
variable {d mc ms : Nat} {P : PO}
theorem lX1_copyFrom_0 : lk (tX1_copyFrom d mc ms P) 0 = oAld 0 1 := rfl
theorem lX1_copyFrom_1 : lk (tX1_copyFrom d mc ms P) 1 = oAld 1 2 := rfl
theorem lX1_copyFrom_2 : lk (tX1_copyFrom d mc ms P) 2 = oGi 1 0 5 := rfl
theorem lX1_copyFrom_5 : lk (tX1_copyFrom d mc ms P) 5 = oPi 1 0 8 := rfl
theorem lX1_copyFrom_8 : lk (tX1_copyFrom d mc ms P) 8 = oAld 0 9 := rfl
theorem lX1_copyFrom_9 : lk (tX1_copyFrom d mc ms P) 9 = oAld 1 10 := rfl
theorem lX1_copyFrom_10 : lk (tX1_copyFrom d mc ms P) 10 = oGi 1 1 13 := rfl
theorem lX1_copyFrom_13 : lk (tX1_copyFrom d mc ms P) 13 = oPi 1 1 16 := rfl
theorem lX1_copyFrom_16 : lk (tX1_copyFrom d mc ms P) 16 = oPush (.int 0) 17 := rfl
theorem lX1_copyFrom_17 : lk (tX1_copyFrom d mc ms P) 17 = oIst 2 18 := rfl
theorem lX1_copyFrom_18 : lk (tX1_copyFrom d mc ms P) 18 = oIld 2 19 := rfl
theorem lX1_copyFrom_19 : lk (tX1_copyFrom d mc ms P) 19 = oPush (.int 3) 20 := rfl
theorem lX1_copyFrom_20 : lk (tX1_copyFrom d mc ms P) 20 = oIc (fun x y => y ≤ x) 48 23 := rfl
theorem lX1_copyFrom_23 : lk (tX1_copyFrom d mc ms P) 23 = oAld 1 24 := rfl
theorem lX1_copyFrom_24 : lk (tX1_copyFrom d mc ms P) 24 = oGr 1 2 27 := rfl
theorem lX1_copyFrom_27 : lk (tX1_copyFrom d mc ms P) 27 = oIld 2 28 := rfl
theorem lX1_copyFrom_28 : lk (tX1_copyFrom d mc ms P) 28 = oAr 106 29 := rfl
theorem lX1_copyFrom_29 : lk (tX1_copyFrom d mc ms P) 29 = oPush (.int 0) 30 := rfl
theorem lX1_copyFrom_30 : lk (tX1_copyFrom d mc ms P) 30 = oAld 0 31 := rfl
theorem lX1_copyFrom_31 : lk (tX1_copyFrom d mc ms P) 31 = oGr 1 2 34 := rfl
theorem lX1_copyFrom_34 : lk (tX1_copyFrom d mc ms P) 34 = oIld 2 35 := rfl
theorem lX1_copyFrom_35 : lk (tX1_copyFrom d mc ms P) 35 = oAr 106 36 := rfl
theorem lX1_copyFrom_36 : lk (tX1_copyFrom d mc ms P) 36 = oPush (.int 0) 37 := rfl
theorem lX1_copyFrom_37 : lk (tX1_copyFrom d mc ms P) 37 = oPush (.int 16) 39 := rfl
theorem lX1_copyFrom_39 : lk (tX1_copyFrom d mc ms P) 39 = oCopy 42 := rfl
theorem lX1_copyFrom_42 : lk (tX1_copyFrom d mc ms P) 42 = oInc 2 1 45 := rfl
theorem lX1_copyFrom_45 : lk (tX1_copyFrom d mc ms P) 45 = oGoto 18 := rfl
theorem lX1_copyFrom_48 : lk (tX1_copyFrom d mc ms P) 48 = oAld 1 49 := rfl
theorem lX1_copyFrom_49 : lk (tX1_copyFrom d mc ms P) 49 = oGr 1 3 52 := rfl
theorem lX1_copyFrom_52 : lk (tX1_copyFrom d mc ms P) 52 = oPush (.int 0) 53 := rfl
theorem lX1_copyFrom_53 : lk (tX1_copyFrom d mc ms P) 53 = oAld 0 54 := rfl
theorem lX1_copyFrom_54 : lk (tX1_copyFrom d mc ms P) 54 = oGr 1 3 57 := rfl
theorem lX1_copyFrom_57 : lk (tX1_copyFrom d mc ms P) 57 = oPush (.int 0) 58 := rfl
theorem lX1_copyFrom_58 : lk (tX1_copyFrom d mc ms P) 58 = oPush (.int 8) 60 := rfl
theorem lX1_copyFrom_60 : lk (tX1_copyFrom d mc ms P) 60 = oCopy 63 := rfl
theorem lX1_copyFrom_63 : lk (tX1_copyFrom d mc ms P) 63 = oRetV mc ms P := rfl
end
