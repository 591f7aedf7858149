/-! ===== changed values ===== -/
theorem z32 {x : UInt32} (h : x.toNat % 2 ^ 31 = 0) : x = 0 ∨ x = 2147483648 := by
  have h1 := x.toNat_lt
  by_cases e : x.toNat = 0
  · exact Or.inl (UInt32.toNat.inj e)
  · exact Or.inr (UInt32.toNat.inj (by show x.toNat = 2147483648; omega))
theorem z64 {x : UInt64} (h : x.toNat % 2 ^ 63 = 0) : x = 0 ∨ x = 9223372036854775808 := by
  have h1 := x.toNat_lt
  by_cases e : x.toNat = 0
  · exact Or.inl (UInt64.toNat.inj e)
  · exact Or.inr (UInt64.toNat.inj (by show x.toNat = 9223372036854775808; omega))
theorem f2d_z0 : FP.Core.f2d 0 = 0 := by decide +kernel
theorem f2d_z1 : FP.Core.f2d 2147483648 = 9223372036854775808 := by decide +kernel
theorem d2f_z0 : FP.Core.d2f 0 = 0 := by decide +kernel
theorem d2f_z1 : FP.Core.d2f 9223372036854775808 = 2147483648 := by decide +kernel
theorem fd_eq {x y : UInt32} (hx : Fn x) (hy : Fn y) : FP.dcmp (FP.f2d x) (FP.f2d y) = some .eq ↔ FP.fcmp x y = some .eq := by
  rw [f2d_eq hx, f2d_eq hy]
  have ek : FP.fcmp x y = some (compare (FP.Core.fkey x) (FP.Core.fkey y)) := FP.Core.fcmp_key hx.nn hy.nn
  have nx : FP.Core.val64 (FP.Core.f2d x) ≠ .nan := (FP.Core.f2d_fin hx).ne_nan
  have ny : FP.Core.val64 (FP.Core.f2d y) ≠ .nan := (FP.Core.f2d_fin hy).ne_nan
  have bx := FP.Core.d2f_f2d hx.nn
  have byy := FP.Core.d2f_f2d hy.nn
  constructor
  · intro h
    have h : FP.Core.dcmp (FP.Core.f2d x) (FP.Core.f2d y) = some .eq := h
    by_cases hz : FP.Core.DZero (FP.Core.f2d y)
    · have k := (FP.Core.dcmp_eq_key nx ny).mp h
      have zy := (FP.Core.zero_bits2 _).mp hz
      have zx : (FP.Core.f2d x).toNat % 2 ^ 63 = 0 := by
        unfold FP.Core.dkey at k
        have h1 := (FP.Core.f2d x).toNat_lt
        have h2 := (FP.Core.f2d y).toNat_lt
        split at k <;> split at k <;> omega
      have ax : x = 0 ∨ x = 2147483648 := by
        rcases z64 zx with e | e
        · rw [e, d2f_z0] at bx; exact Or.inl bx.symm
        · rw [e, d2f_z1] at bx; exact Or.inr bx.symm
      have ay : y = 0 ∨ y = 2147483648 := by
        rcases z64 zy with e | e
        · rw [e, d2f_z0] at byy; exact Or.inl byy.symm
        · rw [e, d2f_z1] at byy; exact Or.inr byy.symm
      rcases ax with rfl | rfl <;> rcases ay with rfl | rfl <;> decide +kernel
    · have e := FP.Core.eq_bits hz h
      rw [e, byy] at bx
      subst bx
      rw [ek]
      exact congrArg some ((FP.Core.compare_eq_iff _ _).mpr rfl)
  · intro h
    rw [ek] at h
    have e := (FP.Core.compare_eq_iff _ _).mp (Option.some.inj h)
    rcases (show ZR x y from ⟨hx, hy, e⟩).cases with rfl | ⟨⟨s, e1⟩, ⟨s', e2⟩⟩
    · exact FP.Core.dcmp_self nx
    · have a1 := z32 ((FP.Core.zero_bits232 x).mp ⟨s, _, e1⟩)
      have a2 := z32 ((FP.Core.zero_bits232 y).mp ⟨s', _, e2⟩)
      show FP.Core.dcmp (FP.Core.f2d x) (FP.Core.f2d y) = some .eq
      rcases a1 with rfl | rfl <;> rcases a2 with rfl | rfl <;> decide +kernel
theorem id_eq {x y : Int32} : FP.dcmp (FP.i2d x) (FP.i2d y) = some .eq ↔ x = y := by
  have e : FP.dcmp (FP.i2d x) (FP.i2d y) = some (compare x.toInt y.toInt) := FP.Core.dcmp_int (FP.Core.i2d_int x) (FP.Core.i2d_int y)
  rw [e]
  constructor
  · intro h; exact Int32.toInt_inj.mp ((FP.Core.compare_eq_iff _ _).mp (Option.some.inj h))
  · rintro rfl; exact congrArg some ((FP.Core.compare_eq_iff _ _).mpr rfl)
theorem f2d_i2f {x : Int32} (h : x.toInt.natAbs ≤ 2 ^ 24) : FP.f2d (FP.i2f x) = FP.i2d x := by
  rw [f2d_eq (i2f_fn x)]
  show FP.Core.f2d (FP.Core.i2f x) = FP.Core.i2d x
  rw [FP.Core.i2f_l2f, FP.Core.i2d_l2d]
  exact FP.Core.f2d_l2f (by rw [Int32.toInt_toInt64]; exact h)
def smI (_ : Nat → Int32) : Prop := True
def smF (ini : Nat → Int32) : Prop := ∀ v, v < 8 → (ini v).toInt.natAbs ≤ 2 ^ 24
def chgI (row : Nat → Int32) (ini : Nat → Int32) (v : Nat) : Bool := decide (¬ row v = ini v)
def chgF (row : Nat → UInt32) (ini : Nat → Int32) (v : Nat) : Bool := decide (¬ FP.fcmp (row v) (FP.i2f (ini v)) = some .eq)
section
variable {d : Nat} {P : PO} {I : Nat → Nat → Int32} {F : Nat → Nat → UInt32} {L : Nat → Nat → Int64} {D : Nat → Nat → UInt64} {pr : Nat} {sv : Option Nat}
variable {S : ST} {b n : Nat} {el : Nat → Nat → Int32} {ini : Nat → Int32} {red : Nat → Bool} {op : Nat → Nat}
theorem c_valueOfI (hd : 1 ≤ d) (hf : okI F) {t v : Nat} (ht : t < 18) (hv : v < 8) (h : P (.inl (some (.double (FP.i2d (I (25 + t) v))))) 150 (I, F, RR pr sv, L, D)) : CallOK d 0 0 yX4_valueOf (Cond.code yX4_valueOf cX4_valueOf 3 (some .double)) [.ref 23, .int (nI t), .int (nI v)] 150 (I, F, RR pr sv, L, D) P := by
  obtain ⟨re, se⟩ := rwI ht pr sv
  have me : 25 + t < 150 := by omega
  have ct := nI_clamp (n := t) (by omega)
  have it := vp_in_nI (n := t) (N := 18) (by omega) (by decide)
  have cv := nI_clamp (n := v) (by omega)
  have iv := vp_in_nI (n := v) (N := 8) (by omega) (by decide)
  obtain ⟨d, rfl⟩ : ∃ e, d = e + 1 := ⟨d - 1, by omega⟩
  refine iX4_valueOf (Nat.le_of_ble_eq_true rfl) (fun J hJ => ?_)
  refine hJ 40 (fun pc => false) _ _ _ _ _ ?_
  simp -implicitDefEqProofs only [lX4_valueOf_0, lX4_valueOf_1, lX4_valueOf_4, lX4_valueOf_5, lX4_valueOf_6, lX4_valueOf_7, lX4_valueOf_8, lX4_valueOf_9, wpS, ↓reduceIte, Bool.false_eq_true, false_and, and_false, cond_false, cond_true, Bool.cond_false, Bool.cond_true, oPush, oIld, oFld, oDld, oAld, oIst, oFst, oDst, oAst, oInc, oI2, oI2n, oF2, oD2, oF2d, oIcv, oFcmp, oDcmp, oLcmp, oDup, oDupx1, oPop, oIf, oIc, oGoto, oNonnull, oGi, oGi2, oGr, oGr2, oPi, oPi2, oPz, oPr, oPr2, oAi, oAf, oAl, oAd, oAr, oSi, oSf, oSl, oSd, oSr, oRetI, oRetZ, oRetC, oRetF, oRetD, oRetA, oRetV, oCallS, oCallV, recvP, oThrow, oSw, oDisp, dispA, lk, Nat.beq, oMm, oCopy, oAlen, oAcmp, entA, lset, lset2, Value.category, Nat.reduceEqDiff, Nat.reduceAdd, Nat.reduceLT, Nat.reduceLeDiff, Nat.reduceBEq, beq_self_eq_true, Bool.or_false, Bool.false_or, Bool.or_true, Bool.true_or, ite_false, ite_true, if_true, if_false, reduceIte, reduceCtorEq, Nat.le_refl, Nat.zero_le, and_true, true_and, true_or, or_true, and_self, implies_true, not_true_eq_false, not_false_eq_true, List.take, List.drop, List.reverse_cons, List.reverse_nil, List.nil_append, List.cons_append, List.length_cons, List.length_nil, List.map_cons, List.map_nil, List.sum_cons, List.sum_nil, Option.toList, va_rf, Nat.add_zero, Nat.zero_add, List.forall_mem_cons, List.not_mem_nil, or_false, false_implies, eq_self, true_implies, b2i_eq0, b2i_eq1, b2i_01, em_nn, cl_0, cl_1, cl_2, vin_0, vin_1, vin_2, u2_ap, r2_ap, Sum.inl.injEq, Option.some.injEq, Value.int.injEq, sh_23, rr_23_3, sh_24, re, se, me, ct, it, cv, iv]
  exact h
theorem c_countChangedI (hd : 2 ≤ d) (hR : RC I b S n el ini) (hf : okI F) (hm : smI ini) (h : P (.inl (some (.int (nI (cnt (chgI (I (25 + 16)) ini) 8))))) 150 (I, F, RR pr sv, L, D)) : CallOK d 0 0 yX5_countChanged (Cond.code yX5_countChanged cX5_countChanged 3 (some .int)) [.ref 23] 150 (I, F, RR pr sv, L, D) P := by
  obtain ⟨d, rfl⟩ : ∃ e, d = e + 1 := ⟨d - 1, by omega⟩
  refine iX5_countChanged (Nat.le_of_ble_eq_true rfl) (fun J hJ => ?_)
  refine hJ 40 (fun pc => pc == 4 || pc == 17 || pc == 34) _ _ _ _ _ ?_
  simp -implicitDefEqProofs only [lX5_countChanged_0, lX5_countChanged_1, lX5_countChanged_2, lX5_countChanged_3, lX5_countChanged_4, lX5_countChanged_5, lX5_countChanged_7, lX5_countChanged_10, lX5_countChanged_11, lX5_countChanged_13, lX5_countChanged_14, lX5_countChanged_17, lX5_countChanged_18, lX5_countChanged_21, lX5_countChanged_24, lX5_countChanged_25, lX5_countChanged_26, lX5_countChanged_27, lX5_countChanged_28, lX5_countChanged_31, lX5_countChanged_34, lX5_countChanged_37, lX5_countChanged_40, lX5_countChanged_41, wpS, ↓reduceIte, Bool.false_eq_true, false_and, and_false, cond_false, cond_true, Bool.cond_false, Bool.cond_true, oPush, oIld, oFld, oDld, oAld, oIst, oFst, oDst, oAst, oInc, oI2, oI2n, oF2, oD2, oF2d, oIcv, oFcmp, oDcmp, oLcmp, oDup, oDupx1, oPop, oIf, oIc, oGoto, oNonnull, oGi, oGi2, oGr, oGr2, oPi, oPi2, oPz, oPr, oPr2, oAi, oAf, oAl, oAd, oAr, oSi, oSf, oSl, oSd, oSr, oRetI, oRetZ, oRetC, oRetF, oRetD, oRetA, oRetV, oCallS, oCallV, recvP, oThrow, oSw, oDisp, dispA, lk, Nat.beq, oMm, oCopy, oAlen, oAcmp, entA, lset, lset2, Value.category, Nat.reduceEqDiff, Nat.reduceAdd, Nat.reduceLT, Nat.reduceLeDiff, Nat.reduceBEq, beq_self_eq_true, Bool.or_false, Bool.false_or, Bool.or_true, Bool.true_or, ite_false, ite_true, if_true, if_false, reduceIte, reduceCtorEq, Nat.le_refl, Nat.zero_le, and_true, true_and, true_or, or_true, and_self, implies_true, not_true_eq_false, not_false_eq_true, List.take, List.drop, List.reverse_cons, List.reverse_nil, List.nil_append, List.cons_append, List.length_cons, List.length_nil, List.map_cons, List.map_nil, List.sum_cons, List.sum_nil, Option.toList, va_rf, Nat.add_zero, Nat.zero_add, List.forall_mem_cons, List.not_mem_nil, or_false, false_implies, eq_self, true_implies, b2i_eq0, b2i_eq1, b2i_01, em_nn, cl_0, cl_1, cl_2, vin_0, vin_1, vin_2, u2_ap, r2_ap, Sum.inl.injEq, Option.some.injEq, Value.int.injEq, sh_23]
  have loop : ∀ (m v : Nat) (lv : LV), v + m = 8 → lv 0 = some (.ref 23) → lv 1 = some (.int (nI (cnt (chgI (I (25 + 16)) ini) v))) → lv 2 = some (.int (nI v)) → J 4 lv [] (150, 0, 0) (I, F, RR pr sv, L, D) := by
    intro m
    induction m with
    | zero =>
      intro v lv hv l0 l1 l2
      have : v = 8 := by omega
      subst this
      refine hJ 40 (fun pc => pc == 4 || pc == 17 || pc == 34) _ _ _ _ _ ?_
      simp -implicitDefEqProofs only [lX5_countChanged_0, lX5_countChanged_1, lX5_countChanged_2, lX5_countChanged_3, lX5_countChanged_4, lX5_countChanged_5, lX5_countChanged_7, lX5_countChanged_10, lX5_countChanged_11, lX5_countChanged_13, lX5_countChanged_14, lX5_countChanged_17, lX5_countChanged_18, lX5_countChanged_21, lX5_countChanged_24, lX5_countChanged_25, lX5_countChanged_26, lX5_countChanged_27, lX5_countChanged_28, lX5_countChanged_31, lX5_countChanged_34, lX5_countChanged_37, lX5_countChanged_40, lX5_countChanged_41, wpS, ↓reduceIte, Bool.false_eq_true, false_and, and_false, cond_false, cond_true, Bool.cond_false, Bool.cond_true, oPush, oIld, oFld, oDld, oAld, oIst, oFst, oDst, oAst, oInc, oI2, oI2n, oF2, oD2, oF2d, oIcv, oFcmp, oDcmp, oLcmp, oDup, oDupx1, oPop, oIf, oIc, oGoto, oNonnull, oGi, oGi2, oGr, oGr2, oPi, oPi2, oPz, oPr, oPr2, oAi, oAf, oAl, oAd, oAr, oSi, oSf, oSl, oSd, oSr, oRetI, oRetZ, oRetC, oRetF, oRetD, oRetA, oRetV, oCallS, oCallV, recvP, oThrow, oSw, oDisp, dispA, lk, Nat.beq, oMm, oCopy, oAlen, oAcmp, entA, lset, lset2, Value.category, Nat.reduceEqDiff, Nat.reduceAdd, Nat.reduceLT, Nat.reduceLeDiff, Nat.reduceBEq, beq_self_eq_true, Bool.or_false, Bool.false_or, Bool.or_true, Bool.true_or, ite_false, ite_true, if_true, if_false, reduceIte, reduceCtorEq, Nat.le_refl, Nat.zero_le, and_true, true_and, true_or, or_true, and_self, implies_true, not_true_eq_false, not_false_eq_true, List.take, List.drop, List.reverse_cons, List.reverse_nil, List.nil_append, List.cons_append, List.length_cons, List.length_nil, List.map_cons, List.map_nil, List.sum_cons, List.sum_nil, Option.toList, va_rf, Nat.add_zero, Nat.zero_add, List.forall_mem_cons, List.not_mem_nil, or_false, false_implies, eq_self, true_implies, b2i_eq0, b2i_eq1, b2i_01, em_nn, cl_0, cl_1, cl_2, vin_0, vin_1, vin_2, u2_ap, r2_ap, Sum.inl.injEq, Option.some.injEq, Value.int.injEq, l0, l1, l2]
      exact ⟨fun _ => h, fun w => absurd (nI_le (a := 8) (b := 8) (by omega) (by omega)) w⟩
    | succ m ih =>
      intro v lv hv l0 l1 l2
      have cv := nI_clamp (n := v) (by omega)
      have iv := vp_in_nI (n := v) (N := 8) (by omega) (by decide)
      have e16 := hR.2.2.2 v (by omega)
      have cs : cnt (chgI (I (25 + 16)) ini) (v + 1) = cnt (chgI (I (25 + 16)) ini) v + (if chgI (I (25 + 16)) ini v = true then 1 else 0) := rfl
      have j34 : ∀ (lv : LV), lv 0 = some (.ref 23) → lv 1 = some (.int (nI (cnt (chgI (I (25 + 16)) ini) (v + 1)))) → lv 2 = some (.int (nI v)) → J 34 lv [] (150, 0, 0) (I, F, RR pr sv, L, D) := by
        intro lv l0 l1 l2
        refine hJ 40 (fun pc => pc == 4 || pc == 17 || pc == 34) _ _ _ _ _ ?_
        simp -implicitDefEqProofs only [lX5_countChanged_0, lX5_countChanged_1, lX5_countChanged_2, lX5_countChanged_3, lX5_countChanged_4, lX5_countChanged_5, lX5_countChanged_7, lX5_countChanged_10, lX5_countChanged_11, lX5_countChanged_13, lX5_countChanged_14, lX5_countChanged_17, lX5_countChanged_18, lX5_countChanged_21, lX5_countChanged_24, lX5_countChanged_25, lX5_countChanged_26, lX5_countChanged_27, lX5_countChanged_28, lX5_countChanged_31, lX5_countChanged_34, lX5_countChanged_37, lX5_countChanged_40, lX5_countChanged_41, wpS, ↓reduceIte, Bool.false_eq_true, false_and, and_false, cond_false, cond_true, Bool.cond_false, Bool.cond_true, oPush, oIld, oFld, oDld, oAld, oIst, oFst, oDst, oAst, oInc, oI2, oI2n, oF2, oD2, oF2d, oIcv, oFcmp, oDcmp, oLcmp, oDup, oDupx1, oPop, oIf, oIc, oGoto, oNonnull, oGi, oGi2, oGr, oGr2, oPi, oPi2, oPz, oPr, oPr2, oAi, oAf, oAl, oAd, oAr, oSi, oSf, oSl, oSd, oSr, oRetI, oRetZ, oRetC, oRetF, oRetD, oRetA, oRetV, oCallS, oCallV, recvP, oThrow, oSw, oDisp, dispA, lk, Nat.beq, oMm, oCopy, oAlen, oAcmp, entA, lset, lset2, Value.category, Nat.reduceEqDiff, Nat.reduceAdd, Nat.reduceLT, Nat.reduceLeDiff, Nat.reduceBEq, beq_self_eq_true, Bool.or_false, Bool.false_or, Bool.or_true, Bool.true_or, ite_false, ite_true, if_true, if_false, reduceIte, reduceCtorEq, Nat.le_refl, Nat.zero_le, and_true, true_and, true_or, or_true, and_self, implies_true, not_true_eq_false, not_false_eq_true, List.take, List.drop, List.reverse_cons, List.reverse_nil, List.nil_append, List.cons_append, List.length_cons, List.length_nil, List.map_cons, List.map_nil, List.sum_cons, List.sum_nil, Option.toList, va_rf, Nat.add_zero, Nat.zero_add, List.forall_mem_cons, List.not_mem_nil, or_false, false_implies, eq_self, true_implies, b2i_eq0, b2i_eq1, b2i_01, em_nn, cl_0, cl_1, cl_2, vin_0, vin_1, vin_2, u2_ap, r2_ap, Sum.inl.injEq, Option.some.injEq, Value.int.injEq, l0, l1, l2]
        exact ih (v + 1) _ (by omega) (by simp [lset, lset2, Value.category, l0]) (by simp [lset, lset2, Value.category, l1]) (by simp [lset, lset2, Value.category, l2, nI_1])
      refine hJ 40 (fun pc => pc == 4 || pc == 17 || pc == 34) _ _ _ _ _ ?_
      simp -implicitDefEqProofs only [lX5_countChanged_0, lX5_countChanged_1, lX5_countChanged_2, lX5_countChanged_3, lX5_countChanged_4, lX5_countChanged_5, lX5_countChanged_7, lX5_countChanged_10, lX5_countChanged_11, lX5_countChanged_13, lX5_countChanged_14, lX5_countChanged_17, lX5_countChanged_18, lX5_countChanged_21, lX5_countChanged_24, lX5_countChanged_25, lX5_countChanged_26, lX5_countChanged_27, lX5_countChanged_28, lX5_countChanged_31, lX5_countChanged_34, lX5_countChanged_37, lX5_countChanged_40, lX5_countChanged_41, wpS, ↓reduceIte, Bool.false_eq_true, false_and, and_false, cond_false, cond_true, Bool.cond_false, Bool.cond_true, oPush, oIld, oFld, oDld, oAld, oIst, oFst, oDst, oAst, oInc, oI2, oI2n, oF2, oD2, oF2d, oIcv, oFcmp, oDcmp, oLcmp, oDup, oDupx1, oPop, oIf, oIc, oGoto, oNonnull, oGi, oGi2, oGr, oGr2, oPi, oPi2, oPz, oPr, oPr2, oAi, oAf, oAl, oAd, oAr, oSi, oSf, oSl, oSd, oSr, oRetI, oRetZ, oRetC, oRetF, oRetD, oRetA, oRetV, oCallS, oCallV, recvP, oThrow, oSw, oDisp, dispA, lk, Nat.beq, oMm, oCopy, oAlen, oAcmp, entA, lset, lset2, Value.category, Nat.reduceEqDiff, Nat.reduceAdd, Nat.reduceLT, Nat.reduceLeDiff, Nat.reduceBEq, beq_self_eq_true, Bool.or_false, Bool.false_or, Bool.or_true, Bool.true_or, ite_false, ite_true, if_true, if_false, reduceIte, reduceCtorEq, Nat.le_refl, Nat.zero_le, and_true, true_and, true_or, or_true, and_self, implies_true, not_true_eq_false, not_false_eq_true, List.take, List.drop, List.reverse_cons, List.reverse_nil, List.nil_append, List.cons_append, List.length_cons, List.length_nil, List.map_cons, List.map_nil, List.sum_cons, List.sum_nil, Option.toList, va_rf, Nat.add_zero, Nat.zero_add, List.forall_mem_cons, List.not_mem_nil, or_false, false_implies, eq_self, true_implies, b2i_eq0, b2i_eq1, b2i_01, em_nn, cl_0, cl_1, cl_2, vin_0, vin_1, vin_2, u2_ap, r2_ap, Sum.inl.injEq, Option.some.injEq, Value.int.injEq, l0, l1, l2, sh_23]
      refine ⟨fun w9 => absurd w9 (nI_ge (b := 8) (by omega) (by omega)), fun _ => ?_⟩
      refine c_valueOfI (t := 16) (v := v) (by omega) hf (by omega) (by omega) ?_
      simp only [Nat.add_zero, Nat.zero_add, true_and, and_true, Option.toList, List.nil_append, List.cons_append, List.append_nil, reduceCtorEq, and_self, List.drop, List.take, eq_self]
      refine hJ 40 (fun pc => pc == 4 || pc == 17 || pc == 34) _ _ _ _ _ ?_
      simp -implicitDefEqProofs only [lX5_countChanged_0, lX5_countChanged_1, lX5_countChanged_2, lX5_countChanged_3, lX5_countChanged_4, lX5_countChanged_5, lX5_countChanged_7, lX5_countChanged_10, lX5_countChanged_11, lX5_countChanged_13, lX5_countChanged_14, lX5_countChanged_17, lX5_countChanged_18, lX5_countChanged_21, lX5_countChanged_24, lX5_countChanged_25, lX5_countChanged_26, lX5_countChanged_27, lX5_countChanged_28, lX5_countChanged_31, lX5_countChanged_34, lX5_countChanged_37, lX5_countChanged_40, lX5_countChanged_41, wpS, ↓reduceIte, Bool.false_eq_true, false_and, and_false, cond_false, cond_true, Bool.cond_false, Bool.cond_true, oPush, oIld, oFld, oDld, oAld, oIst, oFst, oDst, oAst, oInc, oI2, oI2n, oF2, oD2, oF2d, oIcv, oFcmp, oDcmp, oLcmp, oDup, oDupx1, oPop, oIf, oIc, oGoto, oNonnull, oGi, oGi2, oGr, oGr2, oPi, oPi2, oPz, oPr, oPr2, oAi, oAf, oAl, oAd, oAr, oSi, oSf, oSl, oSd, oSr, oRetI, oRetZ, oRetC, oRetF, oRetD, oRetA, oRetV, oCallS, oCallV, recvP, oThrow, oSw, oDisp, dispA, lk, Nat.beq, oMm, oCopy, oAlen, oAcmp, entA, lset, lset2, Value.category, Nat.reduceEqDiff, Nat.reduceAdd, Nat.reduceLT, Nat.reduceLeDiff, Nat.reduceBEq, beq_self_eq_true, Bool.or_false, Bool.false_or, Bool.or_true, Bool.true_or, ite_false, ite_true, if_true, if_false, reduceIte, reduceCtorEq, Nat.le_refl, Nat.zero_le, and_true, true_and, true_or, or_true, and_self, implies_true, not_true_eq_false, not_false_eq_true, List.take, List.drop, List.reverse_cons, List.reverse_nil, List.nil_append, List.cons_append, List.length_cons, List.length_nil, List.map_cons, List.map_nil, List.sum_cons, List.sum_nil, Option.toList, va_rf, Nat.add_zero, Nat.zero_add, List.forall_mem_cons, List.not_mem_nil, or_false, false_implies, eq_self, true_implies, b2i_eq0, b2i_eq1, b2i_01, em_nn, cl_0, cl_1, cl_2, vin_0, vin_1, vin_2, u2_ap, r2_ap, Sum.inl.injEq, Option.some.injEq, Value.int.injEq, l0, l1, l2, sh_23, rr_23_0, sh_11, rr_11_3, sh_16, cv, iv, e16, cv_l_eq]
      have key : FP.dcmp (FP.i2d (I (25 + 16) v)) (FP.i2d (ini v)) = some .eq ↔ ¬ chgI (I (25 + 16)) ini v = true := by
        unfold chgI
        rw [decide_eq_true_eq, Classical.not_not]
        exact id_eq
      refine ⟨fun w => j34 _ (by simp [lset, lset2, Value.category, l0]) ?_ (by simp [lset, lset2, Value.category, l2]), fun w => j34 _ (by simp [lset, lset2, Value.category, l0]) ?_ (by simp [lset, lset2, Value.category, l2])⟩
      · rw [cs, if_neg (key.mp w)]; exact l1
      · have e : chgI (I (25 + 16)) ini v = true := Classical.not_not.mp (fun q => w (key.mpr q))
        rw [cs, if_pos e]
        simp [lset, l1, nI_1]
  exact loop 8 0 _ rfl rfl rfl rfl
theorem c_valueOfF (hd : 1 ≤ d) (hf : okF F) {t v : Nat} (ht : t < 18) (hv : v < 8) (h : P (.inl (some (.double (FP.f2d (F (46 + t) v))))) 150 (I, F, RR pr sv, L, D)) : CallOK d 0 0 yX2_valueOf (Cond.code yX2_valueOf cX2_valueOf 3 (some .double)) [.ref 44, .int (nI t), .int (nI v)] 150 (I, F, RR pr sv, L, D) P := by
  obtain ⟨re, se⟩ := rwF ht pr sv
  have me : 46 + t < 150 := by omega
  have ct := nI_clamp (n := t) (by omega)
  have it := vp_in_nI (n := t) (N := 18) (by omega) (by decide)
  have cv := nI_clamp (n := v) (by omega)
  have iv := vp_in_nI (n := v) (N := 8) (by omega) (by decide)
  obtain ⟨d, rfl⟩ : ∃ e, d = e + 1 := ⟨d - 1, by omega⟩
  refine iX2_valueOf (Nat.le_of_ble_eq_true rfl) (fun J hJ => ?_)
  refine hJ 40 (fun pc => false) _ _ _ _ _ ?_
  simp -implicitDefEqProofs only [lX2_valueOf_0, lX2_valueOf_1, lX2_valueOf_4, lX2_valueOf_5, lX2_valueOf_6, lX2_valueOf_7, lX2_valueOf_8, lX2_valueOf_9, wpS, ↓reduceIte, Bool.false_eq_true, false_and, and_false, cond_false, cond_true, Bool.cond_false, Bool.cond_true, oPush, oIld, oFld, oDld, oAld, oIst, oFst, oDst, oAst, oInc, oI2, oI2n, oF2, oD2, oF2d, oIcv, oFcmp, oDcmp, oLcmp, oDup, oDupx1, oPop, oIf, oIc, oGoto, oNonnull, oGi, oGi2, oGr, oGr2, oPi, oPi2, oPz, oPr, oPr2, oAi, oAf, oAl, oAd, oAr, oSi, oSf, oSl, oSd, oSr, oRetI, oRetZ, oRetC, oRetF, oRetD, oRetA, oRetV, oCallS, oCallV, recvP, oThrow, oSw, oDisp, dispA, lk, Nat.beq, oMm, oCopy, oAlen, oAcmp, entA, lset, lset2, Value.category, Nat.reduceEqDiff, Nat.reduceAdd, Nat.reduceLT, Nat.reduceLeDiff, Nat.reduceBEq, beq_self_eq_true, Bool.or_false, Bool.false_or, Bool.or_true, Bool.true_or, ite_false, ite_true, if_true, if_false, reduceIte, reduceCtorEq, Nat.le_refl, Nat.zero_le, and_true, true_and, true_or, or_true, and_self, implies_true, not_true_eq_false, not_false_eq_true, List.take, List.drop, List.reverse_cons, List.reverse_nil, List.nil_append, List.cons_append, List.length_cons, List.length_nil, List.map_cons, List.map_nil, List.sum_cons, List.sum_nil, Option.toList, va_rf, Nat.add_zero, Nat.zero_add, List.forall_mem_cons, List.not_mem_nil, or_false, false_implies, eq_self, true_implies, b2i_eq0, b2i_eq1, b2i_01, em_nn, cl_0, cl_1, cl_2, vin_0, vin_1, vin_2, u2_ap, r2_ap, Sum.inl.injEq, Option.some.injEq, Value.int.injEq, sh_44, rr_44_3, sh_45, re, se, me, ct, it, cv, iv]
  exact ⟨df_n64 (f2d_df (hf.1 t v ht hv)), h⟩
theorem c_countChangedF (hd : 2 ≤ d) (hR : RC I b S n el ini) (hf : okF F) (hm : smF ini) (h : P (.inl (some (.int (nI (cnt (chgF (F (46 + 16)) ini) 8))))) 150 (I, F, RR pr sv, L, D)) : CallOK d 0 0 yX5_countChanged (Cond.code yX5_countChanged cX5_countChanged 3 (some .int)) [.ref 44] 150 (I, F, RR pr sv, L, D) P := by
  obtain ⟨d, rfl⟩ : ∃ e, d = e + 1 := ⟨d - 1, by omega⟩
  refine iX5_countChanged (Nat.le_of_ble_eq_true rfl) (fun J hJ => ?_)
  refine hJ 40 (fun pc => pc == 4 || pc == 17 || pc == 34) _ _ _ _ _ ?_
  simp -implicitDefEqProofs only [lX5_countChanged_0, lX5_countChanged_1, lX5_countChanged_2, lX5_countChanged_3, lX5_countChanged_4, lX5_countChanged_5, lX5_countChanged_7, lX5_countChanged_10, lX5_countChanged_11, lX5_countChanged_13, lX5_countChanged_14, lX5_countChanged_17, lX5_countChanged_18, lX5_countChanged_21, lX5_countChanged_24, lX5_countChanged_25, lX5_countChanged_26, lX5_countChanged_27, lX5_countChanged_28, lX5_countChanged_31, lX5_countChanged_34, lX5_countChanged_37, lX5_countChanged_40, lX5_countChanged_41, wpS, ↓reduceIte, Bool.false_eq_true, false_and, and_false, cond_false, cond_true, Bool.cond_false, Bool.cond_true, oPush, oIld, oFld, oDld, oAld, oIst, oFst, oDst, oAst, oInc, oI2, oI2n, oF2, oD2, oF2d, oIcv, oFcmp, oDcmp, oLcmp, oDup, oDupx1, oPop, oIf, oIc, oGoto, oNonnull, oGi, oGi2, oGr, oGr2, oPi, oPi2, oPz, oPr, oPr2, oAi, oAf, oAl, oAd, oAr, oSi, oSf, oSl, oSd, oSr, oRetI, oRetZ, oRetC, oRetF, oRetD, oRetA, oRetV, oCallS, oCallV, recvP, oThrow, oSw, oDisp, dispA, lk, Nat.beq, oMm, oCopy, oAlen, oAcmp, entA, lset, lset2, Value.category, Nat.reduceEqDiff, Nat.reduceAdd, Nat.reduceLT, Nat.reduceLeDiff, Nat.reduceBEq, beq_self_eq_true, Bool.or_false, Bool.false_or, Bool.or_true, Bool.true_or, ite_false, ite_true, if_true, if_false, reduceIte, reduceCtorEq, Nat.le_refl, Nat.zero_le, and_true, true_and, true_or, or_true, and_self, implies_true, not_true_eq_false, not_false_eq_true, List.take, List.drop, List.reverse_cons, List.reverse_nil, List.nil_append, List.cons_append, List.length_cons, List.length_nil, List.map_cons, List.map_nil, List.sum_cons, List.sum_nil, Option.toList, va_rf, Nat.add_zero, Nat.zero_add, List.forall_mem_cons, List.not_mem_nil, or_false, false_implies, eq_self, true_implies, b2i_eq0, b2i_eq1, b2i_01, em_nn, cl_0, cl_1, cl_2, vin_0, vin_1, vin_2, u2_ap, r2_ap, Sum.inl.injEq, Option.some.injEq, Value.int.injEq, sh_44]
  have loop : ∀ (m v : Nat) (lv : LV), v + m = 8 → lv 0 = some (.ref 44) → lv 1 = some (.int (nI (cnt (chgF (F (46 + 16)) ini) v))) → lv 2 = some (.int (nI v)) → J 4 lv [] (150, 0, 0) (I, F, RR pr sv, L, D) := by
    intro m
    induction m with
    | zero =>
      intro v lv hv l0 l1 l2
      have : v = 8 := by omega
      subst this
      refine hJ 40 (fun pc => pc == 4 || pc == 17 || pc == 34) _ _ _ _ _ ?_
      simp -implicitDefEqProofs only [lX5_countChanged_0, lX5_countChanged_1, lX5_countChanged_2, lX5_countChanged_3, lX5_countChanged_4, lX5_countChanged_5, lX5_countChanged_7, lX5_countChanged_10, lX5_countChanged_11, lX5_countChanged_13, lX5_countChanged_14, lX5_countChanged_17, lX5_countChanged_18, lX5_countChanged_21, lX5_countChanged_24, lX5_countChanged_25, lX5_countChanged_26, lX5_countChanged_27, lX5_countChanged_28, lX5_countChanged_31, lX5_countChanged_34, lX5_countChanged_37, lX5_countChanged_40, lX5_countChanged_41, wpS, ↓reduceIte, Bool.false_eq_true, false_and, and_false, cond_false, cond_true, Bool.cond_false, Bool.cond_true, oPush, oIld, oFld, oDld, oAld, oIst, oFst, oDst, oAst, oInc, oI2, oI2n, oF2, oD2, oF2d, oIcv, oFcmp, oDcmp, oLcmp, oDup, oDupx1, oPop, oIf, oIc, oGoto, oNonnull, oGi, oGi2, oGr, oGr2, oPi, oPi2, oPz, oPr, oPr2, oAi, oAf, oAl, oAd, oAr, oSi, oSf, oSl, oSd, oSr, oRetI, oRetZ, oRetC, oRetF, oRetD, oRetA, oRetV, oCallS, oCallV, recvP, oThrow, oSw, oDisp, dispA, lk, Nat.beq, oMm, oCopy, oAlen, oAcmp, entA, lset, lset2, Value.category, Nat.reduceEqDiff, Nat.reduceAdd, Nat.reduceLT, Nat.reduceLeDiff, Nat.reduceBEq, beq_self_eq_true, Bool.or_false, Bool.false_or, Bool.or_true, Bool.true_or, ite_false, ite_true, if_true, if_false, reduceIte, reduceCtorEq, Nat.le_refl, Nat.zero_le, and_true, true_and, true_or, or_true, and_self, implies_true, not_true_eq_false, not_false_eq_true, List.take, List.drop, List.reverse_cons, List.reverse_nil, List.nil_append, List.cons_append, List.length_cons, List.length_nil, List.map_cons, List.map_nil, List.sum_cons, List.sum_nil, Option.toList, va_rf, Nat.add_zero, Nat.zero_add, List.forall_mem_cons, List.not_mem_nil, or_false, false_implies, eq_self, true_implies, b2i_eq0, b2i_eq1, b2i_01, em_nn, cl_0, cl_1, cl_2, vin_0, vin_1, vin_2, u2_ap, r2_ap, Sum.inl.injEq, Option.some.injEq, Value.int.injEq, l0, l1, l2]
      exact ⟨fun _ => h, fun w => absurd (nI_le (a := 8) (b := 8) (by omega) (by omega)) w⟩
    | succ m ih =>
      intro v lv hv l0 l1 l2
      have cv := nI_clamp (n := v) (by omega)
      have iv := vp_in_nI (n := v) (N := 8) (by omega) (by decide)
      have e16 := hR.2.2.2 v (by omega)
      have cs : cnt (chgF (F (46 + 16)) ini) (v + 1) = cnt (chgF (F (46 + 16)) ini) v + (if chgF (F (46 + 16)) ini v = true then 1 else 0) := rfl
      have j34 : ∀ (lv : LV), lv 0 = some (.ref 44) → lv 1 = some (.int (nI (cnt (chgF (F (46 + 16)) ini) (v + 1)))) → lv 2 = some (.int (nI v)) → J 34 lv [] (150, 0, 0) (I, F, RR pr sv, L, D) := by
        intro lv l0 l1 l2
        refine hJ 40 (fun pc => pc == 4 || pc == 17 || pc == 34) _ _ _ _ _ ?_
        simp -implicitDefEqProofs only [lX5_countChanged_0, lX5_countChanged_1, lX5_countChanged_2, lX5_countChanged_3, lX5_countChanged_4, lX5_countChanged_5, lX5_countChanged_7, lX5_countChanged_10, lX5_countChanged_11, lX5_countChanged_13, lX5_countChanged_14, lX5_countChanged_17, lX5_countChanged_18, lX5_countChanged_21, lX5_countChanged_24, lX5_countChanged_25, lX5_countChanged_26, lX5_countChanged_27, lX5_countChanged_28, lX5_countChanged_31, lX5_countChanged_34, lX5_countChanged_37, lX5_countChanged_40, lX5_countChanged_41, wpS, ↓reduceIte, Bool.false_eq_true, false_and, and_false, cond_false, cond_true, Bool.cond_false, Bool.cond_true, oPush, oIld, oFld, oDld, oAld, oIst, oFst, oDst, oAst, oInc, oI2, oI2n, oF2, oD2, oF2d, oIcv, oFcmp, oDcmp, oLcmp, oDup, oDupx1, oPop, oIf, oIc, oGoto, oNonnull, oGi, oGi2, oGr, oGr2, oPi, oPi2, oPz, oPr, oPr2, oAi, oAf, oAl, oAd, oAr, oSi, oSf, oSl, oSd, oSr, oRetI, oRetZ, oRetC, oRetF, oRetD, oRetA, oRetV, oCallS, oCallV, recvP, oThrow, oSw, oDisp, dispA, lk, Nat.beq, oMm, oCopy, oAlen, oAcmp, entA, lset, lset2, Value.category, Nat.reduceEqDiff, Nat.reduceAdd, Nat.reduceLT, Nat.reduceLeDiff, Nat.reduceBEq, beq_self_eq_true, Bool.or_false, Bool.false_or, Bool.or_true, Bool.true_or, ite_false, ite_true, if_true, if_false, reduceIte, reduceCtorEq, Nat.le_refl, Nat.zero_le, and_true, true_and, true_or, or_true, and_self, implies_true, not_true_eq_false, not_false_eq_true, List.take, List.drop, List.reverse_cons, List.reverse_nil, List.nil_append, List.cons_append, List.length_cons, List.length_nil, List.map_cons, List.map_nil, List.sum_cons, List.sum_nil, Option.toList, va_rf, Nat.add_zero, Nat.zero_add, List.forall_mem_cons, List.not_mem_nil, or_false, false_implies, eq_self, true_implies, b2i_eq0, b2i_eq1, b2i_01, em_nn, cl_0, cl_1, cl_2, vin_0, vin_1, vin_2, u2_ap, r2_ap, Sum.inl.injEq, Option.some.injEq, Value.int.injEq, l0, l1, l2]
        exact ih (v + 1) _ (by omega) (by simp [lset, lset2, Value.category, l0]) (by simp [lset, lset2, Value.category, l1]) (by simp [lset, lset2, Value.category, l2, nI_1])
      refine hJ 40 (fun pc => pc == 4 || pc == 17 || pc == 34) _ _ _ _ _ ?_
      simp -implicitDefEqProofs only [lX5_countChanged_0, lX5_countChanged_1, lX5_countChanged_2, lX5_countChanged_3, lX5_countChanged_4, lX5_countChanged_5, lX5_countChanged_7, lX5_countChanged_10, lX5_countChanged_11, lX5_countChanged_13, lX5_countChanged_14, lX5_countChanged_17, lX5_countChanged_18, lX5_countChanged_21, lX5_countChanged_24, lX5_countChanged_25, lX5_countChanged_26, lX5_countChanged_27, lX5_countChanged_28, lX5_countChanged_31, lX5_countChanged_34, lX5_countChanged_37, lX5_countChanged_40, lX5_countChanged_41, wpS, ↓reduceIte, Bool.false_eq_true, false_and, and_false, cond_false, cond_true, Bool.cond_false, Bool.cond_true, oPush, oIld, oFld, oDld, oAld, oIst, oFst, oDst, oAst, oInc, oI2, oI2n, oF2, oD2, oF2d, oIcv, oFcmp, oDcmp, oLcmp, oDup, oDupx1, oPop, oIf, oIc, oGoto, oNonnull, oGi, oGi2, oGr, oGr2, oPi, oPi2, oPz, oPr, oPr2, oAi, oAf, oAl, oAd, oAr, oSi, oSf, oSl, oSd, oSr, oRetI, oRetZ, oRetC, oRetF, oRetD, oRetA, oRetV, oCallS, oCallV, recvP, oThrow, oSw, oDisp, dispA, lk, Nat.beq, oMm, oCopy, oAlen, oAcmp, entA, lset, lset2, Value.category, Nat.reduceEqDiff, Nat.reduceAdd, Nat.reduceLT, Nat.reduceLeDiff, Nat.reduceBEq, beq_self_eq_true, Bool.or_false, Bool.false_or, Bool.or_true, Bool.true_or, ite_false, ite_true, if_true, if_false, reduceIte, reduceCtorEq, Nat.le_refl, Nat.zero_le, and_true, true_and, true_or, or_true, and_self, implies_true, not_true_eq_false, not_false_eq_true, List.take, List.drop, List.reverse_cons, List.reverse_nil, List.nil_append, List.cons_append, List.length_cons, List.length_nil, List.map_cons, List.map_nil, List.sum_cons, List.sum_nil, Option.toList, va_rf, Nat.add_zero, Nat.zero_add, List.forall_mem_cons, List.not_mem_nil, or_false, false_implies, eq_self, true_implies, b2i_eq0, b2i_eq1, b2i_01, em_nn, cl_0, cl_1, cl_2, vin_0, vin_1, vin_2, u2_ap, r2_ap, Sum.inl.injEq, Option.some.injEq, Value.int.injEq, l0, l1, l2, sh_44]
      refine ⟨fun w9 => absurd w9 (nI_ge (b := 8) (by omega) (by omega)), fun _ => ?_⟩
      refine c_valueOfF (t := 16) (v := v) (by omega) hf (by omega) (by omega) ?_
      simp only [Nat.add_zero, Nat.zero_add, true_and, and_true, Option.toList, List.nil_append, List.cons_append, List.append_nil, reduceCtorEq, and_self, List.drop, List.take, eq_self]
      refine hJ 40 (fun pc => pc == 4 || pc == 17 || pc == 34) _ _ _ _ _ ?_
      simp -implicitDefEqProofs only [lX5_countChanged_0, lX5_countChanged_1, lX5_countChanged_2, lX5_countChanged_3, lX5_countChanged_4, lX5_countChanged_5, lX5_countChanged_7, lX5_countChanged_10, lX5_countChanged_11, lX5_countChanged_13, lX5_countChanged_14, lX5_countChanged_17, lX5_countChanged_18, lX5_countChanged_21, lX5_countChanged_24, lX5_countChanged_25, lX5_countChanged_26, lX5_countChanged_27, lX5_countChanged_28, lX5_countChanged_31, lX5_countChanged_34, lX5_countChanged_37, lX5_countChanged_40, lX5_countChanged_41, wpS, ↓reduceIte, Bool.false_eq_true, false_and, and_false, cond_false, cond_true, Bool.cond_false, Bool.cond_true, oPush, oIld, oFld, oDld, oAld, oIst, oFst, oDst, oAst, oInc, oI2, oI2n, oF2, oD2, oF2d, oIcv, oFcmp, oDcmp, oLcmp, oDup, oDupx1, oPop, oIf, oIc, oGoto, oNonnull, oGi, oGi2, oGr, oGr2, oPi, oPi2, oPz, oPr, oPr2, oAi, oAf, oAl, oAd, oAr, oSi, oSf, oSl, oSd, oSr, oRetI, oRetZ, oRetC, oRetF, oRetD, oRetA, oRetV, oCallS, oCallV, recvP, oThrow, oSw, oDisp, dispA, lk, Nat.beq, oMm, oCopy, oAlen, oAcmp, entA, lset, lset2, Value.category, Nat.reduceEqDiff, Nat.reduceAdd, Nat.reduceLT, Nat.reduceLeDiff, Nat.reduceBEq, beq_self_eq_true, Bool.or_false, Bool.false_or, Bool.or_true, Bool.true_or, ite_false, ite_true, if_true, if_false, reduceIte, reduceCtorEq, Nat.le_refl, Nat.zero_le, and_true, true_and, true_or, or_true, and_self, implies_true, not_true_eq_false, not_false_eq_true, List.take, List.drop, List.reverse_cons, List.reverse_nil, List.nil_append, List.cons_append, List.length_cons, List.length_nil, List.map_cons, List.map_nil, List.sum_cons, List.sum_nil, Option.toList, va_rf, Nat.add_zero, Nat.zero_add, List.forall_mem_cons, List.not_mem_nil, or_false, false_implies, eq_self, true_implies, b2i_eq0, b2i_eq1, b2i_01, em_nn, cl_0, cl_1, cl_2, vin_0, vin_1, vin_2, u2_ap, r2_ap, Sum.inl.injEq, Option.some.injEq, Value.int.injEq, l0, l1, l2, sh_44, rr_44_0, sh_11, rr_11_3, sh_16, cv, iv, e16, cv_l_eq]
      have key : FP.dcmp (FP.f2d (F (46 + 16) v)) (FP.i2d (ini v)) = some .eq ↔ ¬ chgF (F (46 + 16)) ini v = true := by
        unfold chgF
        rw [decide_eq_true_eq, Classical.not_not]
        rw [← f2d_i2f (hm v (by omega))]; exact fd_eq (hf.1 16 v (by omega) (by omega)) (i2f_fn _)
      refine ⟨fun w => j34 _ (by simp [lset, lset2, Value.category, l0]) ?_ (by simp [lset, lset2, Value.category, l2]), fun w => j34 _ (by simp [lset, lset2, Value.category, l0]) ?_ (by simp [lset, lset2, Value.category, l2])⟩
      · rw [cs, if_neg (key.mp w)]; exact l1
      · have e : chgF (F (46 + 16)) ini v = true := Classical.not_not.mp (fun q => w (key.mpr q))
        rw [cs, if_pos e]
        simp [lset, l1, nI_1]
  exact loop 8 0 _ rfl rfl rfl rfl
end
