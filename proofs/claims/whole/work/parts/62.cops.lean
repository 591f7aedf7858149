/-! ===== the machines' own operations ===== -/
theorem rw_all (pr : Nat) (sv : Option Nat) : ∀ (t : Nat), t < 18 → RR pr sv 24 t = some (25 + t) ∧ shp (25 + t) = (100, 8) ∧ RR pr sv 45 t = some (46 + t) ∧ shp (46 + t) = (104, 8)
  | 0, _ => ⟨rfl, rfl, rfl, rfl⟩
  | 1, _ => ⟨rfl, rfl, rfl, rfl⟩
  | 2, _ => ⟨rfl, rfl, rfl, rfl⟩
  | 3, _ => ⟨rfl, rfl, rfl, rfl⟩
  | 4, _ => ⟨rfl, rfl, rfl, rfl⟩
  | 5, _ => ⟨rfl, rfl, rfl, rfl⟩
  | 6, _ => ⟨rfl, rfl, rfl, rfl⟩
  | 7, _ => ⟨rfl, rfl, rfl, rfl⟩
  | 8, _ => ⟨rfl, rfl, rfl, rfl⟩
  | 9, _ => ⟨rfl, rfl, rfl, rfl⟩
  | 10, _ => ⟨rfl, rfl, rfl, rfl⟩
  | 11, _ => ⟨rfl, rfl, rfl, rfl⟩
  | 12, _ => ⟨rfl, rfl, rfl, rfl⟩
  | 13, _ => ⟨rfl, rfl, rfl, rfl⟩
  | 14, _ => ⟨rfl, rfl, rfl, rfl⟩
  | 15, _ => ⟨rfl, rfl, rfl, rfl⟩
  | 16, _ => ⟨rfl, rfl, rfl, rfl⟩
  | 17, _ => ⟨rfl, rfl, rfl, rfl⟩
  | t + 18, h => absurd h (by omega)
theorem rwI {t : Nat} (h : t < 18) (pr : Nat) (sv : Option Nat) : RR pr sv 24 t = some (25 + t) ∧ shp (25 + t) = (100, 8) := ⟨(rw_all pr sv t h).1, (rw_all pr sv t h).2.1⟩
theorem rwF {t : Nat} (h : t < 18) (pr : Nat) (sv : Option Nat) : RR pr sv 45 t = some (46 + t) ∧ shp (46 + t) = (104, 8) := (rw_all pr sv t h).2.2
theorem rw_el (pr : Nat) (sv : Option Nat) : ∀ (a : Nat), a < 3 → RR pr sv 12 a = some (13 + a) ∧ shp (13 + a) = (100, 16)
  | 0, _ => ⟨rfl, rfl⟩
  | 1, _ => ⟨rfl, rfl⟩
  | 2, _ => ⟨rfl, rfl⟩
  | a + 3, h => absurd h (by omega)
theorem mn_eq (x y : Int32) : (if y < x then y else x) = if x < y then x else y := by
  by_cases h : x < y
  · rw [if_pos h, if_neg (Int32.not_lt.mpr (Int32.le_of_lt h))]
  · rw [if_neg h]
    by_cases h2 : y < x
    · rw [if_pos h2]
    · rw [if_neg h2]; exact Int32.le_antisymm (Int32.not_lt.mp h2) (Int32.not_lt.mp h)
theorem mx_eq (x y : Int32) : (if x < y then y else x) = if y < x then x else y := by
  by_cases h : y < x
  · rw [if_pos h, if_neg (Int32.not_lt.mpr (Int32.le_of_lt h))]
  · rw [if_neg h]
    by_cases h2 : x < y
    · rw [if_pos h2]
    · rw [if_neg h2]; exact Int32.le_antisymm (Int32.not_lt.mp h) (Int32.not_lt.mp h2)
theorem fcmp_some {x y : UInt32} (hx : Fn x) (hy : Fn y) : FP.fcmp x y ≠ none := by
  have e : FP.fcmp x y = some (compare (FP.Core.fkey x) (FP.Core.fkey y)) := FP.Core.fcmp_key hx.nn hy.nn
  rw [e]; exact fun q => by cases q
theorem cv_g_gt {o : Option Ordering} (h : o ≠ none) : 0 < Op.cmpValue o .g ↔ o = some .gt := by rcases o with _ | (_ | _ | _) <;> first | exact absurd rfl h | decide
theorem cv_l_lt {o : Option Ordering} (h : o ≠ none) : Op.cmpValue o .l < 0 ↔ o = some .lt := by rcases o with _ | (_ | _ | _) <;> first | exact absurd rfl h | decide
/-- the machine's floats are finite -/
def okI (_ : Nat → Nat → UInt32) : Prop := True
def okF (F : Nat → Nat → UInt32) : Prop := (∀ t v, t < 18 → v < 8 → Fn (F (46 + t) v)) ∧ ∀ j, Fn (F 64 j)
def nbI (_ : ST) : Prop := True
def nbF (S : ST) : Prop := ¬ bts S
def opkI (_ : Nat) : Prop := True
def opkF (k : Nat) : Prop := k ≠ 2 ∧ k ≠ 3 ∧ k ≠ 4
section
variable {d : Nat} {P : PO} {I : Nat → Nat → Int32} {F : Nat → Nat → UInt32} {L : Nat → Nat → Int64} {D : Nat → Nat → UInt64} {pr : Nat} {sv : Option Nat}
theorem c_calculateI (hd : 1 ≤ d) {k : Nat} (hk : k < 8) (_ : opkI k) {x y : Int32} (_ : okI F) {n : Nat} {M : PM} (h : P (.inl (some (.int (iby k x y)))) n M) : CallOK d 0 0 yX4_calculate (Cond.code yX4_calculate cX4_calculate 3 (some .int)) [.int (nI (300 + k)), .int x, .int y] n M P := by
  have e0 : nI (300 + k) = 300 ↔ k = 0 := by rw [show (300 : Int32) = nI 300 from rfl, nI_eq (by omega) (by omega)]; omega
  have e1 : nI (300 + k) = 301 ↔ k = 1 := by rw [show (301 : Int32) = nI 301 from rfl, nI_eq (by omega) (by omega)]; omega
  have e2 : nI (300 + k) = 302 ↔ k = 2 := by rw [show (302 : Int32) = nI 302 from rfl, nI_eq (by omega) (by omega)]; omega
  have e3 : nI (300 + k) = 303 ↔ k = 3 := by rw [show (303 : Int32) = nI 303 from rfl, nI_eq (by omega) (by omega)]; omega
  have e4 : nI (300 + k) = 304 ↔ k = 4 := by rw [show (304 : Int32) = nI 304 from rfl, nI_eq (by omega) (by omega)]; omega
  have e5 : nI (300 + k) = 305 ↔ k = 5 := by rw [show (305 : Int32) = nI 305 from rfl, nI_eq (by omega) (by omega)]; omega
  have e6 : nI (300 + k) = 306 ↔ k = 6 := by rw [show (306 : Int32) = nI 306 from rfl, nI_eq (by omega) (by omega)]; omega
  have e7 : nI (300 + k) = 307 ↔ k = 7 := by rw [show (307 : Int32) = nI 307 from rfl, nI_eq (by omega) (by omega)]; omega
  obtain ⟨d, rfl⟩ : ∃ e, d = e + 1 := ⟨d - 1, by omega⟩
  refine iX4_calculate (Nat.le_of_ble_eq_true rfl) (fun J hJ => ?_)
  refine hJ 40 (fun pc => false) _ _ _ _ _ ?_
  simp -implicitDefEqProofs only [lX4_calculate_0, lX4_calculate_1, lX4_calculate_48, lX4_calculate_49, lX4_calculate_50, lX4_calculate_51, lX4_calculate_52, lX4_calculate_53, lX4_calculate_54, lX4_calculate_55, lX4_calculate_56, lX4_calculate_57, lX4_calculate_58, lX4_calculate_59, lX4_calculate_60, lX4_calculate_61, lX4_calculate_62, lX4_calculate_63, lX4_calculate_64, lX4_calculate_65, lX4_calculate_66, lX4_calculate_67, lX4_calculate_68, lX4_calculate_69, lX4_calculate_70, lX4_calculate_71, lX4_calculate_72, lX4_calculate_73, lX4_calculate_74, lX4_calculate_77, lX4_calculate_78, lX4_calculate_79, lX4_calculate_80, lX4_calculate_83, wpS, ↓reduceIte, Bool.false_eq_true, false_and, and_false, cond_false, cond_true, Bool.cond_false, Bool.cond_true, oPush, oIld, oFld, oDld, oAld, oIst, oFst, oDst, oAst, oInc, oI2, oI2n, oF2, oD2, oF2d, oIcv, oFcmp, oDcmp, oLcmp, oDup, oDupx1, oPop, oIf, oIc, oGoto, oNonnull, oGi, oGi2, oGr, oGr2, oPi, oPi2, oPz, oPr, oPr2, oAi, oAf, oAl, oAd, oAr, oSi, oSf, oSl, oSd, oSr, oRetI, oRetZ, oRetC, oRetF, oRetD, oRetA, oRetV, oCallS, oCallV, recvP, oThrow, oSw, oDisp, dispA, lk, Nat.beq, oMm, oCopy, oAlen, oAcmp, entA, lset, lset2, Value.category, Nat.reduceEqDiff, Nat.reduceAdd, Nat.reduceLT, Nat.reduceLeDiff, Nat.reduceBEq, beq_self_eq_true, Bool.or_false, Bool.false_or, Bool.or_true, Bool.true_or, ite_false, ite_true, if_true, if_false, reduceIte, reduceCtorEq, Nat.le_refl, Nat.zero_le, and_true, true_and, true_or, or_true, and_self, implies_true, not_true_eq_false, not_false_eq_true, List.take, List.drop, List.reverse_cons, List.reverse_nil, List.nil_append, List.cons_append, List.length_cons, List.length_nil, List.map_cons, List.map_nil, List.sum_cons, List.sum_nil, Option.toList, va_rf, Nat.add_zero, Nat.zero_add, List.forall_mem_cons, List.not_mem_nil, or_false, false_implies, eq_self, true_implies, b2i_eq0, b2i_eq1, b2i_01, em_nn, cl_0, cl_1, cl_2, vin_0, vin_1, vin_2, u2_ap, r2_ap, Sum.inl.injEq, Option.some.injEq, Value.int.injEq, e0, e1, e2, e3, e4, e5, e6, e7]
  refine ⟨⟨fun e => ?_, fun e => ?_, fun e => ?_, fun e => ?_, fun e => ?_, fun e => ?_, fun e => ?_, fun e => ?_⟩, fun e => absurd hk (by omega)⟩ <;> subst e
  · exact h
  · exact h
  · exact h
  · exact h
  · exact h
  · rw [mn_eq]; exact h
  · rw [mx_eq]; exact h
  · exact h
theorem c_calculateF (hd : 1 ≤ d) {k : Nat} (hk : k < 8) (hb : opkF k) {x y : UInt32} (hx : Fn x) (hy : Fn y) {n : Nat} {M : PM} (h : P (.inl (some (.float (fby mmC k x y)))) n M) : CallOK d 0 0 yX2_calculate (Cond.code yX2_calculate cX2_calculate 4 (some .float)) [.int (nI (300 + k)), .float x, .float y] n M P := by
  have e1 : nI (300 + k) = 301 ↔ k = 1 := by rw [show (301 : Int32) = nI 301 from rfl, nI_eq (by omega) (by omega)]; omega
  have e5 : nI (300 + k) = 305 ↔ k = 5 := by rw [show (305 : Int32) = nI 305 from rfl, nI_eq (by omega) (by omega)]; omega
  have e6 : nI (300 + k) = 306 ↔ k = 6 := by rw [show (306 : Int32) = nI 306 from rfl, nI_eq (by omega) (by omega)]; omega
  have e7 : nI (300 + k) = 307 ↔ k = 7 := by rw [show (307 : Int32) = nI 307 from rfl, nI_eq (by omega) (by omega)]; omega
  have g1 := cv_g_gt (fcmp_some hx hy)
  have g2 := cv_l_lt (fcmp_some hx hy)
  obtain ⟨d, rfl⟩ : ∃ e, d = e + 1 := ⟨d - 1, by omega⟩
  refine iX2_calculate (Nat.le_of_ble_eq_true rfl) (fun J hJ => ?_)
  refine hJ 40 (fun pc => pc == 67) _ _ _ _ _ ?_
  simp -implicitDefEqProofs only [lX2_calculate_0, lX2_calculate_1, lX2_calculate_4, lX2_calculate_7, lX2_calculate_8, lX2_calculate_9, lX2_calculate_10, lX2_calculate_13, lX2_calculate_14, lX2_calculate_17, lX2_calculate_18, lX2_calculate_19, lX2_calculate_20, lX2_calculate_23, lX2_calculate_26, lX2_calculate_27, lX2_calculate_28, lX2_calculate_29, lX2_calculate_32, lX2_calculate_33, lX2_calculate_36, lX2_calculate_37, lX2_calculate_38, lX2_calculate_39, lX2_calculate_42, lX2_calculate_45, lX2_calculate_46, lX2_calculate_47, lX2_calculate_48, lX2_calculate_51, lX2_calculate_52, lX2_calculate_55, lX2_calculate_58, lX2_calculate_59, lX2_calculate_60, lX2_calculate_61, lX2_calculate_64, lX2_calculate_65, lX2_calculate_66, lX2_calculate_67, lX2_calculate_68, lX2_calculate_69, lX2_calculate_71, lX2_calculate_72, lX2_calculate_75, lX2_calculate_77, lX2_calculate_78, lX2_calculate_79, lX2_calculate_81, lX2_calculate_82, lX2_calculate_85, lX2_calculate_87, lX2_calculate_90, lX2_calculate_91, wpS, ↓reduceIte, Bool.false_eq_true, false_and, and_false, cond_false, cond_true, Bool.cond_false, Bool.cond_true, oPush, oIld, oFld, oDld, oAld, oIst, oFst, oDst, oAst, oInc, oI2, oI2n, oF2, oD2, oF2d, oIcv, oFcmp, oDcmp, oLcmp, oDup, oDupx1, oPop, oIf, oIc, oGoto, oNonnull, oGi, oGi2, oGr, oGr2, oPi, oPi2, oPz, oPr, oPr2, oAi, oAf, oAl, oAd, oAr, oSi, oSf, oSl, oSd, oSr, oRetI, oRetZ, oRetC, oRetF, oRetD, oRetA, oRetV, oCallS, oCallV, recvP, oThrow, oSw, oDisp, dispA, lk, Nat.beq, oMm, oCopy, oAlen, oAcmp, entA, lset, lset2, Value.category, Nat.reduceEqDiff, Nat.reduceAdd, Nat.reduceLT, Nat.reduceLeDiff, Nat.reduceBEq, beq_self_eq_true, Bool.or_false, Bool.false_or, Bool.or_true, Bool.true_or, ite_false, ite_true, if_true, if_false, reduceIte, reduceCtorEq, Nat.le_refl, Nat.zero_le, and_true, true_and, true_or, or_true, and_self, implies_true, not_true_eq_false, not_false_eq_true, List.take, List.drop, List.reverse_cons, List.reverse_nil, List.nil_append, List.cons_append, List.length_cons, List.length_nil, List.map_cons, List.map_nil, List.sum_cons, List.sum_nil, Option.toList, va_rf, Nat.add_zero, Nat.zero_add, List.forall_mem_cons, List.not_mem_nil, or_false, false_implies, eq_self, true_implies, b2i_eq0, b2i_eq1, b2i_01, em_nn, cl_0, cl_1, cl_2, vin_0, vin_1, vin_2, u2_ap, r2_ap, Sum.inl.injEq, Option.some.injEq, Value.int.injEq, e1, e5, e6, e7, g1, g2]
  have j67 : ∀ (z : UInt32) (lv : LV), fby mmC k x y = bnd z → J 67 lv [.float z] (n, 0, 0) M := by
    intro z lv e
    refine hJ 40 (fun pc => pc == 67) _ _ _ _ _ ?_
    simp -implicitDefEqProofs only [lX2_calculate_0, lX2_calculate_1, lX2_calculate_4, lX2_calculate_7, lX2_calculate_8, lX2_calculate_9, lX2_calculate_10, lX2_calculate_13, lX2_calculate_14, lX2_calculate_17, lX2_calculate_18, lX2_calculate_19, lX2_calculate_20, lX2_calculate_23, lX2_calculate_26, lX2_calculate_27, lX2_calculate_28, lX2_calculate_29, lX2_calculate_32, lX2_calculate_33, lX2_calculate_36, lX2_calculate_37, lX2_calculate_38, lX2_calculate_39, lX2_calculate_42, lX2_calculate_45, lX2_calculate_46, lX2_calculate_47, lX2_calculate_48, lX2_calculate_51, lX2_calculate_52, lX2_calculate_55, lX2_calculate_58, lX2_calculate_59, lX2_calculate_60, lX2_calculate_61, lX2_calculate_64, lX2_calculate_65, lX2_calculate_66, lX2_calculate_67, lX2_calculate_68, lX2_calculate_69, lX2_calculate_71, lX2_calculate_72, lX2_calculate_75, lX2_calculate_77, lX2_calculate_78, lX2_calculate_79, lX2_calculate_81, lX2_calculate_82, lX2_calculate_85, lX2_calculate_87, lX2_calculate_90, lX2_calculate_91, wpS, ↓reduceIte, Bool.false_eq_true, false_and, and_false, cond_false, cond_true, Bool.cond_false, Bool.cond_true, oPush, oIld, oFld, oDld, oAld, oIst, oFst, oDst, oAst, oInc, oI2, oI2n, oF2, oD2, oF2d, oIcv, oFcmp, oDcmp, oLcmp, oDup, oDupx1, oPop, oIf, oIc, oGoto, oNonnull, oGi, oGi2, oGr, oGr2, oPi, oPi2, oPz, oPr, oPr2, oAi, oAf, oAl, oAd, oAr, oSi, oSf, oSl, oSd, oSr, oRetI, oRetZ, oRetC, oRetF, oRetD, oRetA, oRetV, oCallS, oCallV, recvP, oThrow, oSw, oDisp, dispA, lk, Nat.beq, oMm, oCopy, oAlen, oAcmp, entA, lset, lset2, Value.category, Nat.reduceEqDiff, Nat.reduceAdd, Nat.reduceLT, Nat.reduceLeDiff, Nat.reduceBEq, beq_self_eq_true, Bool.or_false, Bool.false_or, Bool.or_true, Bool.true_or, ite_false, ite_true, if_true, if_false, reduceIte, reduceCtorEq, Nat.le_refl, Nat.zero_le, and_true, true_and, true_or, or_true, and_self, implies_true, not_true_eq_false, not_false_eq_true, List.take, List.drop, List.reverse_cons, List.reverse_nil, List.nil_append, List.cons_append, List.length_cons, List.length_nil, List.map_cons, List.map_nil, List.sum_cons, List.sum_nil, Option.toList, va_rf, Nat.add_zero, Nat.zero_add, List.forall_mem_cons, List.not_mem_nil, or_false, false_implies, eq_self, true_implies, b2i_eq0, b2i_eq1, b2i_01, em_nn, cl_0, cl_1, cl_2, vin_0, vin_1, vin_2, u2_ap, r2_ap, Sum.inl.injEq, Option.some.injEq, Value.int.injEq, cv_l_le, cv_g_ge]
    rw [e] at h
    unfold bnd at h
    by_cases h1 : FP.fcmp z 1900671690 = some .gt
    · rw [if_pos h1] at h; simp [h1]; exact h
    · rw [if_neg h1] at h
      by_cases h2 : FP.fcmp z 4048155338 = some .lt
      · rw [if_pos h2] at h; simp [h1, h2]; exact h
      · rw [if_neg h2] at h; simp [h1, h2]; exact h
  refine ⟨fun e => ?_, fun n5 => ⟨fun e => ?_, fun n6 => ⟨fun e => ⟨nn32 (fmul_nn hx hy), j67 _ _ (by subst e; rfl)⟩, fun n1 => ⟨fun e => ⟨nn32 (fsub_nn hx hy), j67 _ _ (by subst e; rfl)⟩, fun n7 => ⟨nn32 (fadd_nn hx hy), j67 _ _ ?_⟩⟩⟩⟩⟩
  · subst e
    have e9 : fby mmC 5 x y = if FP.fcmp x y = some .gt then y else x := rfl
    rw [e9] at h
    by_cases q : FP.fcmp x y = some .gt
    · rw [if_pos q] at h; exact ⟨fun _ => h, fun w => absurd q w⟩
    · rw [if_neg q] at h; exact ⟨fun w => absurd w q, fun _ => h⟩
  · subst e
    have e9 : fby mmC 6 x y = if FP.fcmp x y = some .lt then y else x := rfl
    rw [e9] at h
    by_cases q : FP.fcmp x y = some .lt
    · rw [if_pos q] at h; exact ⟨fun _ => h, fun w => absurd q w⟩
    · rw [if_neg q] at h; exact ⟨fun w => absurd w q, fun _ => h⟩
  · have : k = 0 := by obtain ⟨b2, b3, b4⟩ := hb; omega
    subst this; rfl
theorem c_neutralOfI (hd : 1 ≤ d) {k : Nat} (hk : k < 7) {n : Nat} {M : PM} (h : P (.inl (some (.int (neI (nI k))))) n M) : CallOK d 0 0 yX4_neutralOf (Cond.code yX4_neutralOf cX4_neutralOf 1 (some .int)) [.int (nI (300 + k))] n M P := by
  have h7 : k = 0 ∨ k = 1 ∨ k = 2 ∨ k = 3 ∨ k = 4 ∨ k = 5 ∨ k = 6 := by omega
  rcases h7 with rfl | rfl | rfl | rfl | rfl | rfl | rfl
  all_goals
    obtain ⟨d, rfl⟩ : ∃ e, d = e + 1 := ⟨d - 1, by omega⟩
    refine iX4_neutralOf (Nat.le_of_ble_eq_true rfl) (fun J hJ => ?_)
    refine hJ 40 (fun pc => false) _ _ _ _ _ ?_
    simp -implicitDefEqProofs only [lX4_neutralOf_0, lX4_neutralOf_1, lX4_neutralOf_40, lX4_neutralOf_41, lX4_neutralOf_42, lX4_neutralOf_43, lX4_neutralOf_44, lX4_neutralOf_46, lX4_neutralOf_47, lX4_neutralOf_49, lX4_neutralOf_50, lX4_neutralOf_51, wpS, ↓reduceIte, Bool.false_eq_true, false_and, and_false, cond_false, cond_true, Bool.cond_false, Bool.cond_true, oPush, oIld, oFld, oDld, oAld, oIst, oFst, oDst, oAst, oInc, oI2, oI2n, oF2, oD2, oF2d, oIcv, oFcmp, oDcmp, oLcmp, oDup, oDupx1, oPop, oIf, oIc, oGoto, oNonnull, oGi, oGi2, oGr, oGr2, oPi, oPi2, oPz, oPr, oPr2, oAi, oAf, oAl, oAd, oAr, oSi, oSf, oSl, oSd, oSr, oRetI, oRetZ, oRetC, oRetF, oRetD, oRetA, oRetV, oCallS, oCallV, recvP, oThrow, oSw, oDisp, dispA, lk, Nat.beq, oMm, oCopy, oAlen, oAcmp, entA, lset, lset2, Value.category, Nat.reduceEqDiff, Nat.reduceAdd, Nat.reduceLT, Nat.reduceLeDiff, Nat.reduceBEq, beq_self_eq_true, Bool.or_false, Bool.false_or, Bool.or_true, Bool.true_or, ite_false, ite_true, if_true, if_false, reduceIte, reduceCtorEq, Nat.le_refl, Nat.zero_le, and_true, true_and, true_or, or_true, and_self, implies_true, not_true_eq_false, not_false_eq_true, List.take, List.drop, List.reverse_cons, List.reverse_nil, List.nil_append, List.cons_append, List.length_cons, List.length_nil, List.map_cons, List.map_nil, List.sum_cons, List.sum_nil, Option.toList, va_rf, Nat.add_zero, Nat.zero_add, List.forall_mem_cons, List.not_mem_nil, or_false, false_implies, eq_self, true_implies, b2i_eq0, b2i_eq1, b2i_01, em_nn, cl_0, cl_1, cl_2, vin_0, vin_1, vin_2, u2_ap, r2_ap, Sum.inl.injEq, Option.some.injEq, Value.int.injEq]
    simp (decide := true) only [true_implies, false_implies, true_and, and_true, not_true_eq_false, not_false_eq_true]
    exact h
theorem c_neutralOfF (hd : 1 ≤ d) {k : Nat} (hk : k < 7) {n : Nat} {M : PM} (h : P (.inl (some (.float (neF (nI k))))) n M) : CallOK d 0 0 yX2_neutralOf (Cond.code yX2_neutralOf cX2_neutralOf 1 (some .float)) [.int (nI (300 + k))] n M P := by
  have h7 : k = 0 ∨ k = 1 ∨ k = 2 ∨ k = 3 ∨ k = 4 ∨ k = 5 ∨ k = 6 := by omega
  rcases h7 with rfl | rfl | rfl | rfl | rfl | rfl | rfl
  all_goals
    obtain ⟨d, rfl⟩ : ∃ e, d = e + 1 := ⟨d - 1, by omega⟩
    refine iX2_neutralOf (Nat.le_of_ble_eq_true rfl) (fun J hJ => ?_)
    refine hJ 40 (fun pc => false) _ _ _ _ _ ?_
    simp -implicitDefEqProofs only [lX2_neutralOf_0, lX2_neutralOf_1, lX2_neutralOf_36, lX2_neutralOf_37, lX2_neutralOf_38, lX2_neutralOf_40, lX2_neutralOf_41, lX2_neutralOf_43, lX2_neutralOf_44, lX2_neutralOf_45, wpS, ↓reduceIte, Bool.false_eq_true, false_and, and_false, cond_false, cond_true, Bool.cond_false, Bool.cond_true, oPush, oIld, oFld, oDld, oAld, oIst, oFst, oDst, oAst, oInc, oI2, oI2n, oF2, oD2, oF2d, oIcv, oFcmp, oDcmp, oLcmp, oDup, oDupx1, oPop, oIf, oIc, oGoto, oNonnull, oGi, oGi2, oGr, oGr2, oPi, oPi2, oPz, oPr, oPr2, oAi, oAf, oAl, oAd, oAr, oSi, oSf, oSl, oSd, oSr, oRetI, oRetZ, oRetC, oRetF, oRetD, oRetA, oRetV, oCallS, oCallV, recvP, oThrow, oSw, oDisp, dispA, lk, Nat.beq, oMm, oCopy, oAlen, oAcmp, entA, lset, lset2, Value.category, Nat.reduceEqDiff, Nat.reduceAdd, Nat.reduceLT, Nat.reduceLeDiff, Nat.reduceBEq, beq_self_eq_true, Bool.or_false, Bool.false_or, Bool.or_true, Bool.true_or, ite_false, ite_true, if_true, if_false, reduceIte, reduceCtorEq, Nat.le_refl, Nat.zero_le, and_true, true_and, true_or, or_true, and_self, implies_true, not_true_eq_false, not_false_eq_true, List.take, List.drop, List.reverse_cons, List.reverse_nil, List.nil_append, List.cons_append, List.length_cons, List.length_nil, List.map_cons, List.map_nil, List.sum_cons, List.sum_nil, Option.toList, va_rf, Nat.add_zero, Nat.zero_add, List.forall_mem_cons, List.not_mem_nil, or_false, false_implies, eq_self, true_implies, b2i_eq0, b2i_eq1, b2i_01, em_nn, cl_0, cl_1, cl_2, vin_0, vin_1, vin_2, u2_ap, r2_ap, Sum.inl.injEq, Option.some.injEq, Value.int.injEq]
    simp (decide := true) only [true_implies, false_implies, true_and, and_true, not_true_eq_false, not_false_eq_true]
    exact h
theorem c_rowNowI (hd : 1 ≤ d) (h : P (.inl (some (.int (I 23 1)))) 150 (I, F, RR pr sv, L, D)) : CallOK d 0 0 yX5_rowNow (Cond.code yX5_rowNow cX5_rowNow 1 (some .int)) [.ref 23] 150 (I, F, RR pr sv, L, D) P := by
  obtain ⟨d, rfl⟩ : ∃ e, d = e + 1 := ⟨d - 1, by omega⟩
  refine iX5_rowNow (Nat.le_of_ble_eq_true rfl) (fun J hJ => ?_)
  refine hJ 40 (fun pc => false) _ _ _ _ _ ?_
  simp -implicitDefEqProofs only [lX5_rowNow_0, lX5_rowNow_1, lX5_rowNow_4, wpS, ↓reduceIte, Bool.false_eq_true, false_and, and_false, cond_false, cond_true, Bool.cond_false, Bool.cond_true, oPush, oIld, oFld, oDld, oAld, oIst, oFst, oDst, oAst, oInc, oI2, oI2n, oF2, oD2, oF2d, oIcv, oFcmp, oDcmp, oLcmp, oDup, oDupx1, oPop, oIf, oIc, oGoto, oNonnull, oGi, oGi2, oGr, oGr2, oPi, oPi2, oPz, oPr, oPr2, oAi, oAf, oAl, oAd, oAr, oSi, oSf, oSl, oSd, oSr, oRetI, oRetZ, oRetC, oRetF, oRetD, oRetA, oRetV, oCallS, oCallV, recvP, oThrow, oSw, oDisp, dispA, lk, Nat.beq, oMm, oCopy, oAlen, oAcmp, entA, lset, lset2, Value.category, Nat.reduceEqDiff, Nat.reduceAdd, Nat.reduceLT, Nat.reduceLeDiff, Nat.reduceBEq, beq_self_eq_true, Bool.or_false, Bool.false_or, Bool.or_true, Bool.true_or, ite_false, ite_true, if_true, if_false, reduceIte, reduceCtorEq, Nat.le_refl, Nat.zero_le, and_true, true_and, true_or, or_true, and_self, implies_true, not_true_eq_false, not_false_eq_true, List.take, List.drop, List.reverse_cons, List.reverse_nil, List.nil_append, List.cons_append, List.length_cons, List.length_nil, List.map_cons, List.map_nil, List.sum_cons, List.sum_nil, Option.toList, va_rf, Nat.add_zero, Nat.zero_add, List.forall_mem_cons, List.not_mem_nil, or_false, false_implies, eq_self, true_implies, b2i_eq0, b2i_eq1, b2i_01, em_nn, cl_0, cl_1, cl_2, vin_0, vin_1, vin_2, u2_ap, r2_ap, Sum.inl.injEq, Option.some.injEq, Value.int.injEq, sh_23]
  exact h
theorem c_constantOfI (hd : 1 ≤ d) {c : Int32} (hc : leafc c) (hs : ¬ isst c) {i : Nat} (hi : i < 16) (h2 : I 23 2 = nI i) {el : Nat → Int32} (hel : ∀ a, a < 3 → I (13 + a) i = el a) {e : Nat → Int32} (h : P (.inl (some (.int (lfG (fun x => x) el e c)))) 150 (I, F, RR pr sv, L, D)) : CallOK d 0 0 yX5_constantOf (Cond.code yX5_constantOf cX5_constantOf 3 (some .int)) [.ref 23, .int c] 150 (I, F, RR pr sv, L, D) P := by
  have ci := nI_clamp (n := i) (by omega)
  have ii := vp_in_nI (n := i) (N := 16) (by omega) (by decide)
  rcases hc with ⟨k, hk, rfl⟩ | ⟨k, hk, rfl⟩ | ⟨k, hk, rfl⟩
  · rw [lf_num hk] at h
    obtain ⟨d, rfl⟩ : ∃ e, d = e + 1 := ⟨d - 1, by omega⟩
    refine iX5_constantOf (Nat.le_of_ble_eq_true rfl) (fun J hJ => ?_)
    refine hJ 40 (fun pc => pc == 18) _ _ _ _ _ ?_
    simp -implicitDefEqProofs only [lX5_constantOf_0, lX5_constantOf_1, lX5_constantOf_4, lX5_constantOf_7, lX5_constantOf_8, lX5_constantOf_11, lX5_constantOf_14, lX5_constantOf_15, lX5_constantOf_18, lX5_constantOf_19, lX5_constantOf_20, lX5_constantOf_21, lX5_constantOf_24, lX5_constantOf_25, lX5_constantOf_28, lX5_constantOf_31, lX5_constantOf_32, lX5_constantOf_35, lX5_constantOf_36, lX5_constantOf_37, lX5_constantOf_38, lX5_constantOf_41, lX5_constantOf_42, lX5_constantOf_45, lX5_constantOf_46, wpS, ↓reduceIte, Bool.false_eq_true, false_and, and_false, cond_false, cond_true, Bool.cond_false, Bool.cond_true, oPush, oIld, oFld, oDld, oAld, oIst, oFst, oDst, oAst, oInc, oI2, oI2n, oF2, oD2, oF2d, oIcv, oFcmp, oDcmp, oLcmp, oDup, oDupx1, oPop, oIf, oIc, oGoto, oNonnull, oGi, oGi2, oGr, oGr2, oPi, oPi2, oPz, oPr, oPr2, oAi, oAf, oAl, oAd, oAr, oSi, oSf, oSl, oSd, oSr, oRetI, oRetZ, oRetC, oRetF, oRetD, oRetA, oRetV, oCallS, oCallV, recvP, oThrow, oSw, oDisp, dispA, lk, Nat.beq, oMm, oCopy, oAlen, oAcmp, entA, lset, lset2, Value.category, Nat.reduceEqDiff, Nat.reduceAdd, Nat.reduceLT, Nat.reduceLeDiff, Nat.reduceBEq, beq_self_eq_true, Bool.or_false, Bool.false_or, Bool.or_true, Bool.true_or, ite_false, ite_true, if_true, if_false, reduceIte, reduceCtorEq, Nat.le_refl, Nat.zero_le, and_true, true_and, true_or, or_true, and_self, implies_true, not_true_eq_false, not_false_eq_true, List.take, List.drop, List.reverse_cons, List.reverse_nil, List.nil_append, List.cons_append, List.length_cons, List.length_nil, List.map_cons, List.map_nil, List.sum_cons, List.sum_nil, Option.toList, va_rf, Nat.add_zero, Nat.zero_add, List.forall_mem_cons, List.not_mem_nil, or_false, false_implies, eq_self, true_implies, b2i_eq0, b2i_eq1, b2i_01, em_nn, cl_0, cl_1, cl_2, vin_0, vin_1, vin_2, u2_ap, r2_ap, Sum.inl.injEq, Option.some.injEq, Value.int.injEq, sh_23]
    have j18 : ∀ lv : LV, lv 1 = some (.int (nI k)) → J 18 lv [] (150, 0, 0) (I, F, RR pr sv, L, D) := by
      intro lv l1
      refine hJ 40 (fun pc => pc == 18) _ _ _ _ _ ?_
      simp -implicitDefEqProofs only [lX5_constantOf_0, lX5_constantOf_1, lX5_constantOf_4, lX5_constantOf_7, lX5_constantOf_8, lX5_constantOf_11, lX5_constantOf_14, lX5_constantOf_15, lX5_constantOf_18, lX5_constantOf_19, lX5_constantOf_20, lX5_constantOf_21, lX5_constantOf_24, lX5_constantOf_25, lX5_constantOf_28, lX5_constantOf_31, lX5_constantOf_32, lX5_constantOf_35, lX5_constantOf_36, lX5_constantOf_37, lX5_constantOf_38, lX5_constantOf_41, lX5_constantOf_42, lX5_constantOf_45, lX5_constantOf_46, wpS, ↓reduceIte, Bool.false_eq_true, false_and, and_false, cond_false, cond_true, Bool.cond_false, Bool.cond_true, oPush, oIld, oFld, oDld, oAld, oIst, oFst, oDst, oAst, oInc, oI2, oI2n, oF2, oD2, oF2d, oIcv, oFcmp, oDcmp, oLcmp, oDup, oDupx1, oPop, oIf, oIc, oGoto, oNonnull, oGi, oGi2, oGr, oGr2, oPi, oPi2, oPz, oPr, oPr2, oAi, oAf, oAl, oAd, oAr, oSi, oSf, oSl, oSd, oSr, oRetI, oRetZ, oRetC, oRetF, oRetD, oRetA, oRetV, oCallS, oCallV, recvP, oThrow, oSw, oDisp, dispA, lk, Nat.beq, oMm, oCopy, oAlen, oAcmp, entA, lset, lset2, Value.category, Nat.reduceEqDiff, Nat.reduceAdd, Nat.reduceLT, Nat.reduceLeDiff, Nat.reduceBEq, beq_self_eq_true, Bool.or_false, Bool.false_or, Bool.or_true, Bool.true_or, ite_false, ite_true, if_true, if_false, reduceIte, reduceCtorEq, Nat.le_refl, Nat.zero_le, and_true, true_and, true_or, or_true, and_self, implies_true, not_true_eq_false, not_false_eq_true, List.take, List.drop, List.reverse_cons, List.reverse_nil, List.nil_append, List.cons_append, List.length_cons, List.length_nil, List.map_cons, List.map_nil, List.sum_cons, List.sum_nil, Option.toList, va_rf, Nat.add_zero, Nat.zero_add, List.forall_mem_cons, List.not_mem_nil, or_false, false_implies, eq_self, true_implies, b2i_eq0, b2i_eq1, b2i_01, em_nn, cl_0, cl_1, cl_2, vin_0, vin_1, vin_2, u2_ap, r2_ap, Sum.inl.injEq, Option.some.injEq, Value.int.injEq, l1]
      exact h
    exact ⟨fun _ => j18 _ rfl, fun w => absurd (nI_lt (a := k) (b := 200) (by omega) (by omega)) w⟩
  · exact absurd (isst_iff.mpr ⟨k, hk, rfl⟩) hs
  · rw [lf_el hk, ← hel k hk] at h
    obtain ⟨re, se⟩ := rw_el pr sv k hk
    have me : 13 + k < 150 := by omega
    have ck := nI_clamp (n := k) (by omega)
    have ik := vp_in_nI (n := k) (N := 3) (by omega) (by decide)
    obtain ⟨d, rfl⟩ : ∃ e, d = e + 1 := ⟨d - 1, by omega⟩
    refine iX5_constantOf (Nat.le_of_ble_eq_true rfl) (fun J hJ => ?_)
    refine hJ 40 (fun pc => pc == 18) _ _ _ _ _ ?_
    simp -implicitDefEqProofs only [lX5_constantOf_0, lX5_constantOf_1, lX5_constantOf_4, lX5_constantOf_7, lX5_constantOf_8, lX5_constantOf_11, lX5_constantOf_14, lX5_constantOf_15, lX5_constantOf_18, lX5_constantOf_19, lX5_constantOf_20, lX5_constantOf_21, lX5_constantOf_24, lX5_constantOf_25, lX5_constantOf_28, lX5_constantOf_31, lX5_constantOf_32, lX5_constantOf_35, lX5_constantOf_36, lX5_constantOf_37, lX5_constantOf_38, lX5_constantOf_41, lX5_constantOf_42, lX5_constantOf_45, lX5_constantOf_46, wpS, ↓reduceIte, Bool.false_eq_true, false_and, and_false, cond_false, cond_true, Bool.cond_false, Bool.cond_true, oPush, oIld, oFld, oDld, oAld, oIst, oFst, oDst, oAst, oInc, oI2, oI2n, oF2, oD2, oF2d, oIcv, oFcmp, oDcmp, oLcmp, oDup, oDupx1, oPop, oIf, oIc, oGoto, oNonnull, oGi, oGi2, oGr, oGr2, oPi, oPi2, oPz, oPr, oPr2, oAi, oAf, oAl, oAd, oAr, oSi, oSf, oSl, oSd, oSr, oRetI, oRetZ, oRetC, oRetF, oRetD, oRetA, oRetV, oCallS, oCallV, recvP, oThrow, oSw, oDisp, dispA, lk, Nat.beq, oMm, oCopy, oAlen, oAcmp, entA, lset, lset2, Value.category, Nat.reduceEqDiff, Nat.reduceAdd, Nat.reduceLT, Nat.reduceLeDiff, Nat.reduceBEq, beq_self_eq_true, Bool.or_false, Bool.false_or, Bool.or_true, Bool.true_or, ite_false, ite_true, if_true, if_false, reduceIte, reduceCtorEq, Nat.le_refl, Nat.zero_le, and_true, true_and, true_or, or_true, and_self, implies_true, not_true_eq_false, not_false_eq_true, List.take, List.drop, List.reverse_cons, List.reverse_nil, List.nil_append, List.cons_append, List.length_cons, List.length_nil, List.map_cons, List.map_nil, List.sum_cons, List.sum_nil, Option.toList, va_rf, Nat.add_zero, Nat.zero_add, List.forall_mem_cons, List.not_mem_nil, or_false, false_implies, eq_self, true_implies, b2i_eq0, b2i_eq1, b2i_01, em_nn, cl_0, cl_1, cl_2, vin_0, vin_1, vin_2, u2_ap, r2_ap, Sum.inl.injEq, Option.some.injEq, Value.int.injEq, sh_23, rr_23_0, sh_11, rr_11_2, sh_12, sub200, re, se, me, ck, ik, h2, ci, ii]
    exact ⟨fun w => absurd w (nI_nlt (b := 200) (by omega) (by omega)), fun _ => ⟨fun w => absurd w (nI_ge (b := 203) (by omega) (by omega)), fun _ => ⟨fun q => absurd q (by decide), fun _ => h⟩⟩⟩
theorem c_setInitialValueI (hd : 1 ≤ d) {t v : Nat} (ht : t < 18) (hv : v < 8) {x : Int32} (h : P (.inl none) 150 (u2 I (25 + t) v ((fun x : Int32 => x) x), F, RR pr sv, L, D)) : CallOK d 0 0 yX4_setInitialValue (Cond.code yX4_setInitialValue cX4_setInitialValue 4 none) [.ref 23, .int (nI t), .int (nI v), .int x] 150 (I, F, RR pr sv, L, D) P := by
  obtain ⟨re, se⟩ := rwI ht pr sv
  have me : 25 + t < 150 := by omega
  have ct := nI_clamp (n := t) (by omega)
  have it := vp_in_nI (n := t) (N := 18) (by omega) (by decide)
  have cv := nI_clamp (n := v) (by omega)
  have iv := vp_in_nI (n := v) (N := 8) (by omega) (by decide)
  obtain ⟨d, rfl⟩ : ∃ e, d = e + 1 := ⟨d - 1, by omega⟩
  refine iX4_setInitialValue (Nat.le_of_ble_eq_true rfl) (fun J hJ => ?_)
  refine hJ 40 (fun pc => false) _ _ _ _ _ ?_
  simp -implicitDefEqProofs only [lX4_setInitialValue_0, lX4_setInitialValue_1, lX4_setInitialValue_4, lX4_setInitialValue_5, lX4_setInitialValue_6, lX4_setInitialValue_7, lX4_setInitialValue_8, lX4_setInitialValue_9, wpS, ↓reduceIte, Bool.false_eq_true, false_and, and_false, cond_false, cond_true, Bool.cond_false, Bool.cond_true, oPush, oIld, oFld, oDld, oAld, oIst, oFst, oDst, oAst, oInc, oI2, oI2n, oF2, oD2, oF2d, oIcv, oFcmp, oDcmp, oLcmp, oDup, oDupx1, oPop, oIf, oIc, oGoto, oNonnull, oGi, oGi2, oGr, oGr2, oPi, oPi2, oPz, oPr, oPr2, oAi, oAf, oAl, oAd, oAr, oSi, oSf, oSl, oSd, oSr, oRetI, oRetZ, oRetC, oRetF, oRetD, oRetA, oRetV, oCallS, oCallV, recvP, oThrow, oSw, oDisp, dispA, lk, Nat.beq, oMm, oCopy, oAlen, oAcmp, entA, lset, lset2, Value.category, Nat.reduceEqDiff, Nat.reduceAdd, Nat.reduceLT, Nat.reduceLeDiff, Nat.reduceBEq, beq_self_eq_true, Bool.or_false, Bool.false_or, Bool.or_true, Bool.true_or, ite_false, ite_true, if_true, if_false, reduceIte, reduceCtorEq, Nat.le_refl, Nat.zero_le, and_true, true_and, true_or, or_true, and_self, implies_true, not_true_eq_false, not_false_eq_true, List.take, List.drop, List.reverse_cons, List.reverse_nil, List.nil_append, List.cons_append, List.length_cons, List.length_nil, List.map_cons, List.map_nil, List.sum_cons, List.sum_nil, Option.toList, va_rf, Nat.add_zero, Nat.zero_add, List.forall_mem_cons, List.not_mem_nil, or_false, false_implies, eq_self, true_implies, b2i_eq0, b2i_eq1, b2i_01, em_nn, cl_0, cl_1, cl_2, vin_0, vin_1, vin_2, u2_ap, r2_ap, Sum.inl.injEq, Option.some.injEq, Value.int.injEq, sh_23, rr_23_3, sh_24, re, se, me, ct, it, cv, iv]
  exact h
theorem c_setNeutralI (hd : 2 ≤ d) {t v k : Nat} (ht : t < 18) (hv : v < 8) (hk : k < 7) (h : P (.inl none) 150 (u2 I (25 + t) v (neI (nI k)), F, RR pr sv, L, D)) : CallOK d 0 0 yX4_setNeutral (Cond.code yX4_setNeutral cX4_setNeutral 4 none) [.ref 23, .int (nI t), .int (nI v), .int (nI (300 + k))] 150 (I, F, RR pr sv, L, D) P := by
  obtain ⟨re, se⟩ := rwI ht pr sv
  have me : 25 + t < 150 := by omega
  have ct := nI_clamp (n := t) (by omega)
  have it := vp_in_nI (n := t) (N := 18) (by omega) (by decide)
  have cv := nI_clamp (n := v) (by omega)
  have iv := vp_in_nI (n := v) (N := 8) (by omega) (by decide)
  obtain ⟨d, rfl⟩ : ∃ e, d = e + 1 := ⟨d - 1, by omega⟩
  refine iX4_setNeutral (Nat.le_of_ble_eq_true rfl) (fun J hJ => ?_)
  refine hJ 40 (fun pc => pc == 11) _ _ _ _ _ ?_
  simp -implicitDefEqProofs only [lX4_setNeutral_0, lX4_setNeutral_1, lX4_setNeutral_4, lX4_setNeutral_5, lX4_setNeutral_6, lX4_setNeutral_7, lX4_setNeutral_8, lX4_setNeutral_11, lX4_setNeutral_12, wpS, ↓reduceIte, Bool.false_eq_true, false_and, and_false, cond_false, cond_true, Bool.cond_false, Bool.cond_true, oPush, oIld, oFld, oDld, oAld, oIst, oFst, oDst, oAst, oInc, oI2, oI2n, oF2, oD2, oF2d, oIcv, oFcmp, oDcmp, oLcmp, oDup, oDupx1, oPop, oIf, oIc, oGoto, oNonnull, oGi, oGi2, oGr, oGr2, oPi, oPi2, oPz, oPr, oPr2, oAi, oAf, oAl, oAd, oAr, oSi, oSf, oSl, oSd, oSr, oRetI, oRetZ, oRetC, oRetF, oRetD, oRetA, oRetV, oCallS, oCallV, recvP, oThrow, oSw, oDisp, dispA, lk, Nat.beq, oMm, oCopy, oAlen, oAcmp, entA, lset, lset2, Value.category, Nat.reduceEqDiff, Nat.reduceAdd, Nat.reduceLT, Nat.reduceLeDiff, Nat.reduceBEq, beq_self_eq_true, Bool.or_false, Bool.false_or, Bool.or_true, Bool.true_or, ite_false, ite_true, if_true, if_false, reduceIte, reduceCtorEq, Nat.le_refl, Nat.zero_le, and_true, true_and, true_or, or_true, and_self, implies_true, not_true_eq_false, not_false_eq_true, List.take, List.drop, List.reverse_cons, List.reverse_nil, List.nil_append, List.cons_append, List.length_cons, List.length_nil, List.map_cons, List.map_nil, List.sum_cons, List.sum_nil, Option.toList, va_rf, Nat.add_zero, Nat.zero_add, List.forall_mem_cons, List.not_mem_nil, or_false, false_implies, eq_self, true_implies, b2i_eq0, b2i_eq1, b2i_01, em_nn, cl_0, cl_1, cl_2, vin_0, vin_1, vin_2, u2_ap, r2_ap, Sum.inl.injEq, Option.some.injEq, Value.int.injEq, sh_23, rr_23_3, sh_24, re, se, me, ct, it, cv, iv]
  refine c_neutralOfI (by omega) hk ?_
  simp only [Nat.add_zero, Nat.zero_add, true_and, and_true, Option.toList, List.nil_append, List.cons_append, List.append_nil, reduceCtorEq, and_self, List.drop, List.take, eq_self]
  refine hJ 40 (fun pc => pc == 11) _ _ _ _ _ ?_
  simp -implicitDefEqProofs only [lX4_setNeutral_0, lX4_setNeutral_1, lX4_setNeutral_4, lX4_setNeutral_5, lX4_setNeutral_6, lX4_setNeutral_7, lX4_setNeutral_8, lX4_setNeutral_11, lX4_setNeutral_12, wpS, ↓reduceIte, Bool.false_eq_true, false_and, and_false, cond_false, cond_true, Bool.cond_false, Bool.cond_true, oPush, oIld, oFld, oDld, oAld, oIst, oFst, oDst, oAst, oInc, oI2, oI2n, oF2, oD2, oF2d, oIcv, oFcmp, oDcmp, oLcmp, oDup, oDupx1, oPop, oIf, oIc, oGoto, oNonnull, oGi, oGi2, oGr, oGr2, oPi, oPi2, oPz, oPr, oPr2, oAi, oAf, oAl, oAd, oAr, oSi, oSf, oSl, oSd, oSr, oRetI, oRetZ, oRetC, oRetF, oRetD, oRetA, oRetV, oCallS, oCallV, recvP, oThrow, oSw, oDisp, dispA, lk, Nat.beq, oMm, oCopy, oAlen, oAcmp, entA, lset, lset2, Value.category, Nat.reduceEqDiff, Nat.reduceAdd, Nat.reduceLT, Nat.reduceLeDiff, Nat.reduceBEq, beq_self_eq_true, Bool.or_false, Bool.false_or, Bool.or_true, Bool.true_or, ite_false, ite_true, if_true, if_false, reduceIte, reduceCtorEq, Nat.le_refl, Nat.zero_le, and_true, true_and, true_or, or_true, and_self, implies_true, not_true_eq_false, not_false_eq_true, List.take, List.drop, List.reverse_cons, List.reverse_nil, List.nil_append, List.cons_append, List.length_cons, List.length_nil, List.map_cons, List.map_nil, List.sum_cons, List.sum_nil, Option.toList, va_rf, Nat.add_zero, Nat.zero_add, List.forall_mem_cons, List.not_mem_nil, or_false, false_implies, eq_self, true_implies, b2i_eq0, b2i_eq1, b2i_01, em_nn, cl_0, cl_1, cl_2, vin_0, vin_1, vin_2, u2_ap, r2_ap, Sum.inl.injEq, Option.some.injEq, Value.int.injEq, se, me, cv, iv]
  exact h
theorem c_copyValueI (hd : 1 ≤ d) {t s v : Nat} (ht : t < 18) (hs : s < 18) (hv : v < 8) (h : P (.inl none) 150 (u2 I (25 + t) v ((I (25 + s)) v), F, RR pr sv, L, D)) : CallOK d 0 0 yX4_copyValue (Cond.code yX4_copyValue cX4_copyValue 4 none) [.ref 23, .int (nI t), .int (nI s), .int (nI v)] 150 (I, F, RR pr sv, L, D) P := by
  obtain ⟨re, se⟩ := rwI ht pr sv
  have me : 25 + t < 150 := by omega
  obtain ⟨re2, se2⟩ := rwI hs pr sv
  have me2 : 25 + s < 150 := by omega
  have ct := nI_clamp (n := t) (by omega)
  have it := vp_in_nI (n := t) (N := 18) (by omega) (by decide)
  have cs := nI_clamp (n := s) (by omega)
  have is := vp_in_nI (n := s) (N := 18) (by omega) (by decide)
  have cv := nI_clamp (n := v) (by omega)
  have iv := vp_in_nI (n := v) (N := 8) (by omega) (by decide)
  obtain ⟨d, rfl⟩ : ∃ e, d = e + 1 := ⟨d - 1, by omega⟩
  refine iX4_copyValue (Nat.le_of_ble_eq_true rfl) (fun J hJ => ?_)
  refine hJ 40 (fun pc => false) _ _ _ _ _ ?_
  simp -implicitDefEqProofs only [lX4_copyValue_0, lX4_copyValue_1, lX4_copyValue_4, lX4_copyValue_5, lX4_copyValue_6, lX4_copyValue_7, lX4_copyValue_8, lX4_copyValue_11, lX4_copyValue_12, lX4_copyValue_13, lX4_copyValue_14, lX4_copyValue_15, lX4_copyValue_16, wpS, ↓reduceIte, Bool.false_eq_true, false_and, and_false, cond_false, cond_true, Bool.cond_false, Bool.cond_true, oPush, oIld, oFld, oDld, oAld, oIst, oFst, oDst, oAst, oInc, oI2, oI2n, oF2, oD2, oF2d, oIcv, oFcmp, oDcmp, oLcmp, oDup, oDupx1, oPop, oIf, oIc, oGoto, oNonnull, oGi, oGi2, oGr, oGr2, oPi, oPi2, oPz, oPr, oPr2, oAi, oAf, oAl, oAd, oAr, oSi, oSf, oSl, oSd, oSr, oRetI, oRetZ, oRetC, oRetF, oRetD, oRetA, oRetV, oCallS, oCallV, recvP, oThrow, oSw, oDisp, dispA, lk, Nat.beq, oMm, oCopy, oAlen, oAcmp, entA, lset, lset2, Value.category, Nat.reduceEqDiff, Nat.reduceAdd, Nat.reduceLT, Nat.reduceLeDiff, Nat.reduceBEq, beq_self_eq_true, Bool.or_false, Bool.false_or, Bool.or_true, Bool.true_or, ite_false, ite_true, if_true, if_false, reduceIte, reduceCtorEq, Nat.le_refl, Nat.zero_le, and_true, true_and, true_or, or_true, and_self, implies_true, not_true_eq_false, not_false_eq_true, List.take, List.drop, List.reverse_cons, List.reverse_nil, List.nil_append, List.cons_append, List.length_cons, List.length_nil, List.map_cons, List.map_nil, List.sum_cons, List.sum_nil, Option.toList, va_rf, Nat.add_zero, Nat.zero_add, List.forall_mem_cons, List.not_mem_nil, or_false, false_implies, eq_self, true_implies, b2i_eq0, b2i_eq1, b2i_01, em_nn, cl_0, cl_1, cl_2, vin_0, vin_1, vin_2, u2_ap, r2_ap, Sum.inl.injEq, Option.some.injEq, Value.int.injEq, sh_23, rr_23_3, sh_24, re, se, me, re2, se2, me2, ct, it, cs, is, cv, iv]
  exact h
theorem c_storeValueI (hd : 1 ≤ d) {t v : Nat} (ht : t < 18) (hv : v < 8) (h : P (.inl none) 150 (u2 I (25 + t) v (I 43 0), F, RR pr sv, L, D)) : CallOK d 0 0 yX4_storeValue (Cond.code yX4_storeValue cX4_storeValue 3 none) [.ref 23, .int (nI t), .int (nI v)] 150 (I, F, RR pr sv, L, D) P := by
  obtain ⟨re, se⟩ := rwI ht pr sv
  have me : 25 + t < 150 := by omega
  have ct := nI_clamp (n := t) (by omega)
  have it := vp_in_nI (n := t) (N := 18) (by omega) (by decide)
  have cv := nI_clamp (n := v) (by omega)
  have iv := vp_in_nI (n := v) (N := 8) (by omega) (by decide)
  obtain ⟨d, rfl⟩ : ∃ e, d = e + 1 := ⟨d - 1, by omega⟩
  refine iX4_storeValue (Nat.le_of_ble_eq_true rfl) (fun J hJ => ?_)
  refine hJ 40 (fun pc => false) _ _ _ _ _ ?_
  simp -implicitDefEqProofs only [lX4_storeValue_0, lX4_storeValue_1, lX4_storeValue_4, lX4_storeValue_5, lX4_storeValue_6, lX4_storeValue_7, lX4_storeValue_8, lX4_storeValue_11, lX4_storeValue_12, lX4_storeValue_13, lX4_storeValue_14, wpS, ↓reduceIte, Bool.false_eq_true, false_and, and_false, cond_false, cond_true, Bool.cond_false, Bool.cond_true, oPush, oIld, oFld, oDld, oAld, oIst, oFst, oDst, oAst, oInc, oI2, oI2n, oF2, oD2, oF2d, oIcv, oFcmp, oDcmp, oLcmp, oDup, oDupx1, oPop, oIf, oIc, oGoto, oNonnull, oGi, oGi2, oGr, oGr2, oPi, oPi2, oPz, oPr, oPr2, oAi, oAf, oAl, oAd, oAr, oSi, oSf, oSl, oSd, oSr, oRetI, oRetZ, oRetC, oRetF, oRetD, oRetA, oRetV, oCallS, oCallV, recvP, oThrow, oSw, oDisp, dispA, lk, Nat.beq, oMm, oCopy, oAlen, oAcmp, entA, lset, lset2, Value.category, Nat.reduceEqDiff, Nat.reduceAdd, Nat.reduceLT, Nat.reduceLeDiff, Nat.reduceBEq, beq_self_eq_true, Bool.or_false, Bool.false_or, Bool.or_true, Bool.true_or, ite_false, ite_true, if_true, if_false, reduceIte, reduceCtorEq, Nat.le_refl, Nat.zero_le, and_true, true_and, true_or, or_true, and_self, implies_true, not_true_eq_false, not_false_eq_true, List.take, List.drop, List.reverse_cons, List.reverse_nil, List.nil_append, List.cons_append, List.length_cons, List.length_nil, List.map_cons, List.map_nil, List.sum_cons, List.sum_nil, Option.toList, va_rf, Nat.add_zero, Nat.zero_add, List.forall_mem_cons, List.not_mem_nil, or_false, false_implies, eq_self, true_implies, b2i_eq0, b2i_eq1, b2i_01, em_nn, cl_0, cl_1, cl_2, vin_0, vin_1, vin_2, u2_ap, r2_ap, Sum.inl.injEq, Option.some.injEq, Value.int.injEq, sh_23, rr_23_3, rr_23_4, sh_43, sh_24, re, se, me, ct, it, cv, iv]
  exact h
theorem c_rowNowF (hd : 1 ≤ d) (h : P (.inl (some (.int (I 44 1)))) 150 (I, F, RR pr sv, L, D)) : CallOK d 0 0 yX5_rowNow (Cond.code yX5_rowNow cX5_rowNow 1 (some .int)) [.ref 44] 150 (I, F, RR pr sv, L, D) P := by
  obtain ⟨d, rfl⟩ : ∃ e, d = e + 1 := ⟨d - 1, by omega⟩
  refine iX5_rowNow (Nat.le_of_ble_eq_true rfl) (fun J hJ => ?_)
  refine hJ 40 (fun pc => false) _ _ _ _ _ ?_
  simp -implicitDefEqProofs only [lX5_rowNow_0, lX5_rowNow_1, lX5_rowNow_4, wpS, ↓reduceIte, Bool.false_eq_true, false_and, and_false, cond_false, cond_true, Bool.cond_false, Bool.cond_true, oPush, oIld, oFld, oDld, oAld, oIst, oFst, oDst, oAst, oInc, oI2, oI2n, oF2, oD2, oF2d, oIcv, oFcmp, oDcmp, oLcmp, oDup, oDupx1, oPop, oIf, oIc, oGoto, oNonnull, oGi, oGi2, oGr, oGr2, oPi, oPi2, oPz, oPr, oPr2, oAi, oAf, oAl, oAd, oAr, oSi, oSf, oSl, oSd, oSr, oRetI, oRetZ, oRetC, oRetF, oRetD, oRetA, oRetV, oCallS, oCallV, recvP, oThrow, oSw, oDisp, dispA, lk, Nat.beq, oMm, oCopy, oAlen, oAcmp, entA, lset, lset2, Value.category, Nat.reduceEqDiff, Nat.reduceAdd, Nat.reduceLT, Nat.reduceLeDiff, Nat.reduceBEq, beq_self_eq_true, Bool.or_false, Bool.false_or, Bool.or_true, Bool.true_or, ite_false, ite_true, if_true, if_false, reduceIte, reduceCtorEq, Nat.le_refl, Nat.zero_le, and_true, true_and, true_or, or_true, and_self, implies_true, not_true_eq_false, not_false_eq_true, List.take, List.drop, List.reverse_cons, List.reverse_nil, List.nil_append, List.cons_append, List.length_cons, List.length_nil, List.map_cons, List.map_nil, List.sum_cons, List.sum_nil, Option.toList, va_rf, Nat.add_zero, Nat.zero_add, List.forall_mem_cons, List.not_mem_nil, or_false, false_implies, eq_self, true_implies, b2i_eq0, b2i_eq1, b2i_01, em_nn, cl_0, cl_1, cl_2, vin_0, vin_1, vin_2, u2_ap, r2_ap, Sum.inl.injEq, Option.some.injEq, Value.int.injEq, sh_44]
  exact h
theorem c_constantOfF (hd : 1 ≤ d) {c : Int32} (hc : leafc c) (hs : ¬ isst c) {i : Nat} (hi : i < 16) (h2 : I 44 2 = nI i) {el : Nat → Int32} (hel : ∀ a, a < 3 → I (13 + a) i = el a) {e : Nat → Int32} (h : P (.inl (some (.int (lfG (fun x => x) el e c)))) 150 (I, F, RR pr sv, L, D)) : CallOK d 0 0 yX5_constantOf (Cond.code yX5_constantOf cX5_constantOf 3 (some .int)) [.ref 44, .int c] 150 (I, F, RR pr sv, L, D) P := by
  have ci := nI_clamp (n := i) (by omega)
  have ii := vp_in_nI (n := i) (N := 16) (by omega) (by decide)
  rcases hc with ⟨k, hk, rfl⟩ | ⟨k, hk, rfl⟩ | ⟨k, hk, rfl⟩
  · rw [lf_num hk] at h
    obtain ⟨d, rfl⟩ : ∃ e, d = e + 1 := ⟨d - 1, by omega⟩
    refine iX5_constantOf (Nat.le_of_ble_eq_true rfl) (fun J hJ => ?_)
    refine hJ 40 (fun pc => pc == 18) _ _ _ _ _ ?_
    simp -implicitDefEqProofs only [lX5_constantOf_0, lX5_constantOf_1, lX5_constantOf_4, lX5_constantOf_7, lX5_constantOf_8, lX5_constantOf_11, lX5_constantOf_14, lX5_constantOf_15, lX5_constantOf_18, lX5_constantOf_19, lX5_constantOf_20, lX5_constantOf_21, lX5_constantOf_24, lX5_constantOf_25, lX5_constantOf_28, lX5_constantOf_31, lX5_constantOf_32, lX5_constantOf_35, lX5_constantOf_36, lX5_constantOf_37, lX5_constantOf_38, lX5_constantOf_41, lX5_constantOf_42, lX5_constantOf_45, lX5_constantOf_46, wpS, ↓reduceIte, Bool.false_eq_true, false_and, and_false, cond_false, cond_true, Bool.cond_false, Bool.cond_true, oPush, oIld, oFld, oDld, oAld, oIst, oFst, oDst, oAst, oInc, oI2, oI2n, oF2, oD2, oF2d, oIcv, oFcmp, oDcmp, oLcmp, oDup, oDupx1, oPop, oIf, oIc, oGoto, oNonnull, oGi, oGi2, oGr, oGr2, oPi, oPi2, oPz, oPr, oPr2, oAi, oAf, oAl, oAd, oAr, oSi, oSf, oSl, oSd, oSr, oRetI, oRetZ, oRetC, oRetF, oRetD, oRetA, oRetV, oCallS, oCallV, recvP, oThrow, oSw, oDisp, dispA, lk, Nat.beq, oMm, oCopy, oAlen, oAcmp, entA, lset, lset2, Value.category, Nat.reduceEqDiff, Nat.reduceAdd, Nat.reduceLT, Nat.reduceLeDiff, Nat.reduceBEq, beq_self_eq_true, Bool.or_false, Bool.false_or, Bool.or_true, Bool.true_or, ite_false, ite_true, if_true, if_false, reduceIte, reduceCtorEq, Nat.le_refl, Nat.zero_le, and_true, true_and, true_or, or_true, and_self, implies_true, not_true_eq_false, not_false_eq_true, List.take, List.drop, List.reverse_cons, List.reverse_nil, List.nil_append, List.cons_append, List.length_cons, List.length_nil, List.map_cons, List.map_nil, List.sum_cons, List.sum_nil, Option.toList, va_rf, Nat.add_zero, Nat.zero_add, List.forall_mem_cons, List.not_mem_nil, or_false, false_implies, eq_self, true_implies, b2i_eq0, b2i_eq1, b2i_01, em_nn, cl_0, cl_1, cl_2, vin_0, vin_1, vin_2, u2_ap, r2_ap, Sum.inl.injEq, Option.some.injEq, Value.int.injEq, sh_44]
    have j18 : ∀ lv : LV, lv 1 = some (.int (nI k)) → J 18 lv [] (150, 0, 0) (I, F, RR pr sv, L, D) := by
      intro lv l1
      refine hJ 40 (fun pc => pc == 18) _ _ _ _ _ ?_
      simp -implicitDefEqProofs only [lX5_constantOf_0, lX5_constantOf_1, lX5_constantOf_4, lX5_constantOf_7, lX5_constantOf_8, lX5_constantOf_11, lX5_constantOf_14, lX5_constantOf_15, lX5_constantOf_18, lX5_constantOf_19, lX5_constantOf_20, lX5_constantOf_21, lX5_constantOf_24, lX5_constantOf_25, lX5_constantOf_28, lX5_constantOf_31, lX5_constantOf_32, lX5_constantOf_35, lX5_constantOf_36, lX5_constantOf_37, lX5_constantOf_38, lX5_constantOf_41, lX5_constantOf_42, lX5_constantOf_45, lX5_constantOf_46, wpS, ↓reduceIte, Bool.false_eq_true, false_and, and_false, cond_false, cond_true, Bool.cond_false, Bool.cond_true, oPush, oIld, oFld, oDld, oAld, oIst, oFst, oDst, oAst, oInc, oI2, oI2n, oF2, oD2, oF2d, oIcv, oFcmp, oDcmp, oLcmp, oDup, oDupx1, oPop, oIf, oIc, oGoto, oNonnull, oGi, oGi2, oGr, oGr2, oPi, oPi2, oPz, oPr, oPr2, oAi, oAf, oAl, oAd, oAr, oSi, oSf, oSl, oSd, oSr, oRetI, oRetZ, oRetC, oRetF, oRetD, oRetA, oRetV, oCallS, oCallV, recvP, oThrow, oSw, oDisp, dispA, lk, Nat.beq, oMm, oCopy, oAlen, oAcmp, entA, lset, lset2, Value.category, Nat.reduceEqDiff, Nat.reduceAdd, Nat.reduceLT, Nat.reduceLeDiff, Nat.reduceBEq, beq_self_eq_true, Bool.or_false, Bool.false_or, Bool.or_true, Bool.true_or, ite_false, ite_true, if_true, if_false, reduceIte, reduceCtorEq, Nat.le_refl, Nat.zero_le, and_true, true_and, true_or, or_true, and_self, implies_true, not_true_eq_false, not_false_eq_true, List.take, List.drop, List.reverse_cons, List.reverse_nil, List.nil_append, List.cons_append, List.length_cons, List.length_nil, List.map_cons, List.map_nil, List.sum_cons, List.sum_nil, Option.toList, va_rf, Nat.add_zero, Nat.zero_add, List.forall_mem_cons, List.not_mem_nil, or_false, false_implies, eq_self, true_implies, b2i_eq0, b2i_eq1, b2i_01, em_nn, cl_0, cl_1, cl_2, vin_0, vin_1, vin_2, u2_ap, r2_ap, Sum.inl.injEq, Option.some.injEq, Value.int.injEq, l1]
      exact h
    exact ⟨fun _ => j18 _ rfl, fun w => absurd (nI_lt (a := k) (b := 200) (by omega) (by omega)) w⟩
  · exact absurd (isst_iff.mpr ⟨k, hk, rfl⟩) hs
  · rw [lf_el hk, ← hel k hk] at h
    obtain ⟨re, se⟩ := rw_el pr sv k hk
    have me : 13 + k < 150 := by omega
    have ck := nI_clamp (n := k) (by omega)
    have ik := vp_in_nI (n := k) (N := 3) (by omega) (by decide)
    obtain ⟨d, rfl⟩ : ∃ e, d = e + 1 := ⟨d - 1, by omega⟩
    refine iX5_constantOf (Nat.le_of_ble_eq_true rfl) (fun J hJ => ?_)
    refine hJ 40 (fun pc => pc == 18) _ _ _ _ _ ?_
    simp -implicitDefEqProofs only [lX5_constantOf_0, lX5_constantOf_1, lX5_constantOf_4, lX5_constantOf_7, lX5_constantOf_8, lX5_constantOf_11, lX5_constantOf_14, lX5_constantOf_15, lX5_constantOf_18, lX5_constantOf_19, lX5_constantOf_20, lX5_constantOf_21, lX5_constantOf_24, lX5_constantOf_25, lX5_constantOf_28, lX5_constantOf_31, lX5_constantOf_32, lX5_constantOf_35, lX5_constantOf_36, lX5_constantOf_37, lX5_constantOf_38, lX5_constantOf_41, lX5_constantOf_42, lX5_constantOf_45, lX5_constantOf_46, wpS, ↓reduceIte, Bool.false_eq_true, false_and, and_false, cond_false, cond_true, Bool.cond_false, Bool.cond_true, oPush, oIld, oFld, oDld, oAld, oIst, oFst, oDst, oAst, oInc, oI2, oI2n, oF2, oD2, oF2d, oIcv, oFcmp, oDcmp, oLcmp, oDup, oDupx1, oPop, oIf, oIc, oGoto, oNonnull, oGi, oGi2, oGr, oGr2, oPi, oPi2, oPz, oPr, oPr2, oAi, oAf, oAl, oAd, oAr, oSi, oSf, oSl, oSd, oSr, oRetI, oRetZ, oRetC, oRetF, oRetD, oRetA, oRetV, oCallS, oCallV, recvP, oThrow, oSw, oDisp, dispA, lk, Nat.beq, oMm, oCopy, oAlen, oAcmp, entA, lset, lset2, Value.category, Nat.reduceEqDiff, Nat.reduceAdd, Nat.reduceLT, Nat.reduceLeDiff, Nat.reduceBEq, beq_self_eq_true, Bool.or_false, Bool.false_or, Bool.or_true, Bool.true_or, ite_false, ite_true, if_true, if_false, reduceIte, reduceCtorEq, Nat.le_refl, Nat.zero_le, and_true, true_and, true_or, or_true, and_self, implies_true, not_true_eq_false, not_false_eq_true, List.take, List.drop, List.reverse_cons, List.reverse_nil, List.nil_append, List.cons_append, List.length_cons, List.length_nil, List.map_cons, List.map_nil, List.sum_cons, List.sum_nil, Option.toList, va_rf, Nat.add_zero, Nat.zero_add, List.forall_mem_cons, List.not_mem_nil, or_false, false_implies, eq_self, true_implies, b2i_eq0, b2i_eq1, b2i_01, em_nn, cl_0, cl_1, cl_2, vin_0, vin_1, vin_2, u2_ap, r2_ap, Sum.inl.injEq, Option.some.injEq, Value.int.injEq, sh_44, rr_44_0, sh_11, rr_11_2, sh_12, sub200, re, se, me, ck, ik, h2, ci, ii]
    exact ⟨fun w => absurd w (nI_nlt (b := 200) (by omega) (by omega)), fun _ => ⟨fun w => absurd w (nI_ge (b := 203) (by omega) (by omega)), fun _ => ⟨fun q => absurd q (by decide), fun _ => h⟩⟩⟩
theorem c_setInitialValueF (hd : 1 ≤ d) {t v : Nat} (ht : t < 18) (hv : v < 8) {x : Int32} (h : P (.inl none) 150 (I, u2 F (46 + t) v (FP.i2f x), RR pr sv, L, D)) : CallOK d 0 0 yX2_setInitialValue (Cond.code yX2_setInitialValue cX2_setInitialValue 4 none) [.ref 44, .int (nI t), .int (nI v), .int x] 150 (I, F, RR pr sv, L, D) P := by
  obtain ⟨re, se⟩ := rwF ht pr sv
  have me : 46 + t < 150 := by omega
  have ct := nI_clamp (n := t) (by omega)
  have it := vp_in_nI (n := t) (N := 18) (by omega) (by decide)
  have cv := nI_clamp (n := v) (by omega)
  have iv := vp_in_nI (n := v) (N := 8) (by omega) (by decide)
  obtain ⟨d, rfl⟩ : ∃ e, d = e + 1 := ⟨d - 1, by omega⟩
  refine iX2_setInitialValue (Nat.le_of_ble_eq_true rfl) (fun J hJ => ?_)
  refine hJ 40 (fun pc => false) _ _ _ _ _ ?_
  simp -implicitDefEqProofs only [lX2_setInitialValue_0, lX2_setInitialValue_1, lX2_setInitialValue_4, lX2_setInitialValue_5, lX2_setInitialValue_6, lX2_setInitialValue_7, lX2_setInitialValue_8, lX2_setInitialValue_9, lX2_setInitialValue_10, wpS, ↓reduceIte, Bool.false_eq_true, false_and, and_false, cond_false, cond_true, Bool.cond_false, Bool.cond_true, oPush, oIld, oFld, oDld, oAld, oIst, oFst, oDst, oAst, oInc, oI2, oI2n, oF2, oD2, oF2d, oIcv, oFcmp, oDcmp, oLcmp, oDup, oDupx1, oPop, oIf, oIc, oGoto, oNonnull, oGi, oGi2, oGr, oGr2, oPi, oPi2, oPz, oPr, oPr2, oAi, oAf, oAl, oAd, oAr, oSi, oSf, oSl, oSd, oSr, oRetI, oRetZ, oRetC, oRetF, oRetD, oRetA, oRetV, oCallS, oCallV, recvP, oThrow, oSw, oDisp, dispA, lk, Nat.beq, oMm, oCopy, oAlen, oAcmp, entA, lset, lset2, Value.category, Nat.reduceEqDiff, Nat.reduceAdd, Nat.reduceLT, Nat.reduceLeDiff, Nat.reduceBEq, beq_self_eq_true, Bool.or_false, Bool.false_or, Bool.or_true, Bool.true_or, ite_false, ite_true, if_true, if_false, reduceIte, reduceCtorEq, Nat.le_refl, Nat.zero_le, and_true, true_and, true_or, or_true, and_self, implies_true, not_true_eq_false, not_false_eq_true, List.take, List.drop, List.reverse_cons, List.reverse_nil, List.nil_append, List.cons_append, List.length_cons, List.length_nil, List.map_cons, List.map_nil, List.sum_cons, List.sum_nil, Option.toList, va_rf, Nat.add_zero, Nat.zero_add, List.forall_mem_cons, List.not_mem_nil, or_false, false_implies, eq_self, true_implies, b2i_eq0, b2i_eq1, b2i_01, em_nn, cl_0, cl_1, cl_2, vin_0, vin_1, vin_2, u2_ap, r2_ap, Sum.inl.injEq, Option.some.injEq, Value.int.injEq, sh_44, rr_44_3, sh_45, re, se, me, ct, it, cv, iv]
  exact h
theorem c_setNeutralF (hd : 2 ≤ d) {t v k : Nat} (ht : t < 18) (hv : v < 8) (hk : k < 7) (h : P (.inl none) 150 (I, u2 F (46 + t) v (neF (nI k)), RR pr sv, L, D)) : CallOK d 0 0 yX2_setNeutral (Cond.code yX2_setNeutral cX2_setNeutral 4 none) [.ref 44, .int (nI t), .int (nI v), .int (nI (300 + k))] 150 (I, F, RR pr sv, L, D) P := by
  obtain ⟨re, se⟩ := rwF ht pr sv
  have me : 46 + t < 150 := by omega
  have ct := nI_clamp (n := t) (by omega)
  have it := vp_in_nI (n := t) (N := 18) (by omega) (by decide)
  have cv := nI_clamp (n := v) (by omega)
  have iv := vp_in_nI (n := v) (N := 8) (by omega) (by decide)
  obtain ⟨d, rfl⟩ : ∃ e, d = e + 1 := ⟨d - 1, by omega⟩
  refine iX2_setNeutral (Nat.le_of_ble_eq_true rfl) (fun J hJ => ?_)
  refine hJ 40 (fun pc => pc == 11) _ _ _ _ _ ?_
  simp -implicitDefEqProofs only [lX2_setNeutral_0, lX2_setNeutral_1, lX2_setNeutral_4, lX2_setNeutral_5, lX2_setNeutral_6, lX2_setNeutral_7, lX2_setNeutral_8, lX2_setNeutral_11, lX2_setNeutral_12, wpS, ↓reduceIte, Bool.false_eq_true, false_and, and_false, cond_false, cond_true, Bool.cond_false, Bool.cond_true, oPush, oIld, oFld, oDld, oAld, oIst, oFst, oDst, oAst, oInc, oI2, oI2n, oF2, oD2, oF2d, oIcv, oFcmp, oDcmp, oLcmp, oDup, oDupx1, oPop, oIf, oIc, oGoto, oNonnull, oGi, oGi2, oGr, oGr2, oPi, oPi2, oPz, oPr, oPr2, oAi, oAf, oAl, oAd, oAr, oSi, oSf, oSl, oSd, oSr, oRetI, oRetZ, oRetC, oRetF, oRetD, oRetA, oRetV, oCallS, oCallV, recvP, oThrow, oSw, oDisp, dispA, lk, Nat.beq, oMm, oCopy, oAlen, oAcmp, entA, lset, lset2, Value.category, Nat.reduceEqDiff, Nat.reduceAdd, Nat.reduceLT, Nat.reduceLeDiff, Nat.reduceBEq, beq_self_eq_true, Bool.or_false, Bool.false_or, Bool.or_true, Bool.true_or, ite_false, ite_true, if_true, if_false, reduceIte, reduceCtorEq, Nat.le_refl, Nat.zero_le, and_true, true_and, true_or, or_true, and_self, implies_true, not_true_eq_false, not_false_eq_true, List.take, List.drop, List.reverse_cons, List.reverse_nil, List.nil_append, List.cons_append, List.length_cons, List.length_nil, List.map_cons, List.map_nil, List.sum_cons, List.sum_nil, Option.toList, va_rf, Nat.add_zero, Nat.zero_add, List.forall_mem_cons, List.not_mem_nil, or_false, false_implies, eq_self, true_implies, b2i_eq0, b2i_eq1, b2i_01, em_nn, cl_0, cl_1, cl_2, vin_0, vin_1, vin_2, u2_ap, r2_ap, Sum.inl.injEq, Option.some.injEq, Value.int.injEq, sh_44, rr_44_3, sh_45, re, se, me, ct, it, cv, iv]
  refine c_neutralOfF (by omega) hk ?_
  simp only [Nat.add_zero, Nat.zero_add, true_and, and_true, Option.toList, List.nil_append, List.cons_append, List.append_nil, reduceCtorEq, and_self, List.drop, List.take, eq_self]
  refine hJ 40 (fun pc => pc == 11) _ _ _ _ _ ?_
  simp -implicitDefEqProofs only [lX2_setNeutral_0, lX2_setNeutral_1, lX2_setNeutral_4, lX2_setNeutral_5, lX2_setNeutral_6, lX2_setNeutral_7, lX2_setNeutral_8, lX2_setNeutral_11, lX2_setNeutral_12, wpS, ↓reduceIte, Bool.false_eq_true, false_and, and_false, cond_false, cond_true, Bool.cond_false, Bool.cond_true, oPush, oIld, oFld, oDld, oAld, oIst, oFst, oDst, oAst, oInc, oI2, oI2n, oF2, oD2, oF2d, oIcv, oFcmp, oDcmp, oLcmp, oDup, oDupx1, oPop, oIf, oIc, oGoto, oNonnull, oGi, oGi2, oGr, oGr2, oPi, oPi2, oPz, oPr, oPr2, oAi, oAf, oAl, oAd, oAr, oSi, oSf, oSl, oSd, oSr, oRetI, oRetZ, oRetC, oRetF, oRetD, oRetA, oRetV, oCallS, oCallV, recvP, oThrow, oSw, oDisp, dispA, lk, Nat.beq, oMm, oCopy, oAlen, oAcmp, entA, lset, lset2, Value.category, Nat.reduceEqDiff, Nat.reduceAdd, Nat.reduceLT, Nat.reduceLeDiff, Nat.reduceBEq, beq_self_eq_true, Bool.or_false, Bool.false_or, Bool.or_true, Bool.true_or, ite_false, ite_true, if_true, if_false, reduceIte, reduceCtorEq, Nat.le_refl, Nat.zero_le, and_true, true_and, true_or, or_true, and_self, implies_true, not_true_eq_false, not_false_eq_true, List.take, List.drop, List.reverse_cons, List.reverse_nil, List.nil_append, List.cons_append, List.length_cons, List.length_nil, List.map_cons, List.map_nil, List.sum_cons, List.sum_nil, Option.toList, va_rf, Nat.add_zero, Nat.zero_add, List.forall_mem_cons, List.not_mem_nil, or_false, false_implies, eq_self, true_implies, b2i_eq0, b2i_eq1, b2i_01, em_nn, cl_0, cl_1, cl_2, vin_0, vin_1, vin_2, u2_ap, r2_ap, Sum.inl.injEq, Option.some.injEq, Value.int.injEq, se, me, cv, iv]
  exact h
theorem c_copyValueF (hd : 1 ≤ d) {t s v : Nat} (ht : t < 18) (hs : s < 18) (hv : v < 8) (h : P (.inl none) 150 (I, u2 F (46 + t) v ((F (46 + s)) v), RR pr sv, L, D)) : CallOK d 0 0 yX2_copyValue (Cond.code yX2_copyValue cX2_copyValue 4 none) [.ref 44, .int (nI t), .int (nI s), .int (nI v)] 150 (I, F, RR pr sv, L, D) P := by
  obtain ⟨re, se⟩ := rwF ht pr sv
  have me : 46 + t < 150 := by omega
  obtain ⟨re2, se2⟩ := rwF hs pr sv
  have me2 : 46 + s < 150 := by omega
  have ct := nI_clamp (n := t) (by omega)
  have it := vp_in_nI (n := t) (N := 18) (by omega) (by decide)
  have cs := nI_clamp (n := s) (by omega)
  have is := vp_in_nI (n := s) (N := 18) (by omega) (by decide)
  have cv := nI_clamp (n := v) (by omega)
  have iv := vp_in_nI (n := v) (N := 8) (by omega) (by decide)
  obtain ⟨d, rfl⟩ : ∃ e, d = e + 1 := ⟨d - 1, by omega⟩
  refine iX2_copyValue (Nat.le_of_ble_eq_true rfl) (fun J hJ => ?_)
  refine hJ 40 (fun pc => false) _ _ _ _ _ ?_
  simp -implicitDefEqProofs only [lX2_copyValue_0, lX2_copyValue_1, lX2_copyValue_4, lX2_copyValue_5, lX2_copyValue_6, lX2_copyValue_7, lX2_copyValue_8, lX2_copyValue_11, lX2_copyValue_12, lX2_copyValue_13, lX2_copyValue_14, lX2_copyValue_15, lX2_copyValue_16, wpS, ↓reduceIte, Bool.false_eq_true, false_and, and_false, cond_false, cond_true, Bool.cond_false, Bool.cond_true, oPush, oIld, oFld, oDld, oAld, oIst, oFst, oDst, oAst, oInc, oI2, oI2n, oF2, oD2, oF2d, oIcv, oFcmp, oDcmp, oLcmp, oDup, oDupx1, oPop, oIf, oIc, oGoto, oNonnull, oGi, oGi2, oGr, oGr2, oPi, oPi2, oPz, oPr, oPr2, oAi, oAf, oAl, oAd, oAr, oSi, oSf, oSl, oSd, oSr, oRetI, oRetZ, oRetC, oRetF, oRetD, oRetA, oRetV, oCallS, oCallV, recvP, oThrow, oSw, oDisp, dispA, lk, Nat.beq, oMm, oCopy, oAlen, oAcmp, entA, lset, lset2, Value.category, Nat.reduceEqDiff, Nat.reduceAdd, Nat.reduceLT, Nat.reduceLeDiff, Nat.reduceBEq, beq_self_eq_true, Bool.or_false, Bool.false_or, Bool.or_true, Bool.true_or, ite_false, ite_true, if_true, if_false, reduceIte, reduceCtorEq, Nat.le_refl, Nat.zero_le, and_true, true_and, true_or, or_true, and_self, implies_true, not_true_eq_false, not_false_eq_true, List.take, List.drop, List.reverse_cons, List.reverse_nil, List.nil_append, List.cons_append, List.length_cons, List.length_nil, List.map_cons, List.map_nil, List.sum_cons, List.sum_nil, Option.toList, va_rf, Nat.add_zero, Nat.zero_add, List.forall_mem_cons, List.not_mem_nil, or_false, false_implies, eq_self, true_implies, b2i_eq0, b2i_eq1, b2i_01, em_nn, cl_0, cl_1, cl_2, vin_0, vin_1, vin_2, u2_ap, r2_ap, Sum.inl.injEq, Option.some.injEq, Value.int.injEq, sh_44, rr_44_3, sh_45, re, se, me, re2, se2, me2, ct, it, cs, is, cv, iv]
  exact h
theorem c_storeValueF (hd : 1 ≤ d) {t v : Nat} (ht : t < 18) (hv : v < 8) (h : P (.inl none) 150 (I, u2 F (46 + t) v (F 64 0), RR pr sv, L, D)) : CallOK d 0 0 yX2_storeValue (Cond.code yX2_storeValue cX2_storeValue 3 none) [.ref 44, .int (nI t), .int (nI v)] 150 (I, F, RR pr sv, L, D) P := by
  obtain ⟨re, se⟩ := rwF ht pr sv
  have me : 46 + t < 150 := by omega
  have ct := nI_clamp (n := t) (by omega)
  have it := vp_in_nI (n := t) (N := 18) (by omega) (by decide)
  have cv := nI_clamp (n := v) (by omega)
  have iv := vp_in_nI (n := v) (N := 8) (by omega) (by decide)
  obtain ⟨d, rfl⟩ : ∃ e, d = e + 1 := ⟨d - 1, by omega⟩
  refine iX2_storeValue (Nat.le_of_ble_eq_true rfl) (fun J hJ => ?_)
  refine hJ 40 (fun pc => false) _ _ _ _ _ ?_
  simp -implicitDefEqProofs only [lX2_storeValue_0, lX2_storeValue_1, lX2_storeValue_4, lX2_storeValue_5, lX2_storeValue_6, lX2_storeValue_7, lX2_storeValue_8, lX2_storeValue_11, lX2_storeValue_12, lX2_storeValue_13, lX2_storeValue_14, wpS, ↓reduceIte, Bool.false_eq_true, false_and, and_false, cond_false, cond_true, Bool.cond_false, Bool.cond_true, oPush, oIld, oFld, oDld, oAld, oIst, oFst, oDst, oAst, oInc, oI2, oI2n, oF2, oD2, oF2d, oIcv, oFcmp, oDcmp, oLcmp, oDup, oDupx1, oPop, oIf, oIc, oGoto, oNonnull, oGi, oGi2, oGr, oGr2, oPi, oPi2, oPz, oPr, oPr2, oAi, oAf, oAl, oAd, oAr, oSi, oSf, oSl, oSd, oSr, oRetI, oRetZ, oRetC, oRetF, oRetD, oRetA, oRetV, oCallS, oCallV, recvP, oThrow, oSw, oDisp, dispA, lk, Nat.beq, oMm, oCopy, oAlen, oAcmp, entA, lset, lset2, Value.category, Nat.reduceEqDiff, Nat.reduceAdd, Nat.reduceLT, Nat.reduceLeDiff, Nat.reduceBEq, beq_self_eq_true, Bool.or_false, Bool.false_or, Bool.or_true, Bool.true_or, ite_false, ite_true, if_true, if_false, reduceIte, reduceCtorEq, Nat.le_refl, Nat.zero_le, and_true, true_and, true_or, or_true, and_self, implies_true, not_true_eq_false, not_false_eq_true, List.take, List.drop, List.reverse_cons, List.reverse_nil, List.nil_append, List.cons_append, List.length_cons, List.length_nil, List.map_cons, List.map_nil, List.sum_cons, List.sum_nil, Option.toList, va_rf, Nat.add_zero, Nat.zero_add, List.forall_mem_cons, List.not_mem_nil, or_false, false_implies, eq_self, true_implies, b2i_eq0, b2i_eq1, b2i_01, em_nn, cl_0, cl_1, cl_2, vin_0, vin_1, vin_2, u2_ap, r2_ap, Sum.inl.injEq, Option.some.injEq, Value.int.injEq, sh_44, rr_44_3, rr_44_4, sh_64, sh_45, re, se, me, ct, it, cv, iv]
  exact h
theorem c_combineI (hd : 2 ≤ d) {t s v k : Nat} (ht : t < 18) (hs : s < 18) (hv : v < 8) (hk : k < 7) (ho : opkI k) (hf : okI F) (h : P (.inl none) 150 (u2 I (25 + t) v (iby k (I (25 + t) v) (I (25 + s) v)), F, RR pr sv, L, D)) : CallOK d 0 0 yX4_combine (Cond.code yX4_combine cX4_combine 5 none) [.ref 23, .int (nI t), .int (nI s), .int (nI v), .int (nI (300 + k))] 150 (I, F, RR pr sv, L, D) P := by
  obtain ⟨re, se⟩ := rwI ht pr sv
  have me : 25 + t < 150 := by omega
  obtain ⟨re2, se2⟩ := rwI hs pr sv
  have me2 : 25 + s < 150 := by omega
  have ct := nI_clamp (n := t) (by omega)
  have it := vp_in_nI (n := t) (N := 18) (by omega) (by decide)
  have cs := nI_clamp (n := s) (by omega)
  have is := vp_in_nI (n := s) (N := 18) (by omega) (by decide)
  have cv := nI_clamp (n := v) (by omega)
  have iv := vp_in_nI (n := v) (N := 8) (by omega) (by decide)
  obtain ⟨d, rfl⟩ : ∃ e, d = e + 1 := ⟨d - 1, by omega⟩
  refine iX4_combine (Nat.le_of_ble_eq_true rfl) (fun J hJ => ?_)
  refine hJ 40 (fun pc => pc == 28) _ _ _ _ _ ?_
  simp -implicitDefEqProofs only [lX4_combine_0, lX4_combine_1, lX4_combine_4, lX4_combine_5, lX4_combine_6, lX4_combine_7, lX4_combine_9, lX4_combine_10, lX4_combine_13, lX4_combine_14, lX4_combine_15, lX4_combine_16, lX4_combine_17, lX4_combine_18, lX4_combine_21, lX4_combine_22, lX4_combine_23, lX4_combine_24, lX4_combine_25, lX4_combine_28, lX4_combine_29, wpS, ↓reduceIte, Bool.false_eq_true, false_and, and_false, cond_false, cond_true, Bool.cond_false, Bool.cond_true, oPush, oIld, oFld, oDld, oAld, oIst, oFst, oDst, oAst, oInc, oI2, oI2n, oF2, oD2, oF2d, oIcv, oFcmp, oDcmp, oLcmp, oDup, oDupx1, oPop, oIf, oIc, oGoto, oNonnull, oGi, oGi2, oGr, oGr2, oPi, oPi2, oPz, oPr, oPr2, oAi, oAf, oAl, oAd, oAr, oSi, oSf, oSl, oSd, oSr, oRetI, oRetZ, oRetC, oRetF, oRetD, oRetA, oRetV, oCallS, oCallV, recvP, oThrow, oSw, oDisp, dispA, lk, Nat.beq, oMm, oCopy, oAlen, oAcmp, entA, lset, lset2, Value.category, Nat.reduceEqDiff, Nat.reduceAdd, Nat.reduceLT, Nat.reduceLeDiff, Nat.reduceBEq, beq_self_eq_true, Bool.or_false, Bool.false_or, Bool.or_true, Bool.true_or, ite_false, ite_true, if_true, if_false, reduceIte, reduceCtorEq, Nat.le_refl, Nat.zero_le, and_true, true_and, true_or, or_true, and_self, implies_true, not_true_eq_false, not_false_eq_true, List.take, List.drop, List.reverse_cons, List.reverse_nil, List.nil_append, List.cons_append, List.length_cons, List.length_nil, List.map_cons, List.map_nil, List.sum_cons, List.sum_nil, Option.toList, va_rf, Nat.add_zero, Nat.zero_add, List.forall_mem_cons, List.not_mem_nil, or_false, false_implies, eq_self, true_implies, b2i_eq0, b2i_eq1, b2i_01, em_nn, cl_0, cl_1, cl_2, vin_0, vin_1, vin_2, u2_ap, r2_ap, Sum.inl.injEq, Option.some.injEq, Value.int.injEq, sh_23, rr_23_3, sh_24, re, se, me, re2, se2, me2, ct, it, cs, is, cv, iv]
  refine c_calculateI (by omega) (by omega) ho hf ?_
  simp only [Nat.add_zero, Nat.zero_add, true_and, and_true, Option.toList, List.nil_append, List.cons_append, List.append_nil, reduceCtorEq, and_self, List.drop, List.take, eq_self]
  refine hJ 40 (fun pc => pc == 28) _ _ _ _ _ ?_
  simp -implicitDefEqProofs only [lX4_combine_0, lX4_combine_1, lX4_combine_4, lX4_combine_5, lX4_combine_6, lX4_combine_7, lX4_combine_9, lX4_combine_10, lX4_combine_13, lX4_combine_14, lX4_combine_15, lX4_combine_16, lX4_combine_17, lX4_combine_18, lX4_combine_21, lX4_combine_22, lX4_combine_23, lX4_combine_24, lX4_combine_25, lX4_combine_28, lX4_combine_29, wpS, ↓reduceIte, Bool.false_eq_true, false_and, and_false, cond_false, cond_true, Bool.cond_false, Bool.cond_true, oPush, oIld, oFld, oDld, oAld, oIst, oFst, oDst, oAst, oInc, oI2, oI2n, oF2, oD2, oF2d, oIcv, oFcmp, oDcmp, oLcmp, oDup, oDupx1, oPop, oIf, oIc, oGoto, oNonnull, oGi, oGi2, oGr, oGr2, oPi, oPi2, oPz, oPr, oPr2, oAi, oAf, oAl, oAd, oAr, oSi, oSf, oSl, oSd, oSr, oRetI, oRetZ, oRetC, oRetF, oRetD, oRetA, oRetV, oCallS, oCallV, recvP, oThrow, oSw, oDisp, dispA, lk, Nat.beq, oMm, oCopy, oAlen, oAcmp, entA, lset, lset2, Value.category, Nat.reduceEqDiff, Nat.reduceAdd, Nat.reduceLT, Nat.reduceLeDiff, Nat.reduceBEq, beq_self_eq_true, Bool.or_false, Bool.false_or, Bool.or_true, Bool.true_or, ite_false, ite_true, if_true, if_false, reduceIte, reduceCtorEq, Nat.le_refl, Nat.zero_le, and_true, true_and, true_or, or_true, and_self, implies_true, not_true_eq_false, not_false_eq_true, List.take, List.drop, List.reverse_cons, List.reverse_nil, List.nil_append, List.cons_append, List.length_cons, List.length_nil, List.map_cons, List.map_nil, List.sum_cons, List.sum_nil, Option.toList, va_rf, Nat.add_zero, Nat.zero_add, List.forall_mem_cons, List.not_mem_nil, or_false, false_implies, eq_self, true_implies, b2i_eq0, b2i_eq1, b2i_01, em_nn, cl_0, cl_1, cl_2, vin_0, vin_1, vin_2, u2_ap, r2_ap, Sum.inl.injEq, Option.some.injEq, Value.int.injEq, se, me, cv, iv]
  exact h
theorem c_combineF (hd : 2 ≤ d) {t s v k : Nat} (ht : t < 18) (hs : s < 18) (hv : v < 8) (hk : k < 7) (ho : opkF k) (hf : okF F) (h : P (.inl none) 150 (I, u2 F (46 + t) v (fby mmC k (F (46 + t) v) (F (46 + s) v)), RR pr sv, L, D)) : CallOK d 0 0 yX2_combine (Cond.code yX2_combine cX2_combine 5 none) [.ref 44, .int (nI t), .int (nI s), .int (nI v), .int (nI (300 + k))] 150 (I, F, RR pr sv, L, D) P := by
  obtain ⟨re, se⟩ := rwF ht pr sv
  have me : 46 + t < 150 := by omega
  obtain ⟨re2, se2⟩ := rwF hs pr sv
  have me2 : 46 + s < 150 := by omega
  have ct := nI_clamp (n := t) (by omega)
  have it := vp_in_nI (n := t) (N := 18) (by omega) (by decide)
  have cs := nI_clamp (n := s) (by omega)
  have is := vp_in_nI (n := s) (N := 18) (by omega) (by decide)
  have cv := nI_clamp (n := v) (by omega)
  have iv := vp_in_nI (n := v) (N := 8) (by omega) (by decide)
  obtain ⟨d, rfl⟩ : ∃ e, d = e + 1 := ⟨d - 1, by omega⟩
  refine iX2_combine (Nat.le_of_ble_eq_true rfl) (fun J hJ => ?_)
  refine hJ 40 (fun pc => pc == 28) _ _ _ _ _ ?_
  simp -implicitDefEqProofs only [lX2_combine_0, lX2_combine_1, lX2_combine_4, lX2_combine_5, lX2_combine_6, lX2_combine_7, lX2_combine_9, lX2_combine_10, lX2_combine_13, lX2_combine_14, lX2_combine_15, lX2_combine_16, lX2_combine_17, lX2_combine_18, lX2_combine_21, lX2_combine_22, lX2_combine_23, lX2_combine_24, lX2_combine_25, lX2_combine_28, lX2_combine_29, wpS, ↓reduceIte, Bool.false_eq_true, false_and, and_false, cond_false, cond_true, Bool.cond_false, Bool.cond_true, oPush, oIld, oFld, oDld, oAld, oIst, oFst, oDst, oAst, oInc, oI2, oI2n, oF2, oD2, oF2d, oIcv, oFcmp, oDcmp, oLcmp, oDup, oDupx1, oPop, oIf, oIc, oGoto, oNonnull, oGi, oGi2, oGr, oGr2, oPi, oPi2, oPz, oPr, oPr2, oAi, oAf, oAl, oAd, oAr, oSi, oSf, oSl, oSd, oSr, oRetI, oRetZ, oRetC, oRetF, oRetD, oRetA, oRetV, oCallS, oCallV, recvP, oThrow, oSw, oDisp, dispA, lk, Nat.beq, oMm, oCopy, oAlen, oAcmp, entA, lset, lset2, Value.category, Nat.reduceEqDiff, Nat.reduceAdd, Nat.reduceLT, Nat.reduceLeDiff, Nat.reduceBEq, beq_self_eq_true, Bool.or_false, Bool.false_or, Bool.or_true, Bool.true_or, ite_false, ite_true, if_true, if_false, reduceIte, reduceCtorEq, Nat.le_refl, Nat.zero_le, and_true, true_and, true_or, or_true, and_self, implies_true, not_true_eq_false, not_false_eq_true, List.take, List.drop, List.reverse_cons, List.reverse_nil, List.nil_append, List.cons_append, List.length_cons, List.length_nil, List.map_cons, List.map_nil, List.sum_cons, List.sum_nil, Option.toList, va_rf, Nat.add_zero, Nat.zero_add, List.forall_mem_cons, List.not_mem_nil, or_false, false_implies, eq_self, true_implies, b2i_eq0, b2i_eq1, b2i_01, em_nn, cl_0, cl_1, cl_2, vin_0, vin_1, vin_2, u2_ap, r2_ap, Sum.inl.injEq, Option.some.injEq, Value.int.injEq, sh_44, rr_44_3, sh_45, re, se, me, re2, se2, me2, ct, it, cs, is, cv, iv]
  refine c_calculateF (by omega) (by omega) ho (hf.1 t v ht hv) (hf.1 s v hs hv) ?_
  simp only [Nat.add_zero, Nat.zero_add, true_and, and_true, Option.toList, List.nil_append, List.cons_append, List.append_nil, reduceCtorEq, and_self, List.drop, List.take, eq_self]
  refine hJ 40 (fun pc => pc == 28) _ _ _ _ _ ?_
  simp -implicitDefEqProofs only [lX2_combine_0, lX2_combine_1, lX2_combine_4, lX2_combine_5, lX2_combine_6, lX2_combine_7, lX2_combine_9, lX2_combine_10, lX2_combine_13, lX2_combine_14, lX2_combine_15, lX2_combine_16, lX2_combine_17, lX2_combine_18, lX2_combine_21, lX2_combine_22, lX2_combine_23, lX2_combine_24, lX2_combine_25, lX2_combine_28, lX2_combine_29, wpS, ↓reduceIte, Bool.false_eq_true, false_and, and_false, cond_false, cond_true, Bool.cond_false, Bool.cond_true, oPush, oIld, oFld, oDld, oAld, oIst, oFst, oDst, oAst, oInc, oI2, oI2n, oF2, oD2, oF2d, oIcv, oFcmp, oDcmp, oLcmp, oDup, oDupx1, oPop, oIf, oIc, oGoto, oNonnull, oGi, oGi2, oGr, oGr2, oPi, oPi2, oPz, oPr, oPr2, oAi, oAf, oAl, oAd, oAr, oSi, oSf, oSl, oSd, oSr, oRetI, oRetZ, oRetC, oRetF, oRetD, oRetA, oRetV, oCallS, oCallV, recvP, oThrow, oSw, oDisp, dispA, lk, Nat.beq, oMm, oCopy, oAlen, oAcmp, entA, lset, lset2, Value.category, Nat.reduceEqDiff, Nat.reduceAdd, Nat.reduceLT, Nat.reduceLeDiff, Nat.reduceBEq, beq_self_eq_true, Bool.or_false, Bool.false_or, Bool.or_true, Bool.true_or, ite_false, ite_true, if_true, if_false, reduceIte, reduceCtorEq, Nat.le_refl, Nat.zero_le, and_true, true_and, true_or, or_true, and_self, implies_true, not_true_eq_false, not_false_eq_true, List.take, List.drop, List.reverse_cons, List.reverse_nil, List.nil_append, List.cons_append, List.length_cons, List.length_nil, List.map_cons, List.map_nil, List.sum_cons, List.sum_nil, Option.toList, va_rf, Nat.add_zero, Nat.zero_add, List.forall_mem_cons, List.not_mem_nil, or_false, false_implies, eq_self, true_implies, b2i_eq0, b2i_eq1, b2i_01, em_nn, cl_0, cl_1, cl_2, vin_0, vin_1, vin_2, u2_ap, r2_ap, Sum.inl.injEq, Option.some.injEq, Value.int.injEq, se, me, cv, iv]
  exact h
end
