/-! ===== the class's reader, over the same parser ===== -/
def cho (ch : Nat → Int32) : Prop := ∀ j, ∃ q, q < 65536 ∧ ch j = nI q
def CS (ch : Nat → Int32) (len : Nat) (I : Nat → Nat → Int32) (p c : Nat) : Prop := I 1 1 = nI len ∧ I 1 2 = nI p ∧ I 1 4 = nI c ∧ p ≤ len ∧ len ≤ 100 ∧ (∀ j, j < len → I 2 j = ch j) ∧ chz ch len ∧ cho ch
def CFr (I I' : Nat → Nat → Int32) (c : Nat) : Prop := (∀ a, a ≠ 1 → a ≠ 3 → I' a = I a) ∧ (∀ j, j ≠ 2 → j ≠ 4 → I' 1 j = I 1 j) ∧ (∀ j, j < c → I' 3 j = I 3 j)
theorem CFr.refl (I : Nat → Nat → Int32) (c : Nat) : CFr I I c := ⟨fun _ _ _ => rfl, fun _ _ _ => rfl, fun _ _ => rfl⟩
theorem CFr.trans {I I1 I2 : Nat → Nat → Int32} {c c1 : Nat} (h : CFr I I1 c) (h' : CFr I1 I2 c1) (hc : c ≤ c1) : CFr I I2 c := ⟨fun a h1 h2 => (h'.1 a h1 h2).trans (h.1 a h1 h2), fun j h1 h2 => (h'.2.1 j h1 h2).trans (h.2.1 j h1 h2), fun j hj => (h'.2.2 j (by omega)).trans (h.2.2 j hj)⟩
theorem CFr.u2s {I : Nat → Nat → Int32} {c : Nat} {x : Int32} : CFr I (u2 I 1 2 x) c := ⟨fun a h1 _ => u2_ne _ _ _ h1, fun j h1 _ => by simp [u2_ap, h1], fun j _ => by rw [u2_ne _ _ _ (by decide)]⟩
theorem CS.lt {ch : Nat → Int32} {len : Nat} {I : Nat → Nat → Int32} {p c : Nat} (h : CS ch len I p c) (hc : ch p ≠ 0) : p < len := chz_lt h.2.2.2.2.2.2.1 hc
theorem CS.adv {ch : Nat → Int32} {len : Nat} {I : Nat → Nat → Int32} {p c : Nat} {x : Int32} (h : CS ch len I p c) (hp : p < len) (hx : x = nI (p + 1)) : CS ch len (u2 I 1 2 x) (p + 1) c := by
  obtain ⟨h1, h2, h3, h4, h5, h6, h7, h8⟩ := h
  exact ⟨by simpa [u2_ap] using h1, by simp [u2_ap, hx], by simpa [u2_ap] using h3, by omega, h5, fun j hj => by simpa [u2_ap] using h6 j hj, h7, h8⟩
def CPost (ch : Nat → Int32) (len : Nat) (I : Nat → Nat → Int32) (c : Nat) (r : PR) (I' : Nat → Nat → Int32) : Prop := ∃ c', CS ch len I' r.2.1 c' ∧ CFr I I' c ∧ c ≤ c' ∧ (r.1 = true → c' = c + r.2.2.length ∧ At (I' 3) c r.2.2)
def CC (ch : Nat → Int32) (len d0 : Nat) (y : MethodName) (cw : Cond) (av : List Value) (rec : Nat → PR) : Prop := ∀ (d : Nat) (P : PO) (I : Nat → Nat → Int32) (F : Nat → Nat → UInt32) (L : Nat → Nat → Int64) (D : Nat → Nat → UInt64) (pr : Nat) (sv : Option Nat) (p c : Nat), d0 ≤ d → CS ch len I p c → c ≤ p → (∀ I', CPost ch len I c (rec p) I' → P (.inl (some (.int (b2i ((rec p).1 = true))))) 150 (I', F, RR pr sv, L, D)) → CallOK d 0 0 y cw av 150 (I, F, RR pr sv, L, D) P
theorem char_ok {ch : Nat → Int32} (h : cho ch) (p : Nat) : narrow .char (.int (ch p)) = .int (ch p) := by
  obtain ⟨q, hq, e⟩ := h p
  rw [e]
  exact (pk_charN hq).1
def lvi (c : Int32) : Int32 := if lvc c = 3 then -1 else nI (lvc c)
theorem lvc_le (c : Int32) : lvc c ≤ 3 := by unfold lvc; split <;> (try split) <;> (try split) <;> omega
theorem lvi_eq {c : Int32} {l : Nat} (hl : l < 3) : lvi c = nI l ↔ lvc c = l := by
  have h3 := lvc_le c
  unfold lvi
  by_cases h : lvc c = 3
  · rw [if_pos h]
    exact ⟨fun e => absurd e.symm (nI_neg1 (by omega)), fun e => by omega⟩
  · rw [if_neg h]
    exact nI_eq (by omega) (by omega)
section
variable {d : Nat} {P : PO} {I : Nat → Nat → Int32} {F : Nat → Nat → UInt32} {L : Nat → Nat → Int64} {D : Nat → Nat → UInt64} {pr : Nat} {sv : Option Nat}
variable {ch : Nat → Int32} {len : Nat} {p c : Nat}
theorem c_isVariable (hd : 1 ≤ d) {x : Int32} {n : Nat} {M : PM} (h : P (.inl (some (.int (b2i (isv x))))) n M) : CallOK d 0 0 yX7_isVariable (Cond.code yX7_isVariable cX7_isVariable 1 (some .boolean)) [.int x] n M P := by
  obtain ⟨d, rfl⟩ : ∃ e, d = e + 1 := ⟨d - 1, by omega⟩
  refine iX7_isVariable (Nat.le_of_ble_eq_true rfl) (fun J hJ => ?_)
  refine hJ 40 (fun pc => pc == 16) _ _ _ _ _ ?_
  simp -implicitDefEqProofs only [lX7_isVariable_0, lX7_isVariable_1, lX7_isVariable_3, lX7_isVariable_6, lX7_isVariable_7, lX7_isVariable_9, lX7_isVariable_12, lX7_isVariable_13, lX7_isVariable_16, lX7_isVariable_17, wpS, ↓reduceIte, Bool.false_eq_true, false_and, and_false, cond_false, cond_true, Bool.cond_false, Bool.cond_true, oPush, oIld, oFld, oDld, oAld, oIst, oFst, oDst, oAst, oInc, oI2, oI2n, oF2, oD2, oF2d, oIcv, oFcmp, oDcmp, oLcmp, oDup, oDupx1, oPop, oIf, oIc, oGoto, oNonnull, oGi, oGi2, oGr, oGr2, oPi, oPi2, oPz, oPr, oPr2, oAi, oAf, oAl, oAd, oAr, oSi, oSf, oSl, oSd, oSr, oRetI, oRetZ, oRetC, oRetF, oRetD, oRetA, oRetV, oCallS, oCallV, recvP, oThrow, oSw, oDisp, dispA, lk, Nat.beq, oMm, oCopy, oAlen, oAcmp, entA, lset, lset2, Value.category, Nat.reduceEqDiff, Nat.reduceAdd, Nat.reduceLT, Nat.reduceLeDiff, Nat.reduceBEq, beq_self_eq_true, Bool.or_false, Bool.false_or, Bool.or_true, Bool.true_or, ite_false, ite_true, if_true, if_false, reduceIte, reduceCtorEq, Nat.le_refl, Nat.zero_le, and_true, true_and, true_or, or_true, and_self, implies_true, not_true_eq_false, not_false_eq_true, List.take, List.drop, List.reverse_cons, List.reverse_nil, List.nil_append, List.cons_append, List.length_cons, List.length_nil, List.map_cons, List.map_nil, List.sum_cons, List.sum_nil, Option.toList, va_rf, Nat.add_zero, Nat.zero_add, List.forall_mem_cons, List.not_mem_nil, or_false, false_implies, eq_self, true_implies, b2i_eq0, b2i_eq1, b2i_01, em_nn, cl_0, cl_1, cl_2, vin_0, vin_1, vin_2, u2_ap, r2_ap, Sum.inl.injEq, Option.some.injEq, Value.int.injEq, sh_1]
  have j16 : ∀ lv : LV, ¬ isv x → J 16 lv [] (n, 0, 0) M := by
    intro lv e
    refine hJ 40 (fun pc => pc == 16) _ _ _ _ _ ?_
    simp -implicitDefEqProofs only [lX7_isVariable_0, lX7_isVariable_1, lX7_isVariable_3, lX7_isVariable_6, lX7_isVariable_7, lX7_isVariable_9, lX7_isVariable_12, lX7_isVariable_13, lX7_isVariable_16, lX7_isVariable_17, wpS, ↓reduceIte, Bool.false_eq_true, false_and, and_false, cond_false, cond_true, Bool.cond_false, Bool.cond_true, oPush, oIld, oFld, oDld, oAld, oIst, oFst, oDst, oAst, oInc, oI2, oI2n, oF2, oD2, oF2d, oIcv, oFcmp, oDcmp, oLcmp, oDup, oDupx1, oPop, oIf, oIc, oGoto, oNonnull, oGi, oGi2, oGr, oGr2, oPi, oPi2, oPz, oPr, oPr2, oAi, oAf, oAl, oAd, oAr, oSi, oSf, oSl, oSd, oSr, oRetI, oRetZ, oRetC, oRetF, oRetD, oRetA, oRetV, oCallS, oCallV, recvP, oThrow, oSw, oDisp, dispA, lk, Nat.beq, oMm, oCopy, oAlen, oAcmp, entA, lset, lset2, Value.category, Nat.reduceEqDiff, Nat.reduceAdd, Nat.reduceLT, Nat.reduceLeDiff, Nat.reduceBEq, beq_self_eq_true, Bool.or_false, Bool.false_or, Bool.or_true, Bool.true_or, ite_false, ite_true, if_true, if_false, reduceIte, reduceCtorEq, Nat.le_refl, Nat.zero_le, and_true, true_and, true_or, or_true, and_self, implies_true, not_true_eq_false, not_false_eq_true, List.take, List.drop, List.reverse_cons, List.reverse_nil, List.nil_append, List.cons_append, List.length_cons, List.length_nil, List.map_cons, List.map_nil, List.sum_cons, List.sum_nil, Option.toList, va_rf, Nat.add_zero, Nat.zero_add, List.forall_mem_cons, List.not_mem_nil, or_false, false_implies, eq_self, true_implies, b2i_eq0, b2i_eq1, b2i_01, em_nn, cl_0, cl_1, cl_2, vin_0, vin_1, vin_2, u2_ap, r2_ap, Sum.inl.injEq, Option.some.injEq, Value.int.injEq, sh_1]
    rw [b2i_eq0.mpr e] at h
    exact h
  refine ⟨fun w => j16 _ (fun e => Int32.not_lt.mpr e.1 w), fun w => ⟨fun w2 => j16 _ (fun e => Int32.not_lt.mpr e.2 w2), fun w2 => ?_⟩⟩
  rw [b2i_eq1.mpr ⟨Int32.not_lt.mp w, Int32.not_lt.mp w2⟩] at h
  exact h
theorem c_isDigit (hd : 1 ≤ d) {x : Int32} {n : Nat} {M : PM} (h : P (.inl (some (.int (b2i (dgt x))))) n M) : CallOK d 0 0 yX7_isDigit (Cond.code yX7_isDigit cX7_isDigit 1 (some .boolean)) [.int x] n M P := by
  obtain ⟨d, rfl⟩ : ∃ e, d = e + 1 := ⟨d - 1, by omega⟩
  refine iX7_isDigit (Nat.le_of_ble_eq_true rfl) (fun J hJ => ?_)
  refine hJ 40 (fun pc => pc == 16) _ _ _ _ _ ?_
  simp -implicitDefEqProofs only [lX7_isDigit_0, lX7_isDigit_1, lX7_isDigit_3, lX7_isDigit_6, lX7_isDigit_7, lX7_isDigit_9, lX7_isDigit_12, lX7_isDigit_13, lX7_isDigit_16, lX7_isDigit_17, wpS, ↓reduceIte, Bool.false_eq_true, false_and, and_false, cond_false, cond_true, Bool.cond_false, Bool.cond_true, oPush, oIld, oFld, oDld, oAld, oIst, oFst, oDst, oAst, oInc, oI2, oI2n, oF2, oD2, oF2d, oIcv, oFcmp, oDcmp, oLcmp, oDup, oDupx1, oPop, oIf, oIc, oGoto, oNonnull, oGi, oGi2, oGr, oGr2, oPi, oPi2, oPz, oPr, oPr2, oAi, oAf, oAl, oAd, oAr, oSi, oSf, oSl, oSd, oSr, oRetI, oRetZ, oRetC, oRetF, oRetD, oRetA, oRetV, oCallS, oCallV, recvP, oThrow, oSw, oDisp, dispA, lk, Nat.beq, oMm, oCopy, oAlen, oAcmp, entA, lset, lset2, Value.category, Nat.reduceEqDiff, Nat.reduceAdd, Nat.reduceLT, Nat.reduceLeDiff, Nat.reduceBEq, beq_self_eq_true, Bool.or_false, Bool.false_or, Bool.or_true, Bool.true_or, ite_false, ite_true, if_true, if_false, reduceIte, reduceCtorEq, Nat.le_refl, Nat.zero_le, and_true, true_and, true_or, or_true, and_self, implies_true, not_true_eq_false, not_false_eq_true, List.take, List.drop, List.reverse_cons, List.reverse_nil, List.nil_append, List.cons_append, List.length_cons, List.length_nil, List.map_cons, List.map_nil, List.sum_cons, List.sum_nil, Option.toList, va_rf, Nat.add_zero, Nat.zero_add, List.forall_mem_cons, List.not_mem_nil, or_false, false_implies, eq_self, true_implies, b2i_eq0, b2i_eq1, b2i_01, em_nn, cl_0, cl_1, cl_2, vin_0, vin_1, vin_2, u2_ap, r2_ap, Sum.inl.injEq, Option.some.injEq, Value.int.injEq, sh_1]
  have j16 : ∀ lv : LV, ¬ dgt x → J 16 lv [] (n, 0, 0) M := by
    intro lv e
    refine hJ 40 (fun pc => pc == 16) _ _ _ _ _ ?_
    simp -implicitDefEqProofs only [lX7_isDigit_0, lX7_isDigit_1, lX7_isDigit_3, lX7_isDigit_6, lX7_isDigit_7, lX7_isDigit_9, lX7_isDigit_12, lX7_isDigit_13, lX7_isDigit_16, lX7_isDigit_17, wpS, ↓reduceIte, Bool.false_eq_true, false_and, and_false, cond_false, cond_true, Bool.cond_false, Bool.cond_true, oPush, oIld, oFld, oDld, oAld, oIst, oFst, oDst, oAst, oInc, oI2, oI2n, oF2, oD2, oF2d, oIcv, oFcmp, oDcmp, oLcmp, oDup, oDupx1, oPop, oIf, oIc, oGoto, oNonnull, oGi, oGi2, oGr, oGr2, oPi, oPi2, oPz, oPr, oPr2, oAi, oAf, oAl, oAd, oAr, oSi, oSf, oSl, oSd, oSr, oRetI, oRetZ, oRetC, oRetF, oRetD, oRetA, oRetV, oCallS, oCallV, recvP, oThrow, oSw, oDisp, dispA, lk, Nat.beq, oMm, oCopy, oAlen, oAcmp, entA, lset, lset2, Value.category, Nat.reduceEqDiff, Nat.reduceAdd, Nat.reduceLT, Nat.reduceLeDiff, Nat.reduceBEq, beq_self_eq_true, Bool.or_false, Bool.false_or, Bool.or_true, Bool.true_or, ite_false, ite_true, if_true, if_false, reduceIte, reduceCtorEq, Nat.le_refl, Nat.zero_le, and_true, true_and, true_or, or_true, and_self, implies_true, not_true_eq_false, not_false_eq_true, List.take, List.drop, List.reverse_cons, List.reverse_nil, List.nil_append, List.cons_append, List.length_cons, List.length_nil, List.map_cons, List.map_nil, List.sum_cons, List.sum_nil, Option.toList, va_rf, Nat.add_zero, Nat.zero_add, List.forall_mem_cons, List.not_mem_nil, or_false, false_implies, eq_self, true_implies, b2i_eq0, b2i_eq1, b2i_01, em_nn, cl_0, cl_1, cl_2, vin_0, vin_1, vin_2, u2_ap, r2_ap, Sum.inl.injEq, Option.some.injEq, Value.int.injEq, sh_1]
    rw [b2i_eq0.mpr e] at h
    exact h
  refine ⟨fun w => j16 _ (fun e => Int32.not_lt.mpr e.1 w), fun w => ⟨fun w2 => j16 _ (fun e => Int32.not_lt.mpr e.2 w2), fun w2 => ?_⟩⟩
  rw [b2i_eq1.mpr ⟨Int32.not_lt.mp w, Int32.not_lt.mp w2⟩] at h
  exact h
theorem c_codeOf (hd : 1 ≤ d) {x : Int32} {n : Nat} {M : PM} (h : P (.inl (some (.int (opc x)))) n M) : CallOK d 0 0 yX7_codeOf (Cond.code yX7_codeOf cX7_codeOf 1 (some .int)) [.int x] n M P := by
  obtain ⟨d, rfl⟩ : ∃ e, d = e + 1 := ⟨d - 1, by omega⟩
  refine iX7_codeOf (Nat.le_of_ble_eq_true rfl) (fun J hJ => ?_)
  refine hJ 40 (fun pc => false) _ _ _ _ _ ?_
  simp -implicitDefEqProofs only [lX7_codeOf_0, lX7_codeOf_1, lX7_codeOf_3, lX7_codeOf_6, lX7_codeOf_9, lX7_codeOf_10, lX7_codeOf_11, lX7_codeOf_13, lX7_codeOf_16, lX7_codeOf_19, lX7_codeOf_20, lX7_codeOf_21, lX7_codeOf_23, lX7_codeOf_26, lX7_codeOf_29, lX7_codeOf_30, lX7_codeOf_31, lX7_codeOf_33, lX7_codeOf_36, lX7_codeOf_39, lX7_codeOf_40, lX7_codeOf_41, lX7_codeOf_43, lX7_codeOf_46, lX7_codeOf_49, lX7_codeOf_50, lX7_codeOf_51, lX7_codeOf_53, lX7_codeOf_56, lX7_codeOf_59, lX7_codeOf_62, lX7_codeOf_63, wpS, ↓reduceIte, Bool.false_eq_true, false_and, and_false, cond_false, cond_true, Bool.cond_false, Bool.cond_true, oPush, oIld, oFld, oDld, oAld, oIst, oFst, oDst, oAst, oInc, oI2, oI2n, oF2, oD2, oF2d, oIcv, oFcmp, oDcmp, oLcmp, oDup, oDupx1, oPop, oIf, oIc, oGoto, oNonnull, oGi, oGi2, oGr, oGr2, oPi, oPi2, oPz, oPr, oPr2, oAi, oAf, oAl, oAd, oAr, oSi, oSf, oSl, oSd, oSr, oRetI, oRetZ, oRetC, oRetF, oRetD, oRetA, oRetV, oCallS, oCallV, recvP, oThrow, oSw, oDisp, dispA, lk, Nat.beq, oMm, oCopy, oAlen, oAcmp, entA, lset, lset2, Value.category, Nat.reduceEqDiff, Nat.reduceAdd, Nat.reduceLT, Nat.reduceLeDiff, Nat.reduceBEq, beq_self_eq_true, Bool.or_false, Bool.false_or, Bool.or_true, Bool.true_or, ite_false, ite_true, if_true, if_false, reduceIte, reduceCtorEq, Nat.le_refl, Nat.zero_le, and_true, true_and, true_or, or_true, and_self, implies_true, not_true_eq_false, not_false_eq_true, List.take, List.drop, List.reverse_cons, List.reverse_nil, List.nil_append, List.cons_append, List.length_cons, List.length_nil, List.map_cons, List.map_nil, List.sum_cons, List.sum_nil, Option.toList, va_rf, Nat.add_zero, Nat.zero_add, List.forall_mem_cons, List.not_mem_nil, or_false, false_implies, eq_self, true_implies, b2i_eq0, b2i_eq1, b2i_01, em_nn, cl_0, cl_1, cl_2, vin_0, vin_1, vin_2, u2_ap, r2_ap, Sum.inl.injEq, Option.some.injEq, Value.int.injEq, sh_1]
  unfold opc at h
  refine ⟨fun w => ?_, fun w => ⟨fun w2 => ?_, fun w2 => ⟨fun w3 => ?_, fun w3 => ⟨fun w4 => ?_, fun w4 => ⟨fun w5 => ?_, fun w5 => ⟨fun w6 => ?_, fun w6 => ?_⟩⟩⟩⟩⟩⟩
  · rw [if_pos w] at h; exact h
  · rw [if_neg w, if_pos w2] at h; exact h
  · rw [if_neg w, if_neg w2, if_pos w3] at h; exact h
  · rw [if_neg w, if_neg w2, if_neg w3, if_pos w4] at h; exact h
  · rw [if_neg w, if_neg w2, if_neg w3, if_neg w4, if_pos w5] at h; exact h
  · rw [if_neg w, if_neg w2, if_neg w3, if_neg w4, if_neg w5, if_pos w6] at h; exact h
  · rw [if_neg w, if_neg w2, if_neg w3, if_neg w4, if_neg w5, if_neg w6] at h; exact h
def lvo (x : Int32) : Int32 := if x = 302 ∨ x = 303 ∨ x = 304 then 0 else if x = 300 ∨ x = 307 then 1 else if x = 301 then 2 else -1
theorem lvo_opc (x : Int32) : lvo (opc x) = lvi x := by
  unfold lvi lvc opc
  by_cases h1 : x = 38
  · subst h1; decide
  by_cases h2 : x = 124
  · subst h2; decide
  by_cases h3 : x = 94
  · subst h3; decide
  by_cases h4 : x = 43
  · subst h4; decide
  by_cases h5 : x = 45
  · subst h5; decide
  by_cases h6 : x = 42
  · subst h6; decide
  simp [h1, h2, h3, h4, h5, h6]
  decide
theorem c_levelOf (hd : 1 ≤ d) {x : Int32} {n : Nat} {M : PM} (h : P (.inl (some (.int (lvo x)))) n M) : CallOK d 0 0 yX7_levelOf (Cond.code yX7_levelOf cX7_levelOf 1 (some .int)) [.int x] n M P := by
  obtain ⟨d, rfl⟩ : ∃ e, d = e + 1 := ⟨d - 1, by omega⟩
  refine iX7_levelOf (Nat.le_of_ble_eq_true rfl) (fun J hJ => ?_)
  refine hJ 40 (fun pc => pc == 21 || pc == 37) _ _ _ _ _ ?_
  simp -implicitDefEqProofs only [lX7_levelOf_0, lX7_levelOf_1, lX7_levelOf_4, lX7_levelOf_7, lX7_levelOf_8, lX7_levelOf_11, lX7_levelOf_14, lX7_levelOf_15, lX7_levelOf_18, lX7_levelOf_21, lX7_levelOf_22, lX7_levelOf_23, lX7_levelOf_24, lX7_levelOf_27, lX7_levelOf_30, lX7_levelOf_31, lX7_levelOf_34, lX7_levelOf_37, lX7_levelOf_38, lX7_levelOf_39, lX7_levelOf_40, lX7_levelOf_43, lX7_levelOf_46, lX7_levelOf_47, lX7_levelOf_50, lX7_levelOf_51, wpS, ↓reduceIte, Bool.false_eq_true, false_and, and_false, cond_false, cond_true, Bool.cond_false, Bool.cond_true, oPush, oIld, oFld, oDld, oAld, oIst, oFst, oDst, oAst, oInc, oI2, oI2n, oF2, oD2, oF2d, oIcv, oFcmp, oDcmp, oLcmp, oDup, oDupx1, oPop, oIf, oIc, oGoto, oNonnull, oGi, oGi2, oGr, oGr2, oPi, oPi2, oPz, oPr, oPr2, oAi, oAf, oAl, oAd, oAr, oSi, oSf, oSl, oSd, oSr, oRetI, oRetZ, oRetC, oRetF, oRetD, oRetA, oRetV, oCallS, oCallV, recvP, oThrow, oSw, oDisp, dispA, lk, Nat.beq, oMm, oCopy, oAlen, oAcmp, entA, lset, lset2, Value.category, Nat.reduceEqDiff, Nat.reduceAdd, Nat.reduceLT, Nat.reduceLeDiff, Nat.reduceBEq, beq_self_eq_true, Bool.or_false, Bool.false_or, Bool.or_true, Bool.true_or, ite_false, ite_true, if_true, if_false, reduceIte, reduceCtorEq, Nat.le_refl, Nat.zero_le, and_true, true_and, true_or, or_true, and_self, implies_true, not_true_eq_false, not_false_eq_true, List.take, List.drop, List.reverse_cons, List.reverse_nil, List.nil_append, List.cons_append, List.length_cons, List.length_nil, List.map_cons, List.map_nil, List.sum_cons, List.sum_nil, Option.toList, va_rf, Nat.add_zero, Nat.zero_add, List.forall_mem_cons, List.not_mem_nil, or_false, false_implies, eq_self, true_implies, b2i_eq0, b2i_eq1, b2i_01, em_nn, cl_0, cl_1, cl_2, vin_0, vin_1, vin_2, u2_ap, r2_ap, Sum.inl.injEq, Option.some.injEq, Value.int.injEq, sh_1]
  unfold lvo at h
  have j21 : ∀ lv : LV, (x = 302 ∨ x = 303 ∨ x = 304) → J 21 lv [] (n, 0, 0) M := by
    intro lv e
    refine hJ 40 (fun pc => pc == 21 || pc == 37) _ _ _ _ _ ?_
    simp -implicitDefEqProofs only [lX7_levelOf_0, lX7_levelOf_1, lX7_levelOf_4, lX7_levelOf_7, lX7_levelOf_8, lX7_levelOf_11, lX7_levelOf_14, lX7_levelOf_15, lX7_levelOf_18, lX7_levelOf_21, lX7_levelOf_22, lX7_levelOf_23, lX7_levelOf_24, lX7_levelOf_27, lX7_levelOf_30, lX7_levelOf_31, lX7_levelOf_34, lX7_levelOf_37, lX7_levelOf_38, lX7_levelOf_39, lX7_levelOf_40, lX7_levelOf_43, lX7_levelOf_46, lX7_levelOf_47, lX7_levelOf_50, lX7_levelOf_51, wpS, ↓reduceIte, Bool.false_eq_true, false_and, and_false, cond_false, cond_true, Bool.cond_false, Bool.cond_true, oPush, oIld, oFld, oDld, oAld, oIst, oFst, oDst, oAst, oInc, oI2, oI2n, oF2, oD2, oF2d, oIcv, oFcmp, oDcmp, oLcmp, oDup, oDupx1, oPop, oIf, oIc, oGoto, oNonnull, oGi, oGi2, oGr, oGr2, oPi, oPi2, oPz, oPr, oPr2, oAi, oAf, oAl, oAd, oAr, oSi, oSf, oSl, oSd, oSr, oRetI, oRetZ, oRetC, oRetF, oRetD, oRetA, oRetV, oCallS, oCallV, recvP, oThrow, oSw, oDisp, dispA, lk, Nat.beq, oMm, oCopy, oAlen, oAcmp, entA, lset, lset2, Value.category, Nat.reduceEqDiff, Nat.reduceAdd, Nat.reduceLT, Nat.reduceLeDiff, Nat.reduceBEq, beq_self_eq_true, Bool.or_false, Bool.false_or, Bool.or_true, Bool.true_or, ite_false, ite_true, if_true, if_false, reduceIte, reduceCtorEq, Nat.le_refl, Nat.zero_le, and_true, true_and, true_or, or_true, and_self, implies_true, not_true_eq_false, not_false_eq_true, List.take, List.drop, List.reverse_cons, List.reverse_nil, List.nil_append, List.cons_append, List.length_cons, List.length_nil, List.map_cons, List.map_nil, List.sum_cons, List.sum_nil, Option.toList, va_rf, Nat.add_zero, Nat.zero_add, List.forall_mem_cons, List.not_mem_nil, or_false, false_implies, eq_self, true_implies, b2i_eq0, b2i_eq1, b2i_01, em_nn, cl_0, cl_1, cl_2, vin_0, vin_1, vin_2, u2_ap, r2_ap, Sum.inl.injEq, Option.some.injEq, Value.int.injEq, sh_1]
    rw [if_pos e] at h
    exact h
  have j37 : ∀ lv : LV, ¬ (x = 302 ∨ x = 303 ∨ x = 304) → (x = 300 ∨ x = 307) → J 37 lv [] (n, 0, 0) M := by
    intro lv e e2
    refine hJ 40 (fun pc => pc == 21 || pc == 37) _ _ _ _ _ ?_
    simp -implicitDefEqProofs only [lX7_levelOf_0, lX7_levelOf_1, lX7_levelOf_4, lX7_levelOf_7, lX7_levelOf_8, lX7_levelOf_11, lX7_levelOf_14, lX7_levelOf_15, lX7_levelOf_18, lX7_levelOf_21, lX7_levelOf_22, lX7_levelOf_23, lX7_levelOf_24, lX7_levelOf_27, lX7_levelOf_30, lX7_levelOf_31, lX7_levelOf_34, lX7_levelOf_37, lX7_levelOf_38, lX7_levelOf_39, lX7_levelOf_40, lX7_levelOf_43, lX7_levelOf_46, lX7_levelOf_47, lX7_levelOf_50, lX7_levelOf_51, wpS, ↓reduceIte, Bool.false_eq_true, false_and, and_false, cond_false, cond_true, Bool.cond_false, Bool.cond_true, oPush, oIld, oFld, oDld, oAld, oIst, oFst, oDst, oAst, oInc, oI2, oI2n, oF2, oD2, oF2d, oIcv, oFcmp, oDcmp, oLcmp, oDup, oDupx1, oPop, oIf, oIc, oGoto, oNonnull, oGi, oGi2, oGr, oGr2, oPi, oPi2, oPz, oPr, oPr2, oAi, oAf, oAl, oAd, oAr, oSi, oSf, oSl, oSd, oSr, oRetI, oRetZ, oRetC, oRetF, oRetD, oRetA, oRetV, oCallS, oCallV, recvP, oThrow, oSw, oDisp, dispA, lk, Nat.beq, oMm, oCopy, oAlen, oAcmp, entA, lset, lset2, Value.category, Nat.reduceEqDiff, Nat.reduceAdd, Nat.reduceLT, Nat.reduceLeDiff, Nat.reduceBEq, beq_self_eq_true, Bool.or_false, Bool.false_or, Bool.or_true, Bool.true_or, ite_false, ite_true, if_true, if_false, reduceIte, reduceCtorEq, Nat.le_refl, Nat.zero_le, and_true, true_and, true_or, or_true, and_self, implies_true, not_true_eq_false, not_false_eq_true, List.take, List.drop, List.reverse_cons, List.reverse_nil, List.nil_append, List.cons_append, List.length_cons, List.length_nil, List.map_cons, List.map_nil, List.sum_cons, List.sum_nil, Option.toList, va_rf, Nat.add_zero, Nat.zero_add, List.forall_mem_cons, List.not_mem_nil, or_false, false_implies, eq_self, true_implies, b2i_eq0, b2i_eq1, b2i_01, em_nn, cl_0, cl_1, cl_2, vin_0, vin_1, vin_2, u2_ap, r2_ap, Sum.inl.injEq, Option.some.injEq, Value.int.injEq, sh_1]
    rw [if_neg e, if_pos e2] at h
    exact h
  refine ⟨fun w => j21 _ (Or.inl w), fun w => ⟨fun w2 => j21 _ (Or.inr (Or.inl w2)), fun w2 => ⟨fun w3 => j21 _ (Or.inr (Or.inr w3)), fun w3 => ?_⟩⟩⟩
  have e : ¬ (x = 302 ∨ x = 303 ∨ x = 304) := fun q => q.elim w (fun q => q.elim w2 w3)
  refine ⟨fun w4 => j37 _ e (Or.inl w4), fun w4 => ⟨fun w5 => j37 _ e (Or.inr w5), fun w5 => ?_⟩⟩
  have e2 : ¬ (x = 300 ∨ x = 307) := fun q => q.elim w4 w5
  rw [if_neg e, if_neg e2] at h
  refine ⟨fun w6 => ?_, fun w6 => ?_⟩
  · rw [if_pos w6] at h; exact h
  · rw [if_neg w6] at h; exact h
theorem c_peek (hd : 1 ≤ d) (hs : CS ch len I p c) (h : P (.inl (some (.int (ch p)))) 150 (I, F, RR pr sv, L, D)) : CallOK d 0 0 yX7_peek (Cond.code yX7_peek cX7_peek 1 (some .char)) [.ref 1] 150 (I, F, RR pr sv, L, D) P := by
  obtain ⟨h1, h2, h3, h4, h5, h6, h7, h8⟩ := hs
  have cp := nI_clamp (n := p) (by omega)
  obtain ⟨d, rfl⟩ : ∃ e, d = e + 1 := ⟨d - 1, by omega⟩
  refine iX7_peek (Nat.le_of_ble_eq_true rfl) (fun J hJ => ?_)
  refine hJ 40 (fun pc => pc == 24) _ _ _ _ _ ?_
  simp -implicitDefEqProofs only [lX7_peek_0, lX7_peek_1, lX7_peek_4, lX7_peek_5, lX7_peek_8, lX7_peek_11, lX7_peek_12, lX7_peek_15, lX7_peek_16, lX7_peek_19, lX7_peek_20, lX7_peek_23, lX7_peek_24, wpS, ↓reduceIte, Bool.false_eq_true, false_and, and_false, cond_false, cond_true, Bool.cond_false, Bool.cond_true, oPush, oIld, oFld, oDld, oAld, oIst, oFst, oDst, oAst, oInc, oI2, oI2n, oF2, oD2, oF2d, oIcv, oFcmp, oDcmp, oLcmp, oDup, oDupx1, oPop, oIf, oIc, oGoto, oNonnull, oGi, oGi2, oGr, oGr2, oPi, oPi2, oPz, oPr, oPr2, oAi, oAf, oAl, oAd, oAr, oSi, oSf, oSl, oSd, oSr, oRetI, oRetZ, oRetC, oRetF, oRetD, oRetA, oRetV, oCallS, oCallV, recvP, oThrow, oSw, oDisp, dispA, lk, Nat.beq, oMm, oCopy, oAlen, oAcmp, entA, lset, lset2, Value.category, Nat.reduceEqDiff, Nat.reduceAdd, Nat.reduceLT, Nat.reduceLeDiff, Nat.reduceBEq, beq_self_eq_true, Bool.or_false, Bool.false_or, Bool.or_true, Bool.true_or, ite_false, ite_true, if_true, if_false, reduceIte, reduceCtorEq, Nat.le_refl, Nat.zero_le, and_true, true_and, true_or, or_true, and_self, implies_true, not_true_eq_false, not_false_eq_true, List.take, List.drop, List.reverse_cons, List.reverse_nil, List.nil_append, List.cons_append, List.length_cons, List.length_nil, List.map_cons, List.map_nil, List.sum_cons, List.sum_nil, Option.toList, va_rf, Nat.add_zero, Nat.zero_add, List.forall_mem_cons, List.not_mem_nil, or_false, false_implies, eq_self, true_implies, b2i_eq0, b2i_eq1, b2i_01, em_nn, cl_0, cl_1, cl_2, vin_0, vin_1, vin_2, u2_ap, r2_ap, Sum.inl.injEq, Option.some.injEq, Value.int.injEq, rr_1_0, sh_2, h1, h2, cp, sh_1]
  have j24 : ∀ (lv : LV) (z : Int32), z = ch p → J 24 lv [.int z] (150, 0, 0) (I, F, RR pr sv, L, D) := by
    intro lv z hz
    subst hz
    refine hJ 40 (fun pc => pc == 24) _ _ _ _ _ ?_
    simp -implicitDefEqProofs only [lX7_peek_0, lX7_peek_1, lX7_peek_4, lX7_peek_5, lX7_peek_8, lX7_peek_11, lX7_peek_12, lX7_peek_15, lX7_peek_16, lX7_peek_19, lX7_peek_20, lX7_peek_23, lX7_peek_24, wpS, ↓reduceIte, Bool.false_eq_true, false_and, and_false, cond_false, cond_true, Bool.cond_false, Bool.cond_true, oPush, oIld, oFld, oDld, oAld, oIst, oFst, oDst, oAst, oInc, oI2, oI2n, oF2, oD2, oF2d, oIcv, oFcmp, oDcmp, oLcmp, oDup, oDupx1, oPop, oIf, oIc, oGoto, oNonnull, oGi, oGi2, oGr, oGr2, oPi, oPi2, oPz, oPr, oPr2, oAi, oAf, oAl, oAd, oAr, oSi, oSf, oSl, oSd, oSr, oRetI, oRetZ, oRetC, oRetF, oRetD, oRetA, oRetV, oCallS, oCallV, recvP, oThrow, oSw, oDisp, dispA, lk, Nat.beq, oMm, oCopy, oAlen, oAcmp, entA, lset, lset2, Value.category, Nat.reduceEqDiff, Nat.reduceAdd, Nat.reduceLT, Nat.reduceLeDiff, Nat.reduceBEq, beq_self_eq_true, Bool.or_false, Bool.false_or, Bool.or_true, Bool.true_or, ite_false, ite_true, if_true, if_false, reduceIte, reduceCtorEq, Nat.le_refl, Nat.zero_le, and_true, true_and, true_or, or_true, and_self, implies_true, not_true_eq_false, not_false_eq_true, List.take, List.drop, List.reverse_cons, List.reverse_nil, List.nil_append, List.cons_append, List.length_cons, List.length_nil, List.map_cons, List.map_nil, List.sum_cons, List.sum_nil, Option.toList, va_rf, Nat.add_zero, Nat.zero_add, List.forall_mem_cons, List.not_mem_nil, or_false, false_implies, eq_self, true_implies, b2i_eq0, b2i_eq1, b2i_01, em_nn, cl_0, cl_1, cl_2, vin_0, vin_1, vin_2, u2_ap, r2_ap, Sum.inl.injEq, Option.some.injEq, Value.int.injEq, char_ok h8 p, sh_1]
    exact h
  refine ⟨fun w => j24 _ _ ?_, fun w => ⟨vp_in_nI (by have : ¬ len ≤ p := fun q => w (nI_le q (by omega)); omega) (by decide), j24 _ _ ?_⟩⟩
  · exact (h7 p ((nI_leI (by omega) (by omega)).mp w)).symm
  · exact h6 p (by have : ¬ len ≤ p := fun q => w (nI_le q (by omega)); omega)
theorem c_take (hd : 1 ≤ d) (hs : CS ch len I p c) {x : Int32} (hx : x ≠ 0) (h : ∀ I', CS ch len I' (tkk ch x true p).2 c → CFr I I' c → I' 3 = I 3 → P (.inl (some (.int (b2i ((tkk ch x true p).1 = true))))) 150 (I', F, RR pr sv, L, D)) : CallOK d 0 0 yX7_take (Cond.code yX7_take cX7_take 2 (some .boolean)) [.ref 1, .int x] 150 (I, F, RR pr sv, L, D) P := by
  have hs' := hs
  obtain ⟨h1, h2, h3, h4, h5, h6, h7, h8⟩ := hs
  have cp := nI_clamp (n := p) (by omega)
  unfold tkk at h
  obtain ⟨d, rfl⟩ : ∃ e, d = e + 1 := ⟨d - 1, by omega⟩
  refine iX7_take (Nat.le_of_ble_eq_true rfl) (fun J hJ => ?_)
  refine hJ 40 (fun pc => pc == 36) _ _ _ _ _ ?_
  simp -implicitDefEqProofs only [lX7_take_0, lX7_take_1, lX7_take_4, lX7_take_5, lX7_take_8, lX7_take_11, lX7_take_12, lX7_take_15, lX7_take_16, lX7_take_19, lX7_take_20, lX7_take_21, lX7_take_24, lX7_take_25, lX7_take_26, lX7_take_29, lX7_take_30, lX7_take_31, lX7_take_34, lX7_take_35, lX7_take_36, lX7_take_37, wpS, ↓reduceIte, Bool.false_eq_true, false_and, and_false, cond_false, cond_true, Bool.cond_false, Bool.cond_true, oPush, oIld, oFld, oDld, oAld, oIst, oFst, oDst, oAst, oInc, oI2, oI2n, oF2, oD2, oF2d, oIcv, oFcmp, oDcmp, oLcmp, oDup, oDupx1, oPop, oIf, oIc, oGoto, oNonnull, oGi, oGi2, oGr, oGr2, oPi, oPi2, oPz, oPr, oPr2, oAi, oAf, oAl, oAd, oAr, oSi, oSf, oSl, oSd, oSr, oRetI, oRetZ, oRetC, oRetF, oRetD, oRetA, oRetV, oCallS, oCallV, recvP, oThrow, oSw, oDisp, dispA, lk, Nat.beq, oMm, oCopy, oAlen, oAcmp, entA, lset, lset2, Value.category, Nat.reduceEqDiff, Nat.reduceAdd, Nat.reduceLT, Nat.reduceLeDiff, Nat.reduceBEq, beq_self_eq_true, Bool.or_false, Bool.false_or, Bool.or_true, Bool.true_or, ite_false, ite_true, if_true, if_false, reduceIte, reduceCtorEq, Nat.le_refl, Nat.zero_le, and_true, true_and, true_or, or_true, and_self, implies_true, not_true_eq_false, not_false_eq_true, List.take, List.drop, List.reverse_cons, List.reverse_nil, List.nil_append, List.cons_append, List.length_cons, List.length_nil, List.map_cons, List.map_nil, List.sum_cons, List.sum_nil, Option.toList, va_rf, Nat.add_zero, Nat.zero_add, List.forall_mem_cons, List.not_mem_nil, or_false, false_implies, eq_self, true_implies, b2i_eq0, b2i_eq1, b2i_01, em_nn, cl_0, cl_1, cl_2, vin_0, vin_1, vin_2, u2_ap, r2_ap, Sum.inl.injEq, Option.some.injEq, Value.int.injEq, rr_1_0, sh_2, h1, h2, cp, sh_1]
  have j36 : ∀ lv : LV, ¬ ch p = x → J 36 lv [] (150, 0, 0) (I, F, RR pr sv, L, D) := by
    intro lv e
    refine hJ 40 (fun pc => pc == 36) _ _ _ _ _ ?_
    simp -implicitDefEqProofs only [lX7_take_0, lX7_take_1, lX7_take_4, lX7_take_5, lX7_take_8, lX7_take_11, lX7_take_12, lX7_take_15, lX7_take_16, lX7_take_19, lX7_take_20, lX7_take_21, lX7_take_24, lX7_take_25, lX7_take_26, lX7_take_29, lX7_take_30, lX7_take_31, lX7_take_34, lX7_take_35, lX7_take_36, lX7_take_37, wpS, ↓reduceIte, Bool.false_eq_true, false_and, and_false, cond_false, cond_true, Bool.cond_false, Bool.cond_true, oPush, oIld, oFld, oDld, oAld, oIst, oFst, oDst, oAst, oInc, oI2, oI2n, oF2, oD2, oF2d, oIcv, oFcmp, oDcmp, oLcmp, oDup, oDupx1, oPop, oIf, oIc, oGoto, oNonnull, oGi, oGi2, oGr, oGr2, oPi, oPi2, oPz, oPr, oPr2, oAi, oAf, oAl, oAd, oAr, oSi, oSf, oSl, oSd, oSr, oRetI, oRetZ, oRetC, oRetF, oRetD, oRetA, oRetV, oCallS, oCallV, recvP, oThrow, oSw, oDisp, dispA, lk, Nat.beq, oMm, oCopy, oAlen, oAcmp, entA, lset, lset2, Value.category, Nat.reduceEqDiff, Nat.reduceAdd, Nat.reduceLT, Nat.reduceLeDiff, Nat.reduceBEq, beq_self_eq_true, Bool.or_false, Bool.false_or, Bool.or_true, Bool.true_or, ite_false, ite_true, if_true, if_false, reduceIte, reduceCtorEq, Nat.le_refl, Nat.zero_le, and_true, true_and, true_or, or_true, and_self, implies_true, not_true_eq_false, not_false_eq_true, List.take, List.drop, List.reverse_cons, List.reverse_nil, List.nil_append, List.cons_append, List.length_cons, List.length_nil, List.map_cons, List.map_nil, List.sum_cons, List.sum_nil, Option.toList, va_rf, Nat.add_zero, Nat.zero_add, List.forall_mem_cons, List.not_mem_nil, or_false, false_implies, eq_self, true_implies, b2i_eq0, b2i_eq1, b2i_01, em_nn, cl_0, cl_1, cl_2, vin_0, vin_1, vin_2, u2_ap, r2_ap, Sum.inl.injEq, Option.some.injEq, Value.int.injEq, sh_1]
    have h := h I (by rw [if_neg (fun q => e q.2)]; exact hs') (CFr.refl _ _) rfl
    rw [if_neg (fun q => e q.2)] at h
    simpa [b2i] using h
  refine ⟨fun w => j36 _ (fun e => hx (by rw [← e]; exact h7 p ((nI_leI (by omega) (by omega)).mp w))), fun w => ?_⟩
  have hpl : p < len := by have : ¬ len ≤ p := fun q => w (nI_le q (by omega)); omega
  refine ⟨vp_in_nI (by omega) (by decide), fun w2 => ?_, fun w2 => j36 _ (fun e => w2 (by rw [h6 p hpl]; exact e))⟩
  rw [h6 p hpl] at w2
  have h := h (u2 I 1 2 (nI p + 1)) (by rw [if_pos ⟨rfl, w2⟩]; exact hs'.adv hpl (nI_1 p)) CFr.u2s (u2_ne _ _ _ (by decide))
  rw [if_pos ⟨rfl, w2⟩] at h
  simpa [b2i] using h
theorem c_addCode (hd : 1 ≤ d) (hs : CS ch len I p c) (hc : c < 100) {x : Int32} (h : ∀ I', CS ch len I' p (c + 1) → CFr I I' c → I' 3 c = x → P (.inl none) 150 (I', F, RR pr sv, L, D)) : CallOK d 0 0 yX7_addCode (Cond.code yX7_addCode cX7_addCode 2 none) [.ref 1, .int x] 150 (I, F, RR pr sv, L, D) P := by
  obtain ⟨h1, h2, h3, h4, h5, h6, h7, h8⟩ := hs
  have cc := nI_clamp (n := c) (by omega)
  have ic := vp_in_nI (n := c) (N := 100) (by omega) (by decide)
  have h34 : ∀ x, u2 I 3 c x 1 4 = nI c := fun x => by rw [u2_ne _ _ _ (by decide)]; exact h3
  obtain ⟨d, rfl⟩ : ∃ e, d = e + 1 := ⟨d - 1, by omega⟩
  refine iX7_addCode (Nat.le_of_ble_eq_true rfl) (fun J hJ => ?_)
  refine hJ 40 (fun pc => false) _ _ _ _ _ ?_
  simp -implicitDefEqProofs only [lX7_addCode_0, lX7_addCode_1, lX7_addCode_4, lX7_addCode_6, lX7_addCode_9, lX7_addCode_10, lX7_addCode_13, lX7_addCode_14, lX7_addCode_17, lX7_addCode_18, lX7_addCode_19, lX7_addCode_20, lX7_addCode_21, lX7_addCode_24, lX7_addCode_25, lX7_addCode_26, lX7_addCode_29, wpS, ↓reduceIte, Bool.false_eq_true, false_and, and_false, cond_false, cond_true, Bool.cond_false, Bool.cond_true, oPush, oIld, oFld, oDld, oAld, oIst, oFst, oDst, oAst, oInc, oI2, oI2n, oF2, oD2, oF2d, oIcv, oFcmp, oDcmp, oLcmp, oDup, oDupx1, oPop, oIf, oIc, oGoto, oNonnull, oGi, oGi2, oGr, oGr2, oPi, oPi2, oPz, oPr, oPr2, oAi, oAf, oAl, oAd, oAr, oSi, oSf, oSl, oSd, oSr, oRetI, oRetZ, oRetC, oRetF, oRetD, oRetA, oRetV, oCallS, oCallV, recvP, oThrow, oSw, oDisp, dispA, lk, Nat.beq, oMm, oCopy, oAlen, oAcmp, entA, lset, lset2, Value.category, Nat.reduceEqDiff, Nat.reduceAdd, Nat.reduceLT, Nat.reduceLeDiff, Nat.reduceBEq, beq_self_eq_true, Bool.or_false, Bool.false_or, Bool.or_true, Bool.true_or, ite_false, ite_true, if_true, if_false, reduceIte, reduceCtorEq, Nat.le_refl, Nat.zero_le, and_true, true_and, true_or, or_true, and_self, implies_true, not_true_eq_false, not_false_eq_true, List.take, List.drop, List.reverse_cons, List.reverse_nil, List.nil_append, List.cons_append, List.length_cons, List.length_nil, List.map_cons, List.map_nil, List.sum_cons, List.sum_nil, Option.toList, va_rf, Nat.add_zero, Nat.zero_add, List.forall_mem_cons, List.not_mem_nil, or_false, false_implies, eq_self, true_implies, b2i_eq0, b2i_eq1, b2i_01, em_nn, cl_0, cl_1, cl_2, vin_0, vin_1, vin_2, u2_ap, r2_ap, Sum.inl.injEq, Option.some.injEq, Value.int.injEq, rr_1_3, sh_3, h3, cc, ic, nI_1, sh_1]
  refine ⟨fun w => absurd w (nI_ge (b := 100) (by omega) (by omega)), fun _ => ?_⟩
  refine h _ ⟨?_, ?_, ?_, h4, h5, fun j hj => ?_, h7, h8⟩ ⟨fun a a1 a3 => ?_, fun j j2 j4 => ?_, fun j hj => ?_⟩ ?_
  · simpa [u2_ap] using h1
  · simpa [u2_ap] using h2
  · simp [u2_ap]
  · simpa [u2_ap] using h6 j hj
  · rw [u2_ne _ _ _ a1, u2_ne _ _ _ a3]
  · simp [u2_ap, j4]
  · rw [u2_ne _ _ _ (by decide), u2_up1]; exact if_neg (by omega)
  · rw [u2_ne _ _ _ (by decide), u2_up1]; exact if_pos rfl
theorem c_insertCode (hd : 2 ≤ d) (hs : CS ch len I p c) (hc : c < 100) {f : Nat} {A : List Int32} (hf : c = f + A.length) (hA : At (I 3) f A) {x : Int32} (h : ∀ I', CS ch len I' p (c + 1) → CFr I I' f → At (I' 3) f (x :: A) → P (.inl none) 150 (I', F, RR pr sv, L, D)) : CallOK d 0 0 yX7_insertCode (Cond.code yX7_insertCode cX7_insertCode 3 none) [.ref 1, .int (nI f), .int x] 150 (I, F, RR pr sv, L, D) P := by
  obtain ⟨h1, h2, h3, h4, h5, h6, h7, h8⟩ := hs
  have cf := nI_clamp (n := f) (by omega)
  have if' := vp_in_nI (n := f) (N := 100) (by omega) (by decide)
  have cf1 := nI_clamp (n := f + 1) (by omega)
  have e1 : nI f + 1 = nI (f + 1) := nI_1 f
  have es : nI c - nI f = nI (c - f) := pk_sub (by omega)
  have ces := nI_clamp (n := c - f) (by omega)
  have h34 : ∀ g, r2 I 3 g 1 4 = nI c := fun g => by rw [r2_ne _ _ (by decide)]; exact h3
  obtain ⟨d, rfl⟩ : ∃ e, d = e + 1 := ⟨d - 1, by omega⟩
  refine iX7_insertCode (Nat.le_of_ble_eq_true rfl) (fun J hJ => ?_)
  refine hJ 40 (fun pc => false) _ _ _ _ _ ?_
  simp -implicitDefEqProofs only [lX7_insertCode_0, lX7_insertCode_1, lX7_insertCode_4, lX7_insertCode_6, lX7_insertCode_9, lX7_insertCode_10, lX7_insertCode_13, lX7_insertCode_14, lX7_insertCode_15, lX7_insertCode_18, lX7_insertCode_21, lX7_insertCode_22, lX7_insertCode_25, lX7_insertCode_26, lX7_insertCode_27, lX7_insertCode_30, lX7_insertCode_31, lX7_insertCode_32, lX7_insertCode_33, lX7_insertCode_34, lX7_insertCode_37, lX7_insertCode_38, lX7_insertCode_39, lX7_insertCode_42, lX7_insertCode_43, lX7_insertCode_46, lX7_insertCode_47, lX7_insertCode_48, lX7_insertCode_49, lX7_insertCode_50, lX7_insertCode_51, lX7_insertCode_54, lX7_insertCode_55, lX7_insertCode_56, lX7_insertCode_59, wpS, ↓reduceIte, Bool.false_eq_true, false_and, and_false, cond_false, cond_true, Bool.cond_false, Bool.cond_true, oPush, oIld, oFld, oDld, oAld, oIst, oFst, oDst, oAst, oInc, oI2, oI2n, oF2, oD2, oF2d, oIcv, oFcmp, oDcmp, oLcmp, oDup, oDupx1, oPop, oIf, oIc, oGoto, oNonnull, oGi, oGi2, oGr, oGr2, oPi, oPi2, oPz, oPr, oPr2, oAi, oAf, oAl, oAd, oAr, oSi, oSf, oSl, oSd, oSr, oRetI, oRetZ, oRetC, oRetF, oRetD, oRetA, oRetV, oCallS, oCallV, recvP, oThrow, oSw, oDisp, dispA, lk, Nat.beq, oMm, oCopy, oAlen, oAcmp, entA, lset, lset2, Value.category, Nat.reduceEqDiff, Nat.reduceAdd, Nat.reduceLT, Nat.reduceLeDiff, Nat.reduceBEq, beq_self_eq_true, Bool.or_false, Bool.false_or, Bool.or_true, Bool.true_or, ite_false, ite_true, if_true, if_false, reduceIte, reduceCtorEq, Nat.le_refl, Nat.zero_le, and_true, true_and, true_or, or_true, and_self, implies_true, not_true_eq_false, not_false_eq_true, List.take, List.drop, List.reverse_cons, List.reverse_nil, List.nil_append, List.cons_append, List.length_cons, List.length_nil, List.map_cons, List.map_nil, List.sum_cons, List.sum_nil, Option.toList, va_rf, Nat.add_zero, Nat.zero_add, List.forall_mem_cons, List.not_mem_nil, or_false, false_implies, eq_self, true_implies, b2i_eq0, b2i_eq1, b2i_01, em_nn, cl_0, cl_1, cl_2, vin_0, vin_1, vin_2, u2_ap, r2_ap, Sum.inl.injEq, Option.some.injEq, Value.int.injEq, rr_1_3, sh_3, h3, cf, if', cf1, e1, es, ces, sh_1]
  refine ⟨fun w => absurd w (nI_ge (b := 100) (by omega) (by omega)), fun _ => ⟨fun w => absurd w (nI_pos (by omega)), fun _ => ⟨fun w => absurd w (nI_nlt (by omega) (by omega)), fun _ => ?_⟩⟩⟩
  refine ⟨⟨nI_pos (by omega), nI_pos (by omega), nI_pos (by omega), by omega, by omega⟩, ?_⟩
  rw [nI_1]
  refine h _ ⟨?_, ?_, ?_, h4, h5, fun j hj => ?_, h7, h8⟩ ⟨fun a a1 a3 => ?_, fun j j2 j4 => ?_, fun j hj => ?_⟩ (At_cons.mpr ⟨?_, fun j hj => ?_⟩)
  · simpa [u2_ap, r2_ap] using h1
  · simpa [u2_ap, r2_ap] using h2
  · simp [u2_ap]
  · simpa [u2_ap, r2_ap] using h6 j hj
  · rw [u2_ne _ _ _ a1, u2_ne _ _ _ a3, r2_ne _ _ a3]
  · simp [u2_ap, j4, r2_ap]
  · rw [u2_ne _ _ _ (by decide), u2_up1, r2_row]
    unfold up1
    rw [if_neg (by omega), pk_cpy_out (by omega)]
  · rw [u2_ne _ _ _ (by decide), u2_up1]; exact if_pos rfl
  · rw [u2_ne _ _ _ (by decide), u2_up1, r2_row]
    unfold up1
    rw [if_neg (by omega), pk_cpy_in (by omega) (by omega), show f + (f + 1 + j - (f + 1)) = f + j by omega]
    exact hA j hj
end
