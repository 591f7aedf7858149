/-! ===== snapshots of the class ===== -/
theorem rr_sv (pr : Nat) (sv y : Option Nat) : u2 (RR pr sv) 0 9 y = RR pr y := by
  funext a k
  unfold u2 RR
  by_cases ha : a = 0
  · subst ha
    by_cases hk : k = 9
    · subst hk; simp
    · simp [hk]
  · simp [ha]
theorem rr_pr (pr x : Nat) (sv : Option Nat) : u2 (RR pr sv) 0 8 (some x) = RR x sv := by
  funext a k
  unfold u2 RR
  by_cases ha : a = 0
  · subst ha
    by_cases hk : k = 8
    · subst hk; simp
    · simp [hk]
  · simp [ha]
def DB (T : Nat) : Prop := T = 11 ∨ T = 17
theorem db {T : Nat} (h : DB T) (pr : Nat) (sv : Option Nat) : shp T = (1, 0) ∧ shp (T + 1) = (106, 3) ∧ shp (T + 5) = (100, 8) ∧ RR pr sv T 2 = some (T + 1) ∧ RR pr sv T 3 = some (T + 5) ∧ ∀ a, a < 3 → RR pr sv (T + 1) a = some (T + 2 + a) ∧ shp (T + 2 + a) = (100, 16) := by
  rcases h with rfl | rfl
  · refine ⟨rfl, rfl, rfl, rfl, rfl, fun a ha => ?_⟩
    have : a = 0 ∨ a = 1 ∨ a = 2 := by omega
    rcases this with rfl | rfl | rfl <;> exact ⟨rfl, rfl⟩
  · refine ⟨rfl, rfl, rfl, rfl, rfl, fun a ha => ?_⟩
    have : a = 0 ∨ a = 1 ∨ a = 2 := by omega
    rcases this with rfl | rfl | rfl <;> exact ⟨rfl, rfl⟩
section
variable {d : Nat} {P : PO} {I : Nat → Nat → Int32} {F : Nat → Nat → UInt32} {L : Nat → Nat → Int64} {D : Nat → Nat → UInt64} {pr : Nat} {sv : Option Nat}
variable {E : EX} {S : ST}
theorem c_switchTo (hd : 1 ≤ d) {b : Nat} (h : P (.inl none) 150 (u2 (u2 I 0 11 (-1)) 0 13 (-1), F, RR b sv, L, D)) : CallOK d 0 0 yX9_switchTo (Cond.code yX9_switchTo cX9_switchTo 2 none) [.ref 0, .ref b] 150 (I, F, RR pr sv, L, D) P := by
  obtain ⟨d, rfl⟩ : ∃ e, d = e + 1 := ⟨d - 1, by omega⟩
  refine iX9_switchTo (Nat.le_of_ble_eq_true rfl) (fun J hJ => ?_)
  refine hJ 40 (fun pc => false) _ _ _ _ _ ?_
  simp -implicitDefEqProofs only [lX9_switchTo_0, lX9_switchTo_1, lX9_switchTo_2, lX9_switchTo_5, lX9_switchTo_6, lX9_switchTo_7, lX9_switchTo_10, lX9_switchTo_11, lX9_switchTo_12, lX9_switchTo_15, wpS, ↓reduceIte, Bool.false_eq_true, false_and, and_false, cond_false, cond_true, Bool.cond_false, Bool.cond_true, oPush, oIld, oFld, oDld, oAld, oIst, oFst, oDst, oAst, oInc, oI2, oI2n, oF2, oD2, oF2d, oIcv, oFcmp, oDcmp, oLcmp, oDup, oDupx1, oPop, oIf, oIc, oGoto, oNonnull, oGi, oGi2, oGr, oGr2, oPi, oPi2, oPz, oPr, oPr2, oAi, oAf, oAl, oAd, oAr, oSi, oSf, oSl, oSd, oSr, oRetI, oRetZ, oRetC, oRetF, oRetD, oRetA, oRetV, oCallS, oCallV, recvP, oThrow, oSw, oDisp, dispA, lk, Nat.beq, oMm, oCopy, oAlen, oAcmp, entA, lset, lset2, Value.category, Nat.reduceEqDiff, Nat.reduceAdd, Nat.reduceLT, Nat.reduceLeDiff, Nat.reduceBEq, beq_self_eq_true, Bool.or_false, Bool.false_or, Bool.or_true, Bool.true_or, ite_false, ite_true, if_true, if_false, reduceIte, reduceCtorEq, Nat.le_refl, Nat.zero_le, and_true, true_and, true_or, or_true, and_self, implies_true, not_true_eq_false, not_false_eq_true, List.take, List.drop, List.reverse_cons, List.reverse_nil, List.nil_append, List.cons_append, List.length_cons, List.length_nil, List.map_cons, List.map_nil, List.sum_cons, List.sum_nil, Option.toList, va_rf, Nat.add_zero, Nat.zero_add, List.forall_mem_cons, List.not_mem_nil, or_false, false_implies, eq_self, true_implies, b2i_eq0, b2i_eq1, b2i_01, em_nn, cl_0, cl_1, cl_2, vin_0, vin_1, vin_2, u2_ap, r2_ap, Sum.inl.injEq, Option.some.injEq, Value.int.injEq, rr_pr, sh_0]
  exact h
theorem c_copyFrom (hd : 2 ≤ d) {T G : Nat} (hT : DB T) (hG : DB G) (hTG : T ≠ G) (h : ∀ I', I' T 0 = I G 0 → I' T 1 = I G 1 → (∀ a i, a < 3 → i < 16 → I' (T + 2 + a) i = I (G + 2 + a) i) → (∀ v, v < 8 → I' (T + 5) v = I (G + 5) v) → (∀ c, (c < T ∨ T + 5 < c) → I' c = I c) → P (.inl none) 150 (I', F, RR pr sv, L, D)) : CallOK d 0 0 yX1_copyFrom (Cond.code yX1_copyFrom cX1_copyFrom 3 none) [.ref T, .ref G] 150 (I, F, RR pr sv, L, D) P := by
  obtain ⟨a1, a2, a3, a4, a5, a6⟩ := db hT pr sv
  obtain ⟨b1, b2, b3, b4, b5, b6⟩ := db hG pr sv
  have lT : T ≤ 17 ∧ G ≤ 17 ∧ (T + 6 ≤ G ∨ G + 6 ≤ T) := by unfold DB at hT hG; omega
  have m0 : T < 150 := by omega
  have m1 : T + 1 < 150 := by omega
  have m5 : T + 5 < 150 := by omega
  have g0 : G < 150 := by omega
  have g1 : G + 1 < 150 := by omega
  have g5 : G + 5 < 150 := by omega
  have c16 : Int32.toNatClampNeg 16 = 16 := by decide
  have c8 : Int32.toNatClampNeg 8 = 8 := by decide
  have c0 : Int32.toNatClampNeg 0 = 0 := by decide
  obtain ⟨d, rfl⟩ : ∃ e, d = e + 1 := ⟨d - 1, by omega⟩
  refine iX1_copyFrom (Nat.le_of_ble_eq_true rfl) (fun J hJ => ?_)
  refine hJ 40 (fun pc => pc == 18) _ _ _ _ _ ?_
  simp -implicitDefEqProofs only [lX1_copyFrom_0, lX1_copyFrom_1, lX1_copyFrom_2, lX1_copyFrom_5, lX1_copyFrom_8, lX1_copyFrom_9, lX1_copyFrom_10, lX1_copyFrom_13, lX1_copyFrom_16, lX1_copyFrom_17, lX1_copyFrom_18, lX1_copyFrom_19, lX1_copyFrom_20, lX1_copyFrom_23, lX1_copyFrom_24, lX1_copyFrom_27, lX1_copyFrom_28, lX1_copyFrom_29, lX1_copyFrom_30, lX1_copyFrom_31, lX1_copyFrom_34, lX1_copyFrom_35, lX1_copyFrom_36, lX1_copyFrom_37, lX1_copyFrom_39, lX1_copyFrom_42, lX1_copyFrom_45, lX1_copyFrom_48, lX1_copyFrom_49, lX1_copyFrom_52, lX1_copyFrom_53, lX1_copyFrom_54, lX1_copyFrom_57, lX1_copyFrom_58, lX1_copyFrom_60, lX1_copyFrom_63, wpS, ↓reduceIte, Bool.false_eq_true, false_and, and_false, cond_false, cond_true, Bool.cond_false, Bool.cond_true, oPush, oIld, oFld, oDld, oAld, oIst, oFst, oDst, oAst, oInc, oI2, oI2n, oF2, oD2, oF2d, oIcv, oFcmp, oDcmp, oLcmp, oDup, oDupx1, oPop, oIf, oIc, oGoto, oNonnull, oGi, oGi2, oGr, oGr2, oPi, oPi2, oPz, oPr, oPr2, oAi, oAf, oAl, oAd, oAr, oSi, oSf, oSl, oSd, oSr, oRetI, oRetZ, oRetC, oRetF, oRetD, oRetA, oRetV, oCallS, oCallV, recvP, oThrow, oSw, oDisp, dispA, lk, Nat.beq, oMm, oCopy, oAlen, oAcmp, entA, lset, lset2, Value.category, Nat.reduceEqDiff, Nat.reduceAdd, Nat.reduceLT, Nat.reduceLeDiff, Nat.reduceBEq, beq_self_eq_true, Bool.or_false, Bool.false_or, Bool.or_true, Bool.true_or, ite_false, ite_true, if_true, if_false, reduceIte, reduceCtorEq, Nat.le_refl, Nat.zero_le, and_true, true_and, true_or, or_true, and_self, implies_true, not_true_eq_false, not_false_eq_true, List.take, List.drop, List.reverse_cons, List.reverse_nil, List.nil_append, List.cons_append, List.length_cons, List.length_nil, List.map_cons, List.map_nil, List.sum_cons, List.sum_nil, Option.toList, va_rf, Nat.add_zero, Nat.zero_add, List.forall_mem_cons, List.not_mem_nil, or_false, false_implies, eq_self, true_implies, b2i_eq0, b2i_eq1, b2i_01, em_nn, cl_0, cl_1, cl_2, vin_0, vin_1, vin_2, u2_ap, r2_ap, Sum.inl.injEq, Option.some.injEq, Value.int.injEq, a1, b1, m0, g0]
  have loop : ∀ (m a : Nat) (lv : LV) (I1 : Nat → Nat → Int32), a + m = 3 → lv 0 = some (.ref T) → lv 1 = some (.ref G) → lv 2 = some (.int (nI a)) → I1 T 0 = I G 0 → I1 T 1 = I G 1 → (∀ c i, c < a → i < 16 → I1 (T + 2 + c) i = I (G + 2 + c) i) → (∀ c, (c < T ∨ T + 5 < c) → I1 c = I c) → J 18 lv [] (150, 0, 0) (I1, F, RR pr sv, L, D) := by
    intro m
    induction m with
    | zero =>
      intro a lv I1 ha l0 l1 l2 q0 q1 q2 x
      have : a = 3 := by omega
      subst this
      refine hJ 40 (fun pc => pc == 18) _ _ _ _ _ ?_
      simp -implicitDefEqProofs only [lX1_copyFrom_0, lX1_copyFrom_1, lX1_copyFrom_2, lX1_copyFrom_5, lX1_copyFrom_8, lX1_copyFrom_9, lX1_copyFrom_10, lX1_copyFrom_13, lX1_copyFrom_16, lX1_copyFrom_17, lX1_copyFrom_18, lX1_copyFrom_19, lX1_copyFrom_20, lX1_copyFrom_23, lX1_copyFrom_24, lX1_copyFrom_27, lX1_copyFrom_28, lX1_copyFrom_29, lX1_copyFrom_30, lX1_copyFrom_31, lX1_copyFrom_34, lX1_copyFrom_35, lX1_copyFrom_36, lX1_copyFrom_37, lX1_copyFrom_39, lX1_copyFrom_42, lX1_copyFrom_45, lX1_copyFrom_48, lX1_copyFrom_49, lX1_copyFrom_52, lX1_copyFrom_53, lX1_copyFrom_54, lX1_copyFrom_57, lX1_copyFrom_58, lX1_copyFrom_60, lX1_copyFrom_63, wpS, ↓reduceIte, Bool.false_eq_true, false_and, and_false, cond_false, cond_true, Bool.cond_false, Bool.cond_true, oPush, oIld, oFld, oDld, oAld, oIst, oFst, oDst, oAst, oInc, oI2, oI2n, oF2, oD2, oF2d, oIcv, oFcmp, oDcmp, oLcmp, oDup, oDupx1, oPop, oIf, oIc, oGoto, oNonnull, oGi, oGi2, oGr, oGr2, oPi, oPi2, oPz, oPr, oPr2, oAi, oAf, oAl, oAd, oAr, oSi, oSf, oSl, oSd, oSr, oRetI, oRetZ, oRetC, oRetF, oRetD, oRetA, oRetV, oCallS, oCallV, recvP, oThrow, oSw, oDisp, dispA, lk, Nat.beq, oMm, oCopy, oAlen, oAcmp, entA, lset, lset2, Value.category, Nat.reduceEqDiff, Nat.reduceAdd, Nat.reduceLT, Nat.reduceLeDiff, Nat.reduceBEq, beq_self_eq_true, Bool.or_false, Bool.false_or, Bool.or_true, Bool.true_or, ite_false, ite_true, if_true, if_false, reduceIte, reduceCtorEq, Nat.le_refl, Nat.zero_le, and_true, true_and, true_or, or_true, and_self, implies_true, not_true_eq_false, not_false_eq_true, List.take, List.drop, List.reverse_cons, List.reverse_nil, List.nil_append, List.cons_append, List.length_cons, List.length_nil, List.map_cons, List.map_nil, List.sum_cons, List.sum_nil, Option.toList, va_rf, Nat.add_zero, Nat.zero_add, List.forall_mem_cons, List.not_mem_nil, or_false, false_implies, eq_self, true_implies, b2i_eq0, b2i_eq1, b2i_01, em_nn, cl_0, cl_1, cl_2, vin_0, vin_1, vin_2, u2_ap, r2_ap, Sum.inl.injEq, Option.some.injEq, Value.int.injEq, l0, l1, l2, a1, b1, m0, g0, a5, b5, a3, b3, m5, g5, c8, c0]
      refine ⟨fun _ => ⟨by decide, ?_⟩, fun w => absurd (nI_le (a := 3) (b := 3) (by omega) (by omega)) w⟩
      refine h _ (by rw [r2_ne _ _ (by omega)]; exact q0) (by rw [r2_ne _ _ (by omega)]; exact q1) (fun a i ha hi => by rw [r2_ne _ _ (by omega)]; exact q2 a i ha hi) (fun v hv => ?_) (fun c hc => (r2_ne _ _ (by omega)).trans (x c hc))
      rw [r2_row, pk_cpy_in (by omega) (by omega), x _ (by omega)]
      exact congrArg _ (by omega)
    | succ m ih =>
      intro a lv I1 ha l0 l1 l2 q0 q1 q2 x
      have ca := nI_clamp (n := a) (by omega)
      have ia := vp_in_nI (n := a) (N := 3) (by omega) (by decide)
      obtain ⟨p1, p2⟩ := a6 a (by omega)
      obtain ⟨r1, r2'⟩ := b6 a (by omega)
      have n1 : T + 2 + a < 150 := by omega
      have n2 : G + 2 + a < 150 := by omega
      refine hJ 40 (fun pc => pc == 18) _ _ _ _ _ ?_
      simp -implicitDefEqProofs only [lX1_copyFrom_0, lX1_copyFrom_1, lX1_copyFrom_2, lX1_copyFrom_5, lX1_copyFrom_8, lX1_copyFrom_9, lX1_copyFrom_10, lX1_copyFrom_13, lX1_copyFrom_16, lX1_copyFrom_17, lX1_copyFrom_18, lX1_copyFrom_19, lX1_copyFrom_20, lX1_copyFrom_23, lX1_copyFrom_24, lX1_copyFrom_27, lX1_copyFrom_28, lX1_copyFrom_29, lX1_copyFrom_30, lX1_copyFrom_31, lX1_copyFrom_34, lX1_copyFrom_35, lX1_copyFrom_36, lX1_copyFrom_37, lX1_copyFrom_39, lX1_copyFrom_42, lX1_copyFrom_45, lX1_copyFrom_48, lX1_copyFrom_49, lX1_copyFrom_52, lX1_copyFrom_53, lX1_copyFrom_54, lX1_copyFrom_57, lX1_copyFrom_58, lX1_copyFrom_60, lX1_copyFrom_63, wpS, ↓reduceIte, Bool.false_eq_true, false_and, and_false, cond_false, cond_true, Bool.cond_false, Bool.cond_true, oPush, oIld, oFld, oDld, oAld, oIst, oFst, oDst, oAst, oInc, oI2, oI2n, oF2, oD2, oF2d, oIcv, oFcmp, oDcmp, oLcmp, oDup, oDupx1, oPop, oIf, oIc, oGoto, oNonnull, oGi, oGi2, oGr, oGr2, oPi, oPi2, oPz, oPr, oPr2, oAi, oAf, oAl, oAd, oAr, oSi, oSf, oSl, oSd, oSr, oRetI, oRetZ, oRetC, oRetF, oRetD, oRetA, oRetV, oCallS, oCallV, recvP, oThrow, oSw, oDisp, dispA, lk, Nat.beq, oMm, oCopy, oAlen, oAcmp, entA, lset, lset2, Value.category, Nat.reduceEqDiff, Nat.reduceAdd, Nat.reduceLT, Nat.reduceLeDiff, Nat.reduceBEq, beq_self_eq_true, Bool.or_false, Bool.false_or, Bool.or_true, Bool.true_or, ite_false, ite_true, if_true, if_false, reduceIte, reduceCtorEq, Nat.le_refl, Nat.zero_le, and_true, true_and, true_or, or_true, and_self, implies_true, not_true_eq_false, not_false_eq_true, List.take, List.drop, List.reverse_cons, List.reverse_nil, List.nil_append, List.cons_append, List.length_cons, List.length_nil, List.map_cons, List.map_nil, List.sum_cons, List.sum_nil, Option.toList, va_rf, Nat.add_zero, Nat.zero_add, List.forall_mem_cons, List.not_mem_nil, or_false, false_implies, eq_self, true_implies, b2i_eq0, b2i_eq1, b2i_01, em_nn, cl_0, cl_1, cl_2, vin_0, vin_1, vin_2, u2_ap, r2_ap, Sum.inl.injEq, Option.some.injEq, Value.int.injEq, l0, l1, l2, a1, b1, m0, g0, a4, b4, a2, b2, m1, g1, ca, ia, p1, p2, r1, r2', n1, n2, c16, c0]
      refine ⟨fun w9 => absurd w9 (nI_ge (b := 3) (by omega) (by omega)), fun _ => ⟨by decide, ?_⟩⟩
      refine ih (a + 1) _ _ (by omega) (by simp [lset, lset2, Value.category, l0]) (by simp [lset, lset2, Value.category, l1]) (by simp [lset, lset2, Value.category, l2, nI_1]) (by rw [r2_ne _ _ (by omega)]; exact q0) (by rw [r2_ne _ _ (by omega)]; exact q1) (fun c i hc hi => ?_) (fun c hc => (r2_ne _ _ (by omega)).trans (x c hc))
      by_cases e : c = a
      · subst e
        rw [r2_row, pk_cpy_in (by omega) (by omega), x _ (by omega)]
        exact congrArg _ (by omega)
      · rw [r2_ne _ _ (by omega)]; exact q2 c i (by omega) hi
  refine loop 3 0 _ _ rfl rfl rfl rfl (by simp [u2_ap]) ?_ (fun c i hc => absurd hc (Nat.not_lt_zero c)) (fun c hc => by rw [u2_ne _ _ _ (by omega), u2_ne _ _ _ (by omega)])
  rw [u2_up1]
  refine (if_pos rfl).trans ?_
  exact if_neg (Ne.symm hTG)
end
