theorem wpS {T : List (Nat × OP)} {stops : Nat → Bool} {k : Nat} {K : KT} {pc : Nat} {lv : LV} {st : List Value} {nn : NN} {M : PM} : wpN T stops (k + 1) K pc lv st nn M = bif stops pc then K pc lv st nn M else lk T pc (wpN T stops k K) lv st nn M := id rfl
section
variable {d d0 : Nat} {P : PO} {I : Nat → Nat → Int32} {F : Nat → Nat → UInt32} {L : Nat → Nat → Int64} {D : Nat → Nat → UInt64} {pr : Nat} {sv : Option Nat} {ch : Nat → Int32} {len : Nat} {ok : Bool} {p mk dep : Nat} {rec : Nat → PR}
set_option maxRecDepth 20000 in
theorem m_sum (hd : 18 ≤ d) (hd0 : d0 + 1 ≤ d) (hF : MC ch len d0 yX10_product (Cond.code yX10_product cX10_product 2 (some .int)) rec dep) (hs : MS ch len I true p mk dep) (hm : mk ≤ p) (h : ∀ I' x mk', MPost ch len I p mk dep (plev ch 1 rec p) I' x mk' → P (.inl (some (.int x))) 150 (I', F, RR pr sv, L, D)) : CallOK d 0 0 yX10_sum (Cond.code yX10_sum cX10_sum 3 (some .int)) [.ref 125] 150 (I, F, RR pr sv, L, D) P := by
  have hl := hs.2.2.2.2.2.2.1
  have hp := hs.2.2.2.2.2.1
  obtain ⟨d, rfl⟩ : ∃ e, d = e + 1 := ⟨d - 1, by omega⟩
  refine iX10_sum (Nat.le_of_ble_eq_true rfl) (fun J hJ => ?_)
  refine hJ 40 (fun pc => pc == 4 || pc == 5 || pc == 16 || pc == 25 || pc == 34 || pc == 66 || pc == 70) _ _ _ _ _ ?_
  simp only [lX10_sum_0, lX10_sum_1, lX10_sum_4, lX10_sum_5, lX10_sum_6, lX10_sum_9, lX10_sum_12, lX10_sum_13, lX10_sum_16, lX10_sum_18, lX10_sum_21, lX10_sum_22, lX10_sum_25, lX10_sum_27, lX10_sum_30, lX10_sum_31, lX10_sum_34, lX10_sum_36, lX10_sum_39, lX10_sum_42, lX10_sum_45, lX10_sum_48, lX10_sum_49, lX10_sum_50, lX10_sum_51, lX10_sum_54, lX10_sum_55, lX10_sum_56, lX10_sum_59, lX10_sum_60, lX10_sum_61, lX10_sum_62, lX10_sum_63, lX10_sum_66, lX10_sum_67, lX10_sum_70, lX10_sum_71, lX10_sum_74, lX10_sum_75, wpS, false_and, and_false, cond_false, cond_true, Bool.cond_false, Bool.cond_true, oPush, oIld, oFld, oDld, oAld, oIst, oFst, oDst, oAst, oInc, oI2, oI2n, oF2, oD2, oF2d, oIcv, oFcmp, oDcmp, oLcmp, oDup, oDupx1, oPop, oIf, oIc, oGoto, oNonnull, oGi, oGi2, oGr, oGr2, oPi, oPi2, oPz, oPr, oPr2, oAi, oAf, oAl, oAd, oAr, oSi, oSf, oSl, oSd, oSr, oRetI, oRetZ, oRetC, oRetF, oRetD, oRetA, oRetV, oCallS, oCallV, recvP, oThrow, oSw, oDisp, dispA, lk, Nat.beq, oMm, oCopy, oAlen, oAcmp, entA, lset, lset2, Value.category, Nat.reduceEqDiff, Nat.reduceAdd, Nat.reduceLT, Nat.reduceLeDiff, Nat.reduceBEq, beq_self_eq_true, Bool.or_false, Bool.false_or, Bool.or_true, Bool.true_or, ite_false, ite_true, if_true, if_false, reduceIte, reduceCtorEq, Nat.le_refl, Nat.zero_le, and_true, true_and, true_or, or_true, and_self, implies_true, not_true_eq_false, not_false_eq_true, List.take, List.drop, List.reverse_cons, List.reverse_nil, List.nil_append, List.cons_append, List.length_cons, List.length_nil, List.map_cons, List.map_nil, List.sum_cons, List.sum_nil, Option.toList, va_rf, Nat.add_zero, Nat.zero_add, List.mem_cons, List.not_mem_nil, forall_eq_or_imp, or_false, false_implies, eq_self, true_implies, b2i_eq0, b2i_eq1, b2i_01, em_nn, cl_0, cl_1, cl_2, vin_0, vin_1, vin_2, u2_ap, r2_ap, Sum.inl.injEq, Option.some.injEq, Value.int.injEq, sh_125]
  have bad : ∀ (I1 : Nat → Nat → Int32) (x : Int32) (mk1 q : Nat) (lv : LV), lv 0 = some (.ref 125) → lv 1 = some (.int x) → MS ch len I1 false q mk1 dep → FrM I I1 mk → mk ≤ mk1 → mk1 + p ≤ mk + q → (plev ch 1 rec p).1 = false → (plev ch 1 rec p).2.1 = q → J 5 lv [] (150, 0, 0) (I1, F, RR pr sv, L, D) := by
    sorry
  have loop : ∀ (k p1 : Nat) (A : List Int32) (I1 : Nat → Nat → Int32) (x' mk1 : Nat) (lv : LV), lv 0 = some (.ref 125) → lv 1 = some (.int (nI x')) → MS ch len I1 true p1 mk1 dep → FrM I I1 mk → mk ≤ mk1 → mk1 + p ≤ mk + p1 → x' < mk1 → Tr I1 x' A → plev ch 1 rec p = ploop ch 1 rec k p1 A → len < k + p1 → J 5 lv [] (150, 0, 0) (I1, F, RR pr sv, L, D) := by
    intro k
    induction k with
    | zero =>
      intro p1 A I1 x' mk1 lv h0 h1 s1 f1 a1 a2 hx tA e hk
      exfalso
      have := s1.2.2.2.2.2.1
      omega
    | succ k ih =>
      intro p1 A I1 x' mk1 lv h0 h1 s1 f1 a1 a2 hx tA e hk
      have step : ∀ (I2 : Nat → Nat → Int32) (lv2 : LV), lv2 0 = some (.ref 125) → lvc (ch p1) = 1 → MS ch len I2 true (p1 + 1) mk1 dep → FrM I1 I2 mk1 → CallOK d 0 0 yX10_product (Cond.code yX10_product cX10_product 2 (some .int)) [.ref 125] 150 (I2, F, RR pr sv, L, D) (fun o n' M' => ∃ I3 y mk3, o = .inl (some (.int y)) ∧ n' = 150 ∧ M' = (I3, F, RR pr sv, L, D) ∧ CallOK d 0 0 yX10_node (Cond.code yX10_node cX10_node 5 (some .int)) [.ref 125, .int (opc (ch p1)), .int (nI x'), .int y, .int 0] 150 (I3, F, RR pr sv, L, D) (fun o n' M' => ∃ I4, o = .inl (some (.int (nI mk3))) ∧ n' = 150 ∧ M' = (I4, F, RR pr sv, L, D) ∧ ∀ lv3 : LV, lv3 0 = some (.ref 125) → lv3 1 = some (.int (nI mk3)) → J 5 lv3 [] (150, 0, 0) (I4, F, RR pr sv, L, D))) := by
        intro I2 lv2 g0 hc s2 f2
        refine hF d _ I2 F L D pr sv (p1 + 1) mk1 (by omega) s2 (by omega) (fun I3 y mk3 q3 => ⟨I3, y, mk3, rfl, rfl, rfl, ?_⟩)
        obtain ⟨s3, f3, m3, n3, t3⟩ := q3
        have l3 := s3.2.2.2.2.2.1
        refine m_nodeS (by omega) s3 (by omega) (fun I4 s4 f4 k1 k2 k3 k4 => ⟨I4, rfl, rfl, rfl, ?_⟩)
        intro lv3 g0' g1'
        have f14 := (f2.trans f3 (Nat.le_refl _)).trans f4 m3
        unfold ploop at e
        rw [if_pos hc] at e
        by_cases ho : (rec (p1 + 1)).1 = true
        · obtain ⟨y', ey, hy, ty⟩ := t3 ho
          rw [if_pos ho] at e
          rw [ho] at s4
          refine ih _ _ I4 mk3 (mk3 + 1) lv3 g0' g1' s4 (f1.trans f14 a1) (by omega) (by omega) (by omega) ?_ e (by omega)
          exact tr_pair k1 (lvc_op hc (by omega)).1 k2 (k3.trans ey) (by omega) hy (tA.mono f14 hx) (ty.mono f4 hy)
        · rw [if_neg ho] at e
          have ho' : (rec (p1 + 1)).1 = false := by simpa using ho
          rw [ho'] at s4
          exact bad I4 _ (mk3 + 1) _ lv3 g0' g1' s4 (f1.trans f14 a1) (by omega) (by omega) (by rw [e]) (by rw [e])
      have out : lvc (ch p1) ≠ 1 → ∀ I2, MS ch len I2 true p1 mk1 dep → FrM I1 I2 mk1 → P (.inl (some (.int (nI x')))) 150 (I2, F, RR pr sv, L, D) := by
        intro hc I2 s2 f2
        unfold ploop at e
        rw [if_neg hc] at e
        refine h I2 _ mk1 ⟨by rw [e]; exact s2, f1.trans f2 a1, a1, by rw [e]; exact a2, fun _ => ⟨x', rfl, hx, by rw [e]; exact tA.mono f2 hx⟩⟩
      refine hJ 40 (fun pc => pc == 4 || pc == 5 || pc == 16 || pc == 25 || pc == 34 || pc == 66 || pc == 70) _ _ _ _ _ ?_
      simp only [lX10_sum_0, lX10_sum_1, lX10_sum_4, lX10_sum_5, lX10_sum_6, lX10_sum_9, lX10_sum_12, lX10_sum_13, lX10_sum_16, lX10_sum_18, lX10_sum_21, lX10_sum_22, lX10_sum_25, lX10_sum_27, lX10_sum_30, lX10_sum_31, lX10_sum_34, lX10_sum_36, lX10_sum_39, lX10_sum_42, lX10_sum_45, lX10_sum_48, lX10_sum_49, lX10_sum_50, lX10_sum_51, lX10_sum_54, lX10_sum_55, lX10_sum_56, lX10_sum_59, lX10_sum_60, lX10_sum_61, lX10_sum_62, lX10_sum_63, lX10_sum_66, lX10_sum_67, lX10_sum_70, lX10_sum_71, lX10_sum_74, lX10_sum_75, wpS, false_and, and_false, cond_false, cond_true, Bool.cond_false, Bool.cond_true, oPush, oIld, oFld, oDld, oAld, oIst, oFst, oDst, oAst, oInc, oI2, oI2n, oF2, oD2, oF2d, oIcv, oFcmp, oDcmp, oLcmp, oDup, oDupx1, oPop, oIf, oIc, oGoto, oNonnull, oGi, oGi2, oGr, oGr2, oPi, oPi2, oPz, oPr, oPr2, oAi, oAf, oAl, oAd, oAr, oSi, oSf, oSl, oSd, oSr, oRetI, oRetZ, oRetC, oRetF, oRetD, oRetA, oRetV, oCallS, oCallV, recvP, oThrow, oSw, oDisp, dispA, lk, Nat.beq, oMm, oCopy, oAlen, oAcmp, entA, lset, lset2, Value.category, Nat.reduceEqDiff, Nat.reduceAdd, Nat.reduceLT, Nat.reduceLeDiff, Nat.reduceBEq, beq_self_eq_true, Bool.or_false, Bool.false_or, Bool.or_true, Bool.true_or, ite_false, ite_true, if_true, if_false, reduceIte, reduceCtorEq, Nat.le_refl, Nat.zero_le, and_true, true_and, true_or, or_true, and_self, implies_true, not_true_eq_false, not_false_eq_true, List.take, List.drop, List.reverse_cons, List.reverse_nil, List.nil_append, List.cons_append, List.length_cons, List.length_nil, List.map_cons, List.map_nil, List.sum_cons, List.sum_nil, Option.toList, va_rf, Nat.add_zero, Nat.zero_add, List.mem_cons, List.not_mem_nil, forall_eq_or_imp, or_false, false_implies, eq_self, true_implies, b2i_eq0, b2i_eq1, b2i_01, em_nn, cl_0, cl_1, cl_2, vin_0, vin_1, vin_2, u2_ap, r2_ap, Sum.inl.injEq, Option.some.injEq, Value.int.injEq, sh_125, h0, h1, s1.1]
      sorry
  refine hF d _ I F L D pr sv p mk (by omega) hs hm (fun I1 x mk1 q1 => ?_)
  simp only [Nat.add_zero, Nat.zero_add, true_and, and_true, Option.toList, List.nil_append, List.cons_append, List.append_nil, reduceCtorEq, and_self, List.drop, List.take, eq_self]
  refine hJ 40 (fun pc => pc == 4 || pc == 5 || pc == 16 || pc == 25 || pc == 34 || pc == 66 || pc == 70) _ _ _ _ _ ?_
  simp only [lX10_sum_0, lX10_sum_1, lX10_sum_4, lX10_sum_5, lX10_sum_6, lX10_sum_9, lX10_sum_12, lX10_sum_13, lX10_sum_16, lX10_sum_18, lX10_sum_21, lX10_sum_22, lX10_sum_25, lX10_sum_27, lX10_sum_30, lX10_sum_31, lX10_sum_34, lX10_sum_36, lX10_sum_39, lX10_sum_42, lX10_sum_45, lX10_sum_48, lX10_sum_49, lX10_sum_50, lX10_sum_51, lX10_sum_54, lX10_sum_55, lX10_sum_56, lX10_sum_59, lX10_sum_60, lX10_sum_61, lX10_sum_62, lX10_sum_63, lX10_sum_66, lX10_sum_67, lX10_sum_70, lX10_sum_71, lX10_sum_74, lX10_sum_75, wpS, false_and, and_false, cond_false, cond_true, Bool.cond_false, Bool.cond_true, oPush, oIld, oFld, oDld, oAld, oIst, oFst, oDst, oAst, oInc, oI2, oI2n, oF2, oD2, oF2d, oIcv, oFcmp, oDcmp, oLcmp, oDup, oDupx1, oPop, oIf, oIc, oGoto, oNonnull, oGi, oGi2, oGr, oGr2, oPi, oPi2, oPz, oPr, oPr2, oAi, oAf, oAl, oAd, oAr, oSi, oSf, oSl, oSd, oSr, oRetI, oRetZ, oRetC, oRetF, oRetD, oRetA, oRetV, oCallS, oCallV, recvP, oThrow, oSw, oDisp, dispA, lk, Nat.beq, oMm, oCopy, oAlen, oAcmp, entA, lset, lset2, Value.category, Nat.reduceEqDiff, Nat.reduceAdd, Nat.reduceLT, Nat.reduceLeDiff, Nat.reduceBEq, beq_self_eq_true, Bool.or_false, Bool.false_or, Bool.or_true, Bool.true_or, ite_false, ite_true, if_true, if_false, reduceIte, reduceCtorEq, Nat.le_refl, Nat.zero_le, and_true, true_and, true_or, or_true, and_self, implies_true, not_true_eq_false, not_false_eq_true, List.take, List.drop, List.reverse_cons, List.reverse_nil, List.nil_append, List.cons_append, List.length_cons, List.length_nil, List.map_cons, List.map_nil, List.sum_cons, List.sum_nil, Option.toList, va_rf, Nat.add_zero, Nat.zero_add, List.mem_cons, List.not_mem_nil, forall_eq_or_imp, or_false, false_implies, eq_self, true_implies, b2i_eq0, b2i_eq1, b2i_01, em_nn, cl_0, cl_1, cl_2, vin_0, vin_1, vin_2, u2_ap, r2_ap, Sum.inl.injEq, Option.some.injEq, Value.int.injEq, sh_125]
  obtain ⟨s1, f1, m1, n1, t1⟩ := q1
  by_cases ho : (rec p).1 = true
  · obtain ⟨x', ex, hx, tx⟩ := t1 ho
    rw [ho] at s1
    rw [ex]
    exact loop 101 _ _ I1 x' mk1 _ rfl rfl s1 f1 m1 n1 hx tx (by unfold plev; rw [if_pos ho]) (by omega)
  · have ho' : (rec p).1 = false := by simpa using ho
    rw [ho'] at s1
    exact bad I1 x mk1 _ _ rfl rfl s1 f1 m1 n1 (by unfold plev; rw [if_neg ho]) (by unfold plev; rw [if_neg ho])
end
