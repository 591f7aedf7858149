/-! ===== an iteration in the machines ===== -/
abbrev FV := {x : UInt32 // Fn x}
noncomputable def mkF (x : UInt32) : FV := @dite FV (Fn x) (Classical.propDecidable _) (fun h => ⟨x, h⟩) (fun _ => ⟨FP.fconst0, fn_0⟩)
theorem mkF_v {x : UInt32} (h : Fn x) : (mkF x).1 = x := by unfold mkF; rw [dif_pos h]
theorem fbyC_fn {k : Nat} {x y : UInt32} (hx : Fn x) (hy : Fn y) : Fn (fby mmC k x y) := by
  unfold fby
  split
  · exact bnd_fn (fadd_nn hx hy)
  split
  · exact bnd_fn (fmul_nn hx hy)
  split
  · exact (mm_z (gr := false) (ZR.refl hx) (ZR.refl hy)).1
  split
  · exact (mm_z (gr := true) (ZR.refl hx) (ZR.refl hy)).1
  exact bnd_fn (fsub_nn hx hy)
noncomputable def lfV (el : Nat → Int32) (e : Nat → UInt32) (c : Int32) : FV := mkF (lfG FP.i2f el e c)
noncomputable def paV (c : Int32) (x y : FV) : FV := mkF (fby mmC (c - 300).toNatClampNeg x.1 y.1)
def coV (x y z : FV) : FV := if FP.fcmp x.1 FP.fconst0 = some .gt then y else z
theorem vlV {el : Nat → Int32} {e : Nat → UInt32} (he : ∀ v, v < 8 → Fn (e v)) {A : List Int32} (hA : IsE A) : (vl ⟨FP.fconst0, fn_0⟩ (lfV el e) paV coV A).1 = evF mmC el e A := by
  refine hA.ind (fun A => (vl ⟨FP.fconst0, fn_0⟩ (lfV el e) paV coV A).1 = evF mmC el e A) ?_ ?_ ?_
  · intro c hc
    unfold evF
    rw [vl_leaf hc, vl_leaf hc]
    refine mkF_v ?_
    rcases hc with ⟨k, hk, rfl⟩ | ⟨k, hk, rfl⟩ | ⟨k, hk, rfl⟩
    · rw [lf_num hk]; exact i2f_fn _
    · rw [lf_var hk]; exact he k hk
    · rw [lf_el hk]; exact i2f_fn _
  · intro c A B hc hA hB qA qB
    unfold evF at *
    rw [vl_pair hc hA hB, vl_pair hc hA hB, ← qA, ← qB]
    exact mkF_v (fbyC_fn (Subtype.property _) (Subtype.property _))
  · intro A B C hA hB hC qA qB qC
    rw [vl_ch hA hB hC, evF_ch hA hB hC, ← qA, ← qB, ← qC]
    unfold coV
    split <;> rfl
theorem evC_fn {el : Nat → Int32} {e : Nat → UInt32} (he : ∀ v, v < 8 → Fn (e v)) {A : List Int32} (hA : IsE A) : Fn (evF mmC el e A) := by rw [← vlV he hA]; exact Subtype.property _
theorem pc_rng {c : Int32} (hc : pairc c) : ∃ k, k < 8 ∧ c = nI (300 + k) := by
  obtain ⟨k, hk, e⟩ := hc
  exact ⟨k, hk, e⟩
def nbc (c : Int32) : Prop := ¬ (302 ≤ c ∧ c ≤ 304)
theorem nbc_op {k : Nat} (hk : k < 8) (h : nbc (nI (300 + k))) : opkF k := by
  refine ⟨fun e => h ?_, fun e => h ?_, fun e => h ?_⟩ <;> subst e <;> decide
def frm (B : Nat) (I I' : Nat → Nat → Int32) (F F' : Nat → Nat → UInt32) : Prop := ∀ a, (a < B ∨ B + 20 < a) → I' a = I a ∧ F' a = F a
theorem frm.refl (B : Nat) (I : Nat → Nat → Int32) (F : Nat → Nat → UInt32) : frm B I I F F := fun _ _ => ⟨rfl, rfl⟩
theorem frm.trans {B : Nat} {I I1 I2 : Nat → Nat → Int32} {F F1 F2 : Nat → Nat → UInt32} (h : frm B I I1 F F1) (h' : frm B I1 I2 F1 F2) : frm B I I2 F F2 := fun a ha => ⟨(h' a ha).1.trans (h a ha).1, (h' a ha).2.trans (h a ha).2⟩
theorem frm.uI {B a k : Nat} {I : Nat → Nat → Int32} {F : Nat → Nat → UInt32} {x : Int32} (h : B ≤ a ∧ a ≤ B + 20) : frm B I (u2 I a k x) F F := fun c hc => ⟨u2_ne _ _ _ (by omega), rfl⟩
theorem frm.uF {B a k : Nat} {I : Nat → Nat → Int32} {F : Nat → Nat → UInt32} {x : UInt32} (h : B ≤ a ∧ a ≤ B + 20) : frm B I I F (u2 F a k x) := fun c hc => ⟨rfl, u2_ne _ _ _ (by omega)⟩
theorem okF.u {F : Nat → Nat → UInt32} (h : okF F) {t v : Nat} (ht : t < 18) {x : UInt32} (hx : Fn x) : okF (u2 F (46 + t) v x) := by
  refine ⟨fun s u hs hu => ?_, fun j => by rw [u2_ne _ _ _ (by omega)]; exact h.2 j⟩
  by_cases e : s = t
  · subst e
    rw [u2_up1]
    unfold up1
    split
    · exact hx
    · exact h.1 s u hs hu
  · rw [u2_ne _ _ _ (by omega)]; exact h.1 s u hs hu
theorem okI.u {F : Nat → Nat → UInt32} (_ : okI F) : okI F := trivial
theorem up1_v (s : Nat → FV) (k : Nat) (x : FV) : (fun j => (up1 s k x j).1) = up1 (fun j => (s j).1) k x.1 := by
  funext j
  unfold up1
  split <;> rfl
theorem lf_cv {c : Int32} (hc : leafc c) (hs : ¬ isst c) (el e : Nat → Int32) (e' : Nat → UInt32) : FP.i2f (lfG (fun x => x) el e c) = lfG FP.i2f el e' c := by
  rcases hc with ⟨k, hk, rfl⟩ | ⟨k, hk, rfl⟩ | ⟨k, hk, rfl⟩
  · rw [lf_num hk, lf_num hk]
  · exact absurd (isst_iff.mpr ⟨k, hk, rfl⟩) hs
  · rw [lf_el hk, lf_el hk]
section
variable {d : Nat} {P : PO} {I : Nat → Nat → Int32} {F : Nat → Nat → UInt32} {L : Nat → Nat → Int64} {D : Nat → Nat → UInt64} {pr : Nat} {sv : Option Nat}
variable {S : ST} {b : Nat}
theorem c_putLeafI (hd : 3 ≤ d) {t i : Nat} (ht : t < 18) (hi : i < 16) (h1 : I 23 1 = nI t) (h2 : I 23 2 = nI i) {el : Nat → Int32} (hel : ∀ a, a < 3 → I (13 + a) i = el a) {s : Nat → Int32} {k : Nat} {c : Int32} (hc : leafc c) (hk : k < 200) (h : P (.inl none) 150 (r2 I 43 (up1 s k (lfG (fun x => x) el (I (25 + t)) c)), F, RR pr sv, L, D)) : CallOK d 0 0 yX4_putLeaf (Cond.code yX4_putLeaf cX4_putLeaf 3 none) [.ref 23, .int (nI k), .int c] 150 (r2 I 43 s, F, RR pr sv, L, D) P := by
  have ck := nI_clamp (n := k) (by omega)
  have ik := vp_in_nI (n := k) (N := 200) (by omega) (by decide)
  obtain ⟨d, rfl⟩ : ∃ e, d = e + 1 := ⟨d - 1, by omega⟩
  refine iX4_putLeaf (Nat.le_of_ble_eq_true rfl) (fun J hJ => ?_)
  refine hJ 40 (fun pc => pc == 9 || pc == 20 || pc == 34) _ _ _ _ _ ?_
  simp -implicitDefEqProofs only [lX4_putLeaf_0, lX4_putLeaf_1, lX4_putLeaf_4, lX4_putLeaf_5, lX4_putLeaf_6, lX4_putLeaf_9, lX4_putLeaf_12, lX4_putLeaf_13, lX4_putLeaf_16, lX4_putLeaf_17, lX4_putLeaf_20, lX4_putLeaf_21, lX4_putLeaf_22, lX4_putLeaf_24, lX4_putLeaf_25, lX4_putLeaf_26, lX4_putLeaf_29, lX4_putLeaf_30, lX4_putLeaf_31, lX4_putLeaf_34, lX4_putLeaf_35, wpS, ↓reduceIte, Bool.false_eq_true, false_and, and_false, cond_false, cond_true, Bool.cond_false, Bool.cond_true, oPush, oIld, oFld, oDld, oAld, oIst, oFst, oDst, oAst, oInc, oI2, oI2n, oF2, oD2, oF2d, oIcv, oFcmp, oDcmp, oLcmp, oDup, oDupx1, oPop, oIf, oIc, oGoto, oNonnull, oGi, oGi2, oGr, oGr2, oPi, oPi2, oPz, oPr, oPr2, oAi, oAf, oAl, oAd, oAr, oSi, oSf, oSl, oSd, oSr, oRetI, oRetZ, oRetC, oRetF, oRetD, oRetA, oRetV, oCallS, oCallV, recvP, oThrow, oSw, oDisp, dispA, lk, Nat.beq, oMm, oCopy, oAlen, oAcmp, entA, lset, lset2, Value.category, Nat.reduceEqDiff, Nat.reduceAdd, Nat.reduceLT, Nat.reduceLeDiff, Nat.reduceBEq, beq_self_eq_true, Bool.or_false, Bool.false_or, Bool.or_true, Bool.true_or, ite_false, ite_true, if_true, if_false, reduceIte, reduceCtorEq, Nat.le_refl, Nat.zero_le, and_true, true_and, true_or, or_true, and_self, implies_true, not_true_eq_false, not_false_eq_true, List.take, List.drop, List.reverse_cons, List.reverse_nil, List.nil_append, List.cons_append, List.length_cons, List.length_nil, List.map_cons, List.map_nil, List.sum_cons, List.sum_nil, Option.toList, va_rf, Nat.add_zero, Nat.zero_add, List.forall_mem_cons, List.not_mem_nil, or_false, false_implies, eq_self, true_implies, b2i_eq0, b2i_eq1, b2i_01, em_nn, cl_0, cl_1, cl_2, vin_0, vin_1, vin_2, u2_ap, r2_ap, Sum.inl.injEq, Option.some.injEq, Value.int.injEq, sh_23, rr_23_4]
  have j34 : ∀ (lv : LV) (x : Int32), x = lfG (fun x => x) el (I (25 + t)) c → J 34 lv [.int x, .int (nI k), .ref 43] (150, 0, 0) (r2 I 43 s, F, RR pr sv, L, D) := by
    intro lv x e
    subst e
    refine hJ 40 (fun pc => pc == 9 || pc == 20 || pc == 34) _ _ _ _ _ ?_
    simp -implicitDefEqProofs only [lX4_putLeaf_0, lX4_putLeaf_1, lX4_putLeaf_4, lX4_putLeaf_5, lX4_putLeaf_6, lX4_putLeaf_9, lX4_putLeaf_12, lX4_putLeaf_13, lX4_putLeaf_16, lX4_putLeaf_17, lX4_putLeaf_20, lX4_putLeaf_21, lX4_putLeaf_22, lX4_putLeaf_24, lX4_putLeaf_25, lX4_putLeaf_26, lX4_putLeaf_29, lX4_putLeaf_30, lX4_putLeaf_31, lX4_putLeaf_34, lX4_putLeaf_35, wpS, ↓reduceIte, Bool.false_eq_true, false_and, and_false, cond_false, cond_true, Bool.cond_false, Bool.cond_true, oPush, oIld, oFld, oDld, oAld, oIst, oFst, oDst, oAst, oInc, oI2, oI2n, oF2, oD2, oF2d, oIcv, oFcmp, oDcmp, oLcmp, oDup, oDupx1, oPop, oIf, oIc, oGoto, oNonnull, oGi, oGi2, oGr, oGr2, oPi, oPi2, oPz, oPr, oPr2, oAi, oAf, oAl, oAd, oAr, oSi, oSf, oSl, oSd, oSr, oRetI, oRetZ, oRetC, oRetF, oRetD, oRetA, oRetV, oCallS, oCallV, recvP, oThrow, oSw, oDisp, dispA, lk, Nat.beq, oMm, oCopy, oAlen, oAcmp, entA, lset, lset2, Value.category, Nat.reduceEqDiff, Nat.reduceAdd, Nat.reduceLT, Nat.reduceLeDiff, Nat.reduceBEq, beq_self_eq_true, Bool.or_false, Bool.false_or, Bool.or_true, Bool.true_or, ite_false, ite_true, if_true, if_false, reduceIte, reduceCtorEq, Nat.le_refl, Nat.zero_le, and_true, true_and, true_or, or_true, and_self, implies_true, not_true_eq_false, not_false_eq_true, List.take, List.drop, List.reverse_cons, List.reverse_nil, List.nil_append, List.cons_append, List.length_cons, List.length_nil, List.map_cons, List.map_nil, List.sum_cons, List.sum_nil, Option.toList, va_rf, Nat.add_zero, Nat.zero_add, List.forall_mem_cons, List.not_mem_nil, or_false, false_implies, eq_self, true_implies, b2i_eq0, b2i_eq1, b2i_01, em_nn, cl_0, cl_1, cl_2, vin_0, vin_1, vin_2, u2_ap, r2_ap, Sum.inl.injEq, Option.some.injEq, Value.int.injEq, sh_43, ck, ik, r2_u2]
    exact h
  refine c_isStart (by omega) ?_
  simp only [Nat.add_zero, Nat.zero_add, true_and, and_true, Option.toList, List.nil_append, List.cons_append, List.append_nil, reduceCtorEq, and_self, List.drop, List.take, eq_self]
  refine hJ 40 (fun pc => pc == 9 || pc == 20 || pc == 34) _ _ _ _ _ ?_
  simp -implicitDefEqProofs only [lX4_putLeaf_0, lX4_putLeaf_1, lX4_putLeaf_4, lX4_putLeaf_5, lX4_putLeaf_6, lX4_putLeaf_9, lX4_putLeaf_12, lX4_putLeaf_13, lX4_putLeaf_16, lX4_putLeaf_17, lX4_putLeaf_20, lX4_putLeaf_21, lX4_putLeaf_22, lX4_putLeaf_24, lX4_putLeaf_25, lX4_putLeaf_26, lX4_putLeaf_29, lX4_putLeaf_30, lX4_putLeaf_31, lX4_putLeaf_34, lX4_putLeaf_35, wpS, ↓reduceIte, Bool.false_eq_true, false_and, and_false, cond_false, cond_true, Bool.cond_false, Bool.cond_true, oPush, oIld, oFld, oDld, oAld, oIst, oFst, oDst, oAst, oInc, oI2, oI2n, oF2, oD2, oF2d, oIcv, oFcmp, oDcmp, oLcmp, oDup, oDupx1, oPop, oIf, oIc, oGoto, oNonnull, oGi, oGi2, oGr, oGr2, oPi, oPi2, oPz, oPr, oPr2, oAi, oAf, oAl, oAd, oAr, oSi, oSf, oSl, oSd, oSr, oRetI, oRetZ, oRetC, oRetF, oRetD, oRetA, oRetV, oCallS, oCallV, recvP, oThrow, oSw, oDisp, dispA, lk, Nat.beq, oMm, oCopy, oAlen, oAcmp, entA, lset, lset2, Value.category, Nat.reduceEqDiff, Nat.reduceAdd, Nat.reduceLT, Nat.reduceLeDiff, Nat.reduceBEq, beq_self_eq_true, Bool.or_false, Bool.false_or, Bool.or_true, Bool.true_or, ite_false, ite_true, if_true, if_false, reduceIte, reduceCtorEq, Nat.le_refl, Nat.zero_le, and_true, true_and, true_or, or_true, and_self, implies_true, not_true_eq_false, not_false_eq_true, List.take, List.drop, List.reverse_cons, List.reverse_nil, List.nil_append, List.cons_append, List.length_cons, List.length_nil, List.map_cons, List.map_nil, List.sum_cons, List.sum_nil, Option.toList, va_rf, Nat.add_zero, Nat.zero_add, List.forall_mem_cons, List.not_mem_nil, or_false, false_implies, eq_self, true_implies, b2i_eq0, b2i_eq1, b2i_01, em_nn, cl_0, cl_1, cl_2, vin_0, vin_1, vin_2, u2_ap, r2_ap, Sum.inl.injEq, Option.some.injEq, Value.int.injEq, sh_23, rr_23_3]
  refine ⟨fun w => ?_, fun w => ?_⟩
  · refine c_constantOfI (by omega) hc w hi (by rw [r2_ne _ _ (by decide)]; exact h2) (el := el) (fun a ha => by rw [r2_ne _ _ (by omega)]; exact hel a ha) (e := I (25 + t)) ?_
    simp only [Nat.add_zero, Nat.zero_add, true_and, and_true, Option.toList, List.nil_append, List.cons_append, List.append_nil, reduceCtorEq, and_self, List.drop, List.take, eq_self]
    exact j34 _ _ rfl
  · obtain ⟨u, hu, rfl⟩ := isst_iff.mp (Classical.not_not.mp w)
    obtain ⟨re, se⟩ := rwI ht pr sv
    have me : 25 + t < 150 := by omega
    have ct := nI_clamp (n := t) (by omega)
    have it := vp_in_nI (n := t) (N := 18) (by omega) (by decide)
    have cu := nI_clamp (n := u) (by omega)
    have iu := vp_in_nI (n := u) (N := 8) (by omega) (by decide)
    have e1 : r2 I 43 s 23 1 = nI t := by rw [r2_ne _ _ (by decide)]; exact h1
    refine c_rowNowI (by omega) ?_
    rw [e1]
    simp only [Nat.add_zero, Nat.zero_add, true_and, and_true, Option.toList, List.nil_append, List.cons_append, List.append_nil, reduceCtorEq, and_self, List.drop, List.take, eq_self]
    refine hJ 40 (fun pc => pc == 9 || pc == 20 || pc == 34) _ _ _ _ _ ?_
    simp -implicitDefEqProofs only [lX4_putLeaf_0, lX4_putLeaf_1, lX4_putLeaf_4, lX4_putLeaf_5, lX4_putLeaf_6, lX4_putLeaf_9, lX4_putLeaf_12, lX4_putLeaf_13, lX4_putLeaf_16, lX4_putLeaf_17, lX4_putLeaf_20, lX4_putLeaf_21, lX4_putLeaf_22, lX4_putLeaf_24, lX4_putLeaf_25, lX4_putLeaf_26, lX4_putLeaf_29, lX4_putLeaf_30, lX4_putLeaf_31, lX4_putLeaf_34, lX4_putLeaf_35, wpS, ↓reduceIte, Bool.false_eq_true, false_and, and_false, cond_false, cond_true, Bool.cond_false, Bool.cond_true, oPush, oIld, oFld, oDld, oAld, oIst, oFst, oDst, oAst, oInc, oI2, oI2n, oF2, oD2, oF2d, oIcv, oFcmp, oDcmp, oLcmp, oDup, oDupx1, oPop, oIf, oIc, oGoto, oNonnull, oGi, oGi2, oGr, oGr2, oPi, oPi2, oPz, oPr, oPr2, oAi, oAf, oAl, oAd, oAr, oSi, oSf, oSl, oSd, oSr, oRetI, oRetZ, oRetC, oRetF, oRetD, oRetA, oRetV, oCallS, oCallV, recvP, oThrow, oSw, oDisp, dispA, lk, Nat.beq, oMm, oCopy, oAlen, oAcmp, entA, lset, lset2, Value.category, Nat.reduceEqDiff, Nat.reduceAdd, Nat.reduceLT, Nat.reduceLeDiff, Nat.reduceBEq, beq_self_eq_true, Bool.or_false, Bool.false_or, Bool.or_true, Bool.true_or, ite_false, ite_true, if_true, if_false, reduceIte, reduceCtorEq, Nat.le_refl, Nat.zero_le, and_true, true_and, true_or, or_true, and_self, implies_true, not_true_eq_false, not_false_eq_true, List.take, List.drop, List.reverse_cons, List.reverse_nil, List.nil_append, List.cons_append, List.length_cons, List.length_nil, List.map_cons, List.map_nil, List.sum_cons, List.sum_nil, Option.toList, va_rf, Nat.add_zero, Nat.zero_add, List.forall_mem_cons, List.not_mem_nil, or_false, false_implies, eq_self, true_implies, b2i_eq0, b2i_eq1, b2i_01, em_nn, cl_0, cl_1, cl_2, vin_0, vin_1, vin_2, u2_ap, r2_ap, Sum.inl.injEq, Option.some.injEq, Value.int.injEq, sh_23, sh_24, re, se, me, ct, it, sub100, cu, iu]
    refine j34 _ _ ?_
    rw [lf_var hu]
    try rw [if_neg (by omega)]
theorem c_joinPairI (hd : 2 ≤ d) {s : Nat → Int32} {k : Nat} {c : Int32} (hc : pairc c) (hk : k + 1 < 200) (h : P (.inl none) 150 (r2 I 43 (up1 s k (iby (c - 300).toNatClampNeg (s (k + 1)) (s k))), F, RR pr sv, L, D)) : CallOK d 0 0 yX4_joinPair (Cond.code yX4_joinPair cX4_joinPair 3 none) [.ref 23, .int (nI k), .int c] 150 (r2 I 43 s, F, RR pr sv, L, D) P := by
  have ck := nI_clamp (n := k) (by omega)
  have ik := vp_in_nI (n := k) (N := 200) (by omega) (by decide)
  have c1 := nI_clamp (n := k + 1) (by omega)
  have i1 := vp_in_nI (n := k + 1) (N := 200) (by omega) (by decide)
  obtain ⟨q, hq, rfl⟩ := hc
  rw [sub300, nI_clamp (by omega)] at h
  obtain ⟨d, rfl⟩ : ∃ e, d = e + 1 := ⟨d - 1, by omega⟩
  refine iX4_joinPair (Nat.le_of_ble_eq_true rfl) (fun J hJ => ?_)
  refine hJ 40 (fun pc => pc == 23) _ _ _ _ _ ?_
  simp -implicitDefEqProofs only [lX4_joinPair_0, lX4_joinPair_1, lX4_joinPair_4, lX4_joinPair_5, lX4_joinPair_6, lX4_joinPair_7, lX4_joinPair_10, lX4_joinPair_11, lX4_joinPair_12, lX4_joinPair_13, lX4_joinPair_14, lX4_joinPair_15, lX4_joinPair_18, lX4_joinPair_19, lX4_joinPair_20, lX4_joinPair_23, lX4_joinPair_24, wpS, ↓reduceIte, Bool.false_eq_true, false_and, and_false, cond_false, cond_true, Bool.cond_false, Bool.cond_true, oPush, oIld, oFld, oDld, oAld, oIst, oFst, oDst, oAst, oInc, oI2, oI2n, oF2, oD2, oF2d, oIcv, oFcmp, oDcmp, oLcmp, oDup, oDupx1, oPop, oIf, oIc, oGoto, oNonnull, oGi, oGi2, oGr, oGr2, oPi, oPi2, oPz, oPr, oPr2, oAi, oAf, oAl, oAd, oAr, oSi, oSf, oSl, oSd, oSr, oRetI, oRetZ, oRetC, oRetF, oRetD, oRetA, oRetV, oCallS, oCallV, recvP, oThrow, oSw, oDisp, dispA, lk, Nat.beq, oMm, oCopy, oAlen, oAcmp, entA, lset, lset2, Value.category, Nat.reduceEqDiff, Nat.reduceAdd, Nat.reduceLT, Nat.reduceLeDiff, Nat.reduceBEq, beq_self_eq_true, Bool.or_false, Bool.false_or, Bool.or_true, Bool.true_or, ite_false, ite_true, if_true, if_false, reduceIte, reduceCtorEq, Nat.le_refl, Nat.zero_le, and_true, true_and, true_or, or_true, and_self, implies_true, not_true_eq_false, not_false_eq_true, List.take, List.drop, List.reverse_cons, List.reverse_nil, List.nil_append, List.cons_append, List.length_cons, List.length_nil, List.map_cons, List.map_nil, List.sum_cons, List.sum_nil, Option.toList, va_rf, Nat.add_zero, Nat.zero_add, List.forall_mem_cons, List.not_mem_nil, or_false, false_implies, eq_self, true_implies, b2i_eq0, b2i_eq1, b2i_01, em_nn, cl_0, cl_1, cl_2, vin_0, vin_1, vin_2, u2_ap, r2_ap, Sum.inl.injEq, Option.some.injEq, Value.int.injEq, sh_23, sh_43, rr_23_4, ck, ik, nI_1, c1, i1]
  refine c_calculateI (F := F) (by omega) hq trivial trivial ?_
  simp only [Nat.add_zero, Nat.zero_add, true_and, and_true, Option.toList, List.nil_append, List.cons_append, List.append_nil, reduceCtorEq, and_self, List.drop, List.take, eq_self]
  refine hJ 40 (fun pc => pc == 23) _ _ _ _ _ ?_
  simp -implicitDefEqProofs only [lX4_joinPair_0, lX4_joinPair_1, lX4_joinPair_4, lX4_joinPair_5, lX4_joinPair_6, lX4_joinPair_7, lX4_joinPair_10, lX4_joinPair_11, lX4_joinPair_12, lX4_joinPair_13, lX4_joinPair_14, lX4_joinPair_15, lX4_joinPair_18, lX4_joinPair_19, lX4_joinPair_20, lX4_joinPair_23, lX4_joinPair_24, wpS, ↓reduceIte, Bool.false_eq_true, false_and, and_false, cond_false, cond_true, Bool.cond_false, Bool.cond_true, oPush, oIld, oFld, oDld, oAld, oIst, oFst, oDst, oAst, oInc, oI2, oI2n, oF2, oD2, oF2d, oIcv, oFcmp, oDcmp, oLcmp, oDup, oDupx1, oPop, oIf, oIc, oGoto, oNonnull, oGi, oGi2, oGr, oGr2, oPi, oPi2, oPz, oPr, oPr2, oAi, oAf, oAl, oAd, oAr, oSi, oSf, oSl, oSd, oSr, oRetI, oRetZ, oRetC, oRetF, oRetD, oRetA, oRetV, oCallS, oCallV, recvP, oThrow, oSw, oDisp, dispA, lk, Nat.beq, oMm, oCopy, oAlen, oAcmp, entA, lset, lset2, Value.category, Nat.reduceEqDiff, Nat.reduceAdd, Nat.reduceLT, Nat.reduceLeDiff, Nat.reduceBEq, beq_self_eq_true, Bool.or_false, Bool.false_or, Bool.or_true, Bool.true_or, ite_false, ite_true, if_true, if_false, reduceIte, reduceCtorEq, Nat.le_refl, Nat.zero_le, and_true, true_and, true_or, or_true, and_self, implies_true, not_true_eq_false, not_false_eq_true, List.take, List.drop, List.reverse_cons, List.reverse_nil, List.nil_append, List.cons_append, List.length_cons, List.length_nil, List.map_cons, List.map_nil, List.sum_cons, List.sum_nil, Option.toList, va_rf, Nat.add_zero, Nat.zero_add, List.forall_mem_cons, List.not_mem_nil, or_false, false_implies, eq_self, true_implies, b2i_eq0, b2i_eq1, b2i_01, em_nn, cl_0, cl_1, cl_2, vin_0, vin_1, vin_2, u2_ap, r2_ap, Sum.inl.injEq, Option.some.injEq, Value.int.injEq, sh_43, ck, ik, r2_u2]
  exact h
theorem c_joinChoiceI (hd : 1 ≤ d) {s : Nat → Int32} {k : Nat} (hk : k + 2 < 200) (h : P (.inl none) 150 (r2 I 43 (up1 s k (if 0 < s (k + 2) then s (k + 1) else s k)), F, RR pr sv, L, D)) : CallOK d 0 0 yX4_joinChoice (Cond.code yX4_joinChoice cX4_joinChoice 2 none) [.ref 23, .int (nI k)] 150 (r2 I 43 s, F, RR pr sv, L, D) P := by
  have ck := nI_clamp (n := k) (by omega)
  have ik := vp_in_nI (n := k) (N := 200) (by omega) (by decide)
  have c1 := nI_clamp (n := k + 1) (by omega)
  have i1 := vp_in_nI (n := k + 1) (N := 200) (by omega) (by decide)
  have e2 : nI k + 2 = nI (k + 2) := nI_add k 2
  have c2 := nI_clamp (n := k + 2) (by omega)
  have i2 := vp_in_nI (n := k + 2) (N := 200) (by omega) (by decide)
  obtain ⟨d, rfl⟩ : ∃ e, d = e + 1 := ⟨d - 1, by omega⟩
  refine iX4_joinChoice (Nat.le_of_ble_eq_true rfl) (fun J hJ => ?_)
  refine hJ 40 (fun pc => false) _ _ _ _ _ ?_
  simp -implicitDefEqProofs only [lX4_joinChoice_0, lX4_joinChoice_1, lX4_joinChoice_4, lX4_joinChoice_5, lX4_joinChoice_6, lX4_joinChoice_9, lX4_joinChoice_10, lX4_joinChoice_11, lX4_joinChoice_12, lX4_joinChoice_13, lX4_joinChoice_16, lX4_joinChoice_17, lX4_joinChoice_20, lX4_joinChoice_21, lX4_joinChoice_22, lX4_joinChoice_23, lX4_joinChoice_24, lX4_joinChoice_27, lX4_joinChoice_28, lX4_joinChoice_31, lX4_joinChoice_32, lX4_joinChoice_33, lX4_joinChoice_34, wpS, ↓reduceIte, Bool.false_eq_true, false_and, and_false, cond_false, cond_true, Bool.cond_false, Bool.cond_true, oPush, oIld, oFld, oDld, oAld, oIst, oFst, oDst, oAst, oInc, oI2, oI2n, oF2, oD2, oF2d, oIcv, oFcmp, oDcmp, oLcmp, oDup, oDupx1, oPop, oIf, oIc, oGoto, oNonnull, oGi, oGi2, oGr, oGr2, oPi, oPi2, oPz, oPr, oPr2, oAi, oAf, oAl, oAd, oAr, oSi, oSf, oSl, oSd, oSr, oRetI, oRetZ, oRetC, oRetF, oRetD, oRetA, oRetV, oCallS, oCallV, recvP, oThrow, oSw, oDisp, dispA, lk, Nat.beq, oMm, oCopy, oAlen, oAcmp, entA, lset, lset2, Value.category, Nat.reduceEqDiff, Nat.reduceAdd, Nat.reduceLT, Nat.reduceLeDiff, Nat.reduceBEq, beq_self_eq_true, Bool.or_false, Bool.false_or, Bool.or_true, Bool.true_or, ite_false, ite_true, if_true, if_false, reduceIte, reduceCtorEq, Nat.le_refl, Nat.zero_le, and_true, true_and, true_or, or_true, and_self, implies_true, not_true_eq_false, not_false_eq_true, List.take, List.drop, List.reverse_cons, List.reverse_nil, List.nil_append, List.cons_append, List.length_cons, List.length_nil, List.map_cons, List.map_nil, List.sum_cons, List.sum_nil, Option.toList, va_rf, Nat.add_zero, Nat.zero_add, List.forall_mem_cons, List.not_mem_nil, or_false, false_implies, eq_self, true_implies, b2i_eq0, b2i_eq1, b2i_01, em_nn, cl_0, cl_1, cl_2, vin_0, vin_1, vin_2, u2_ap, r2_ap, Sum.inl.injEq, Option.some.injEq, Value.int.injEq, sh_23, sh_43, rr_23_4, ck, ik, nI_1, c1, i1, e2, c2, i2, r2_u2]
  by_cases q : 0 < s (k + 2)
  · rw [if_pos q] at h; exact ⟨fun w => absurd q (Int32.not_lt.mpr w), fun _ => h⟩
  · rw [if_neg q] at h; exact ⟨fun _ => h, fun w => absurd (Int32.not_lt.mp q) w⟩
theorem c_putLeafF (hd : 3 ≤ d) {t i : Nat} (ht : t < 18) (hi : i < 16) (h1 : I 44 1 = nI t) (h2 : I 44 2 = nI i) {el : Nat → Int32} (hel : ∀ a, a < 3 → I (13 + a) i = el a) (hf : okF F) {s : Nat → FV} {k : Nat} {c : Int32} (hc : leafc c) (hk : k < 200) (h : P (.inl none) 150 (I, r2 F 64 (fun j => (up1 s k (lfV el (F (46 + t)) c) j).1), RR pr sv, L, D)) : CallOK d 0 0 yX2_putLeaf (Cond.code yX2_putLeaf cX2_putLeaf 3 none) [.ref 44, .int (nI k), .int c] 150 (I, r2 F 64 (fun j => (s j).1), RR pr sv, L, D) P := by
  have ck := nI_clamp (n := k) (by omega)
  have ik := vp_in_nI (n := k) (N := 200) (by omega) (by decide)
  have hv : (lfV el (F (46 + t)) c).1 = lfG FP.i2f el (F (46 + t)) c := by
    refine mkF_v ?_
    rcases hc with ⟨k, hk, rfl⟩ | ⟨k, hk, rfl⟩ | ⟨k, hk, rfl⟩
    · rw [lf_num hk]; exact i2f_fn _
    · rw [lf_var hk]; exact hf.1 t k ht hk
    · rw [lf_el hk]; exact i2f_fn _
  rw [up1_v, hv] at h
  obtain ⟨d, rfl⟩ : ∃ e, d = e + 1 := ⟨d - 1, by omega⟩
  refine iX2_putLeaf (Nat.le_of_ble_eq_true rfl) (fun J hJ => ?_)
  refine hJ 40 (fun pc => pc == 9 || pc == 20 || pc == 34 || pc == 35) _ _ _ _ _ ?_
  simp -implicitDefEqProofs only [lX2_putLeaf_0, lX2_putLeaf_1, lX2_putLeaf_4, lX2_putLeaf_5, lX2_putLeaf_6, lX2_putLeaf_9, lX2_putLeaf_12, lX2_putLeaf_13, lX2_putLeaf_16, lX2_putLeaf_17, lX2_putLeaf_20, lX2_putLeaf_21, lX2_putLeaf_22, lX2_putLeaf_24, lX2_putLeaf_25, lX2_putLeaf_26, lX2_putLeaf_29, lX2_putLeaf_30, lX2_putLeaf_31, lX2_putLeaf_34, lX2_putLeaf_35, lX2_putLeaf_36, wpS, ↓reduceIte, Bool.false_eq_true, false_and, and_false, cond_false, cond_true, Bool.cond_false, Bool.cond_true, oPush, oIld, oFld, oDld, oAld, oIst, oFst, oDst, oAst, oInc, oI2, oI2n, oF2, oD2, oF2d, oIcv, oFcmp, oDcmp, oLcmp, oDup, oDupx1, oPop, oIf, oIc, oGoto, oNonnull, oGi, oGi2, oGr, oGr2, oPi, oPi2, oPz, oPr, oPr2, oAi, oAf, oAl, oAd, oAr, oSi, oSf, oSl, oSd, oSr, oRetI, oRetZ, oRetC, oRetF, oRetD, oRetA, oRetV, oCallS, oCallV, recvP, oThrow, oSw, oDisp, dispA, lk, Nat.beq, oMm, oCopy, oAlen, oAcmp, entA, lset, lset2, Value.category, Nat.reduceEqDiff, Nat.reduceAdd, Nat.reduceLT, Nat.reduceLeDiff, Nat.reduceBEq, beq_self_eq_true, Bool.or_false, Bool.false_or, Bool.or_true, Bool.true_or, ite_false, ite_true, if_true, if_false, reduceIte, reduceCtorEq, Nat.le_refl, Nat.zero_le, and_true, true_and, true_or, or_true, and_self, implies_true, not_true_eq_false, not_false_eq_true, List.take, List.drop, List.reverse_cons, List.reverse_nil, List.nil_append, List.cons_append, List.length_cons, List.length_nil, List.map_cons, List.map_nil, List.sum_cons, List.sum_nil, Option.toList, va_rf, Nat.add_zero, Nat.zero_add, List.forall_mem_cons, List.not_mem_nil, or_false, false_implies, eq_self, true_implies, b2i_eq0, b2i_eq1, b2i_01, em_nn, cl_0, cl_1, cl_2, vin_0, vin_1, vin_2, u2_ap, r2_ap, Sum.inl.injEq, Option.some.injEq, Value.int.injEq, sh_44, rr_44_4]
  have j35 : ∀ (lv : LV) (x : UInt32), x = lfG FP.i2f el (F (46 + t)) c → J 35 lv [.float x, .int (nI k), .ref 64] (150, 0, 0) (I, r2 F 64 (fun j => (s j).1), RR pr sv, L, D) := by
    intro lv x e
    subst e
    refine hJ 40 (fun pc => pc == 9 || pc == 20 || pc == 34 || pc == 35) _ _ _ _ _ ?_
    simp -implicitDefEqProofs only [lX2_putLeaf_0, lX2_putLeaf_1, lX2_putLeaf_4, lX2_putLeaf_5, lX2_putLeaf_6, lX2_putLeaf_9, lX2_putLeaf_12, lX2_putLeaf_13, lX2_putLeaf_16, lX2_putLeaf_17, lX2_putLeaf_20, lX2_putLeaf_21, lX2_putLeaf_22, lX2_putLeaf_24, lX2_putLeaf_25, lX2_putLeaf_26, lX2_putLeaf_29, lX2_putLeaf_30, lX2_putLeaf_31, lX2_putLeaf_34, lX2_putLeaf_35, lX2_putLeaf_36, wpS, ↓reduceIte, Bool.false_eq_true, false_and, and_false, cond_false, cond_true, Bool.cond_false, Bool.cond_true, oPush, oIld, oFld, oDld, oAld, oIst, oFst, oDst, oAst, oInc, oI2, oI2n, oF2, oD2, oF2d, oIcv, oFcmp, oDcmp, oLcmp, oDup, oDupx1, oPop, oIf, oIc, oGoto, oNonnull, oGi, oGi2, oGr, oGr2, oPi, oPi2, oPz, oPr, oPr2, oAi, oAf, oAl, oAd, oAr, oSi, oSf, oSl, oSd, oSr, oRetI, oRetZ, oRetC, oRetF, oRetD, oRetA, oRetV, oCallS, oCallV, recvP, oThrow, oSw, oDisp, dispA, lk, Nat.beq, oMm, oCopy, oAlen, oAcmp, entA, lset, lset2, Value.category, Nat.reduceEqDiff, Nat.reduceAdd, Nat.reduceLT, Nat.reduceLeDiff, Nat.reduceBEq, beq_self_eq_true, Bool.or_false, Bool.false_or, Bool.or_true, Bool.true_or, ite_false, ite_true, if_true, if_false, reduceIte, reduceCtorEq, Nat.le_refl, Nat.zero_le, and_true, true_and, true_or, or_true, and_self, implies_true, not_true_eq_false, not_false_eq_true, List.take, List.drop, List.reverse_cons, List.reverse_nil, List.nil_append, List.cons_append, List.length_cons, List.length_nil, List.map_cons, List.map_nil, List.sum_cons, List.sum_nil, Option.toList, va_rf, Nat.add_zero, Nat.zero_add, List.forall_mem_cons, List.not_mem_nil, or_false, false_implies, eq_self, true_implies, b2i_eq0, b2i_eq1, b2i_01, em_nn, cl_0, cl_1, cl_2, vin_0, vin_1, vin_2, u2_ap, r2_ap, Sum.inl.injEq, Option.some.injEq, Value.int.injEq, sh_64, ck, ik, r2_u2]
    exact h
  refine c_isStart (by omega) ?_
  simp only [Nat.add_zero, Nat.zero_add, true_and, and_true, Option.toList, List.nil_append, List.cons_append, List.append_nil, reduceCtorEq, and_self, List.drop, List.take, eq_self]
  refine hJ 40 (fun pc => pc == 9 || pc == 20 || pc == 34 || pc == 35) _ _ _ _ _ ?_
  simp -implicitDefEqProofs only [lX2_putLeaf_0, lX2_putLeaf_1, lX2_putLeaf_4, lX2_putLeaf_5, lX2_putLeaf_6, lX2_putLeaf_9, lX2_putLeaf_12, lX2_putLeaf_13, lX2_putLeaf_16, lX2_putLeaf_17, lX2_putLeaf_20, lX2_putLeaf_21, lX2_putLeaf_22, lX2_putLeaf_24, lX2_putLeaf_25, lX2_putLeaf_26, lX2_putLeaf_29, lX2_putLeaf_30, lX2_putLeaf_31, lX2_putLeaf_34, lX2_putLeaf_35, lX2_putLeaf_36, wpS, ↓reduceIte, Bool.false_eq_true, false_and, and_false, cond_false, cond_true, Bool.cond_false, Bool.cond_true, oPush, oIld, oFld, oDld, oAld, oIst, oFst, oDst, oAst, oInc, oI2, oI2n, oF2, oD2, oF2d, oIcv, oFcmp, oDcmp, oLcmp, oDup, oDupx1, oPop, oIf, oIc, oGoto, oNonnull, oGi, oGi2, oGr, oGr2, oPi, oPi2, oPz, oPr, oPr2, oAi, oAf, oAl, oAd, oAr, oSi, oSf, oSl, oSd, oSr, oRetI, oRetZ, oRetC, oRetF, oRetD, oRetA, oRetV, oCallS, oCallV, recvP, oThrow, oSw, oDisp, dispA, lk, Nat.beq, oMm, oCopy, oAlen, oAcmp, entA, lset, lset2, Value.category, Nat.reduceEqDiff, Nat.reduceAdd, Nat.reduceLT, Nat.reduceLeDiff, Nat.reduceBEq, beq_self_eq_true, Bool.or_false, Bool.false_or, Bool.or_true, Bool.true_or, ite_false, ite_true, if_true, if_false, reduceIte, reduceCtorEq, Nat.le_refl, Nat.zero_le, and_true, true_and, true_or, or_true, and_self, implies_true, not_true_eq_false, not_false_eq_true, List.take, List.drop, List.reverse_cons, List.reverse_nil, List.nil_append, List.cons_append, List.length_cons, List.length_nil, List.map_cons, List.map_nil, List.sum_cons, List.sum_nil, Option.toList, va_rf, Nat.add_zero, Nat.zero_add, List.forall_mem_cons, List.not_mem_nil, or_false, false_implies, eq_self, true_implies, b2i_eq0, b2i_eq1, b2i_01, em_nn, cl_0, cl_1, cl_2, vin_0, vin_1, vin_2, u2_ap, r2_ap, Sum.inl.injEq, Option.some.injEq, Value.int.injEq, sh_44, rr_44_3]
  refine ⟨fun w => ?_, fun w => ?_⟩
  · refine c_constantOfF (by omega) hc w hi h2 (el := el) hel (e := I 0) ?_
    simp only [Nat.add_zero, Nat.zero_add, true_and, and_true, Option.toList, List.nil_append, List.cons_append, List.append_nil, reduceCtorEq, and_self, List.drop, List.take, eq_self]
    refine hJ 40 (fun pc => pc == 9 || pc == 20 || pc == 34 || pc == 35) _ _ _ _ _ ?_
    simp -implicitDefEqProofs only [lX2_putLeaf_0, lX2_putLeaf_1, lX2_putLeaf_4, lX2_putLeaf_5, lX2_putLeaf_6, lX2_putLeaf_9, lX2_putLeaf_12, lX2_putLeaf_13, lX2_putLeaf_16, lX2_putLeaf_17, lX2_putLeaf_20, lX2_putLeaf_21, lX2_putLeaf_22, lX2_putLeaf_24, lX2_putLeaf_25, lX2_putLeaf_26, lX2_putLeaf_29, lX2_putLeaf_30, lX2_putLeaf_31, lX2_putLeaf_34, lX2_putLeaf_35, lX2_putLeaf_36, wpS, ↓reduceIte, Bool.false_eq_true, false_and, and_false, cond_false, cond_true, Bool.cond_false, Bool.cond_true, oPush, oIld, oFld, oDld, oAld, oIst, oFst, oDst, oAst, oInc, oI2, oI2n, oF2, oD2, oF2d, oIcv, oFcmp, oDcmp, oLcmp, oDup, oDupx1, oPop, oIf, oIc, oGoto, oNonnull, oGi, oGi2, oGr, oGr2, oPi, oPi2, oPz, oPr, oPr2, oAi, oAf, oAl, oAd, oAr, oSi, oSf, oSl, oSd, oSr, oRetI, oRetZ, oRetC, oRetF, oRetD, oRetA, oRetV, oCallS, oCallV, recvP, oThrow, oSw, oDisp, dispA, lk, Nat.beq, oMm, oCopy, oAlen, oAcmp, entA, lset, lset2, Value.category, Nat.reduceEqDiff, Nat.reduceAdd, Nat.reduceLT, Nat.reduceLeDiff, Nat.reduceBEq, beq_self_eq_true, Bool.or_false, Bool.false_or, Bool.or_true, Bool.true_or, ite_false, ite_true, if_true, if_false, reduceIte, reduceCtorEq, Nat.le_refl, Nat.zero_le, and_true, true_and, true_or, or_true, and_self, implies_true, not_true_eq_false, not_false_eq_true, List.take, List.drop, List.reverse_cons, List.reverse_nil, List.nil_append, List.cons_append, List.length_cons, List.length_nil, List.map_cons, List.map_nil, List.sum_cons, List.sum_nil, Option.toList, va_rf, Nat.add_zero, Nat.zero_add, List.forall_mem_cons, List.not_mem_nil, or_false, false_implies, eq_self, true_implies, b2i_eq0, b2i_eq1, b2i_01, em_nn, cl_0, cl_1, cl_2, vin_0, vin_1, vin_2, u2_ap, r2_ap, Sum.inl.injEq, Option.some.injEq, Value.int.injEq]
    exact j35 _ _ (lf_cv hc w _ _ _)
  · obtain ⟨u, hu, rfl⟩ := isst_iff.mp (Classical.not_not.mp w)
    obtain ⟨re, se⟩ := rwF ht pr sv
    have me : 46 + t < 150 := by omega
    have ct := nI_clamp (n := t) (by omega)
    have it := vp_in_nI (n := t) (N := 18) (by omega) (by decide)
    have cu := nI_clamp (n := u) (by omega)
    have iu := vp_in_nI (n := u) (N := 8) (by omega) (by decide)
    refine c_rowNowF (by omega) ?_
    rw [h1]
    simp only [Nat.add_zero, Nat.zero_add, true_and, and_true, Option.toList, List.nil_append, List.cons_append, List.append_nil, reduceCtorEq, and_self, List.drop, List.take, eq_self]
    refine hJ 40 (fun pc => pc == 9 || pc == 20 || pc == 34 || pc == 35) _ _ _ _ _ ?_
    simp -implicitDefEqProofs only [lX2_putLeaf_0, lX2_putLeaf_1, lX2_putLeaf_4, lX2_putLeaf_5, lX2_putLeaf_6, lX2_putLeaf_9, lX2_putLeaf_12, lX2_putLeaf_13, lX2_putLeaf_16, lX2_putLeaf_17, lX2_putLeaf_20, lX2_putLeaf_21, lX2_putLeaf_22, lX2_putLeaf_24, lX2_putLeaf_25, lX2_putLeaf_26, lX2_putLeaf_29, lX2_putLeaf_30, lX2_putLeaf_31, lX2_putLeaf_34, lX2_putLeaf_35, lX2_putLeaf_36, wpS, ↓reduceIte, Bool.false_eq_true, false_and, and_false, cond_false, cond_true, Bool.cond_false, Bool.cond_true, oPush, oIld, oFld, oDld, oAld, oIst, oFst, oDst, oAst, oInc, oI2, oI2n, oF2, oD2, oF2d, oIcv, oFcmp, oDcmp, oLcmp, oDup, oDupx1, oPop, oIf, oIc, oGoto, oNonnull, oGi, oGi2, oGr, oGr2, oPi, oPi2, oPz, oPr, oPr2, oAi, oAf, oAl, oAd, oAr, oSi, oSf, oSl, oSd, oSr, oRetI, oRetZ, oRetC, oRetF, oRetD, oRetA, oRetV, oCallS, oCallV, recvP, oThrow, oSw, oDisp, dispA, lk, Nat.beq, oMm, oCopy, oAlen, oAcmp, entA, lset, lset2, Value.category, Nat.reduceEqDiff, Nat.reduceAdd, Nat.reduceLT, Nat.reduceLeDiff, Nat.reduceBEq, beq_self_eq_true, Bool.or_false, Bool.false_or, Bool.or_true, Bool.true_or, ite_false, ite_true, if_true, if_false, reduceIte, reduceCtorEq, Nat.le_refl, Nat.zero_le, and_true, true_and, true_or, or_true, and_self, implies_true, not_true_eq_false, not_false_eq_true, List.take, List.drop, List.reverse_cons, List.reverse_nil, List.nil_append, List.cons_append, List.length_cons, List.length_nil, List.map_cons, List.map_nil, List.sum_cons, List.sum_nil, Option.toList, va_rf, Nat.add_zero, Nat.zero_add, List.forall_mem_cons, List.not_mem_nil, or_false, false_implies, eq_self, true_implies, b2i_eq0, b2i_eq1, b2i_01, em_nn, cl_0, cl_1, cl_2, vin_0, vin_1, vin_2, u2_ap, r2_ap, Sum.inl.injEq, Option.some.injEq, Value.int.injEq, sh_44, sh_45, re, se, me, ct, it, sub100, cu, iu]
    refine j35 _ _ ?_
    rw [lf_var hu]
    try rw [if_neg (by omega)]
theorem c_joinPairF (hd : 2 ≤ d) {s : Nat → FV} {k : Nat} {c : Int32} (hc : pairc c) (hn : nbc c) (hk : k + 1 < 200) (h : P (.inl none) 150 (I, r2 F 64 (fun j => (up1 s k (paV c (s (k + 1)) (s k)) j).1), RR pr sv, L, D)) : CallOK d 0 0 yX2_joinPair (Cond.code yX2_joinPair cX2_joinPair 3 none) [.ref 44, .int (nI k), .int c] 150 (I, r2 F 64 (fun j => (s j).1), RR pr sv, L, D) P := by
  have ck := nI_clamp (n := k) (by omega)
  have ik := vp_in_nI (n := k) (N := 200) (by omega) (by decide)
  have c1 := nI_clamp (n := k + 1) (by omega)
  have i1 := vp_in_nI (n := k + 1) (N := 200) (by omega) (by decide)
  obtain ⟨q, hq, rfl⟩ := hc
  have hv : (paV (nI (300 + q)) (s (k + 1)) (s k)).1 = fby mmC q (s (k + 1)).1 (s k).1 := by
    unfold paV
    rw [sub300, nI_clamp (by omega)]
    exact mkF_v (fbyC_fn (Subtype.property _) (Subtype.property _))
  rw [up1_v, hv] at h
  obtain ⟨d, rfl⟩ : ∃ e, d = e + 1 := ⟨d - 1, by omega⟩
  refine iX2_joinPair (Nat.le_of_ble_eq_true rfl) (fun J hJ => ?_)
  refine hJ 40 (fun pc => pc == 23) _ _ _ _ _ ?_
  simp -implicitDefEqProofs only [lX2_joinPair_0, lX2_joinPair_1, lX2_joinPair_4, lX2_joinPair_5, lX2_joinPair_6, lX2_joinPair_7, lX2_joinPair_10, lX2_joinPair_11, lX2_joinPair_12, lX2_joinPair_13, lX2_joinPair_14, lX2_joinPair_15, lX2_joinPair_18, lX2_joinPair_19, lX2_joinPair_20, lX2_joinPair_23, lX2_joinPair_24, wpS, ↓reduceIte, Bool.false_eq_true, false_and, and_false, cond_false, cond_true, Bool.cond_false, Bool.cond_true, oPush, oIld, oFld, oDld, oAld, oIst, oFst, oDst, oAst, oInc, oI2, oI2n, oF2, oD2, oF2d, oIcv, oFcmp, oDcmp, oLcmp, oDup, oDupx1, oPop, oIf, oIc, oGoto, oNonnull, oGi, oGi2, oGr, oGr2, oPi, oPi2, oPz, oPr, oPr2, oAi, oAf, oAl, oAd, oAr, oSi, oSf, oSl, oSd, oSr, oRetI, oRetZ, oRetC, oRetF, oRetD, oRetA, oRetV, oCallS, oCallV, recvP, oThrow, oSw, oDisp, dispA, lk, Nat.beq, oMm, oCopy, oAlen, oAcmp, entA, lset, lset2, Value.category, Nat.reduceEqDiff, Nat.reduceAdd, Nat.reduceLT, Nat.reduceLeDiff, Nat.reduceBEq, beq_self_eq_true, Bool.or_false, Bool.false_or, Bool.or_true, Bool.true_or, ite_false, ite_true, if_true, if_false, reduceIte, reduceCtorEq, Nat.le_refl, Nat.zero_le, and_true, true_and, true_or, or_true, and_self, implies_true, not_true_eq_false, not_false_eq_true, List.take, List.drop, List.reverse_cons, List.reverse_nil, List.nil_append, List.cons_append, List.length_cons, List.length_nil, List.map_cons, List.map_nil, List.sum_cons, List.sum_nil, Option.toList, va_rf, Nat.add_zero, Nat.zero_add, List.forall_mem_cons, List.not_mem_nil, or_false, false_implies, eq_self, true_implies, b2i_eq0, b2i_eq1, b2i_01, em_nn, cl_0, cl_1, cl_2, vin_0, vin_1, vin_2, u2_ap, r2_ap, Sum.inl.injEq, Option.some.injEq, Value.int.injEq, sh_44, sh_64, rr_44_4, ck, ik, nI_1, c1, i1]
  refine c_calculateF (by omega) hq (nbc_op hq hn) (Subtype.property _) (Subtype.property _) ?_
  simp only [Nat.add_zero, Nat.zero_add, true_and, and_true, Option.toList, List.nil_append, List.cons_append, List.append_nil, reduceCtorEq, and_self, List.drop, List.take, eq_self]
  refine hJ 40 (fun pc => pc == 23) _ _ _ _ _ ?_
  simp -implicitDefEqProofs only [lX2_joinPair_0, lX2_joinPair_1, lX2_joinPair_4, lX2_joinPair_5, lX2_joinPair_6, lX2_joinPair_7, lX2_joinPair_10, lX2_joinPair_11, lX2_joinPair_12, lX2_joinPair_13, lX2_joinPair_14, lX2_joinPair_15, lX2_joinPair_18, lX2_joinPair_19, lX2_joinPair_20, lX2_joinPair_23, lX2_joinPair_24, wpS, ↓reduceIte, Bool.false_eq_true, false_and, and_false, cond_false, cond_true, Bool.cond_false, Bool.cond_true, oPush, oIld, oFld, oDld, oAld, oIst, oFst, oDst, oAst, oInc, oI2, oI2n, oF2, oD2, oF2d, oIcv, oFcmp, oDcmp, oLcmp, oDup, oDupx1, oPop, oIf, oIc, oGoto, oNonnull, oGi, oGi2, oGr, oGr2, oPi, oPi2, oPz, oPr, oPr2, oAi, oAf, oAl, oAd, oAr, oSi, oSf, oSl, oSd, oSr, oRetI, oRetZ, oRetC, oRetF, oRetD, oRetA, oRetV, oCallS, oCallV, recvP, oThrow, oSw, oDisp, dispA, lk, Nat.beq, oMm, oCopy, oAlen, oAcmp, entA, lset, lset2, Value.category, Nat.reduceEqDiff, Nat.reduceAdd, Nat.reduceLT, Nat.reduceLeDiff, Nat.reduceBEq, beq_self_eq_true, Bool.or_false, Bool.false_or, Bool.or_true, Bool.true_or, ite_false, ite_true, if_true, if_false, reduceIte, reduceCtorEq, Nat.le_refl, Nat.zero_le, and_true, true_and, true_or, or_true, and_self, implies_true, not_true_eq_false, not_false_eq_true, List.take, List.drop, List.reverse_cons, List.reverse_nil, List.nil_append, List.cons_append, List.length_cons, List.length_nil, List.map_cons, List.map_nil, List.sum_cons, List.sum_nil, Option.toList, va_rf, Nat.add_zero, Nat.zero_add, List.forall_mem_cons, List.not_mem_nil, or_false, false_implies, eq_self, true_implies, b2i_eq0, b2i_eq1, b2i_01, em_nn, cl_0, cl_1, cl_2, vin_0, vin_1, vin_2, u2_ap, r2_ap, Sum.inl.injEq, Option.some.injEq, Value.int.injEq, sh_64, ck, ik, r2_u2]
  exact h
theorem c_joinChoiceF (hd : 1 ≤ d) {s : Nat → FV} {k : Nat} (hk : k + 2 < 200) (h : P (.inl none) 150 (I, r2 F 64 (fun j => (up1 s k (coV (s (k + 2)) (s (k + 1)) (s k)) j).1), RR pr sv, L, D)) : CallOK d 0 0 yX2_joinChoice (Cond.code yX2_joinChoice cX2_joinChoice 2 none) [.ref 44, .int (nI k)] 150 (I, r2 F 64 (fun j => (s j).1), RR pr sv, L, D) P := by
  have ck := nI_clamp (n := k) (by omega)
  have ik := vp_in_nI (n := k) (N := 200) (by omega) (by decide)
  have c1 := nI_clamp (n := k + 1) (by omega)
  have i1 := vp_in_nI (n := k + 1) (N := 200) (by omega) (by decide)
  have e2 : nI k + 2 = nI (k + 2) := nI_add k 2
  have c2 := nI_clamp (n := k + 2) (by omega)
  have i2 := vp_in_nI (n := k + 2) (N := 200) (by omega) (by decide)
  rw [up1_v] at h
  obtain ⟨d, rfl⟩ : ∃ e, d = e + 1 := ⟨d - 1, by omega⟩
  refine iX2_joinChoice (Nat.le_of_ble_eq_true rfl) (fun J hJ => ?_)
  refine hJ 40 (fun pc => false) _ _ _ _ _ ?_
  simp -implicitDefEqProofs only [lX2_joinChoice_0, lX2_joinChoice_1, lX2_joinChoice_4, lX2_joinChoice_5, lX2_joinChoice_6, lX2_joinChoice_9, lX2_joinChoice_10, lX2_joinChoice_11, lX2_joinChoice_12, lX2_joinChoice_13, lX2_joinChoice_14, lX2_joinChoice_15, lX2_joinChoice_18, lX2_joinChoice_19, lX2_joinChoice_22, lX2_joinChoice_23, lX2_joinChoice_24, lX2_joinChoice_25, lX2_joinChoice_26, lX2_joinChoice_29, lX2_joinChoice_30, lX2_joinChoice_33, lX2_joinChoice_34, lX2_joinChoice_35, lX2_joinChoice_36, wpS, ↓reduceIte, Bool.false_eq_true, false_and, and_false, cond_false, cond_true, Bool.cond_false, Bool.cond_true, oPush, oIld, oFld, oDld, oAld, oIst, oFst, oDst, oAst, oInc, oI2, oI2n, oF2, oD2, oF2d, oIcv, oFcmp, oDcmp, oLcmp, oDup, oDupx1, oPop, oIf, oIc, oGoto, oNonnull, oGi, oGi2, oGr, oGr2, oPi, oPi2, oPz, oPr, oPr2, oAi, oAf, oAl, oAd, oAr, oSi, oSf, oSl, oSd, oSr, oRetI, oRetZ, oRetC, oRetF, oRetD, oRetA, oRetV, oCallS, oCallV, recvP, oThrow, oSw, oDisp, dispA, lk, Nat.beq, oMm, oCopy, oAlen, oAcmp, entA, lset, lset2, Value.category, Nat.reduceEqDiff, Nat.reduceAdd, Nat.reduceLT, Nat.reduceLeDiff, Nat.reduceBEq, beq_self_eq_true, Bool.or_false, Bool.false_or, Bool.or_true, Bool.true_or, ite_false, ite_true, if_true, if_false, reduceIte, reduceCtorEq, Nat.le_refl, Nat.zero_le, and_true, true_and, true_or, or_true, and_self, implies_true, not_true_eq_false, not_false_eq_true, List.take, List.drop, List.reverse_cons, List.reverse_nil, List.nil_append, List.cons_append, List.length_cons, List.length_nil, List.map_cons, List.map_nil, List.sum_cons, List.sum_nil, Option.toList, va_rf, Nat.add_zero, Nat.zero_add, List.forall_mem_cons, List.not_mem_nil, or_false, false_implies, eq_self, true_implies, b2i_eq0, b2i_eq1, b2i_01, em_nn, cl_0, cl_1, cl_2, vin_0, vin_1, vin_2, u2_ap, r2_ap, Sum.inl.injEq, Option.some.injEq, Value.int.injEq, sh_44, sh_64, rr_44_4, ck, ik, nI_1, c1, i1, e2, c2, i2, r2_u2, cv_l_le]
  unfold coV at h
  by_cases q : FP.fcmp (s (k + 2)).1 FP.fconst0 = some .gt
  · rw [if_pos q] at h; exact ⟨fun w => absurd q w, fun _ => h⟩
  · rw [if_neg q] at h; exact ⟨fun _ => h, fun w => absurd q w⟩
theorem c_walksI (hd : 6 ≤ d) {a f t i : Nat} {A : List Int32} (hA : IsE A) (_ : ∀ c ∈ A, True) (ha : shp a = (100, 100)) (ha2 : a < 150) (ha3 : 65 ≤ a) (hfa : f + A.length ≤ 100) (hat : At (I a) f A) (ht : t < 18) (hi : i < 16) (h1 : I 23 1 = nI t) (h2 : I 23 2 = nI i) {el : Nat → Int32} (hel : ∀ a, a < 3 → I (13 + a) i = el a) (hf : okI F) (h : ∀ I' F', I' 43 0 = evI el (I (25 + t)) A → (∀ c, c ≠ 43 → I' c = I c ∧ F' c = F c) → okI F' → P (.inl none) 150 (I', F', RR pr sv, L, D)) : CallOK d 0 0 yX8_walk (Cond.code yX8_walk cX8_walk 9 none) [.ref 23, .ref a, .int (nI f), .int (nI (f + A.length))] 150 (I, F, RR pr sv, L, D) P := by
  have q := fun (P' : PO) => c_walkI (P := P') (mm := fun s => (r2 I 43 s, F, RR pr sv, L, D)) (d0 := 3) (dv := 0) (lf := lfG (fun x => x) el (I (25 + t))) (pa := fun c x y => iby (c - 300).toNatClampNeg x y) (co := fun x y z => if 0 < x then y else z) (Q := fun _ => True) (fun s k c d P hc _ hk hd h => c_putLeafI (by omega) ht hi h1 h2 hel hc hk h) (fun s k c d P hc _ hk hd h => c_joinPairI (by omega) hc hk h) (fun s k d P hk hd h => c_joinChoiceI (by omega) hk h) (d := d) (by omega) (f := f) hA (fun _ _ => trivial) ha ha2 (by omega) hfa (by omega) (fun s => by show At (r2 I 43 s a) f A; rw [r2_ne _ _ (by omega)]; exact hat) (I 43)
  simp only [r2_id] at q
  refine q _ (fun s e => ?_)
  exact h _ F (by rw [r2_row]; exact e) (fun c hc => ⟨r2_ne _ _ hc, rfl⟩) hf
theorem c_walksF (hd : 6 ≤ d) {a f t i : Nat} {A : List Int32} (hA : IsE A) (hb : ∀ c ∈ A, nbc c) (ha : shp a = (100, 100)) (ha2 : a < 150) (ha3 : 65 ≤ a) (hfa : f + A.length ≤ 100) (hat : At (I a) f A) (ht : t < 18) (hi : i < 16) (h1 : I 44 1 = nI t) (h2 : I 44 2 = nI i) {el : Nat → Int32} (hel : ∀ a, a < 3 → I (13 + a) i = el a) (hf : okF F) (h : ∀ I' F', F' 64 0 = evF mmC el (F (46 + t)) A → (∀ c, c ≠ 64 → I' c = I c ∧ F' c = F c) → okF F' → P (.inl none) 150 (I', F', RR pr sv, L, D)) : CallOK d 0 0 yX8_walk (Cond.code yX8_walk cX8_walk 9 none) [.ref 44, .ref a, .int (nI f), .int (nI (f + A.length))] 150 (I, F, RR pr sv, L, D) P := by
  have q := fun (P' : PO) => c_walkF (P := P') (mm := fun s => (I, r2 F 64 (fun j => (s j).1), RR pr sv, L, D)) (d0 := 3) (dv := ⟨FP.fconst0, fn_0⟩) (lf := lfV el (F (46 + t))) (pa := paV) (co := coV) (Q := nbc) (fun s k c d P hc _ hk hd h => c_putLeafF (by omega) ht hi h1 h2 hel hf hc hk h) (fun s k c d P hc hn hk hd h => c_joinPairF (by omega) hc hn hk h) (fun s k d P hk hd h => c_joinChoiceF (by omega) hk h) (d := d) (by omega) (f := f) hA hb ha ha2 (by omega) hfa (by omega) (fun s => hat) (fun j => ⟨F 64 j, hf.2 j⟩)
  simp only [r2_id] at q
  refine q _ (fun s e => ?_)
  refine h I _ (by rw [r2_row]; exact (congrArg Subtype.val e).trans (vlV (fun v hv => hf.1 t v ht hv) hA)) (fun c hc => ⟨rfl, r2_ne _ _ hc⟩) ⟨fun t v ht hv => by rw [r2_ne _ _ (by omega)]; exact hf.1 t v ht hv, fun j => by rw [r2_row]; exact Subtype.property _⟩
end
