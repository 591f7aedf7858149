/-! ===== the reference's reader, over the parser ===== -/
theorem b2i_congr {c c' : Prop} [Decidable c] [Decidable c'] (h : c ↔ c') : b2i c = b2i c' := by unfold b2i; by_cases hc : c <;> simp [hc, ← h]
def MS (ch : Nat → Int32) (len : Nat) (I : Nat → Nat → Int32) (ok : Bool) (p mk dep : Nat) : Prop :=
  I 125 9 = b2i (ok = false) ∧ I 125 7 = nI p ∧ I 125 15 = nI mk ∧ I 125 10 = nI dep ∧ I 125 6 = nI len ∧ p ≤ len ∧ len ≤ 100 ∧ (∀ j, j < len → I 129 j = ch j) ∧ chz ch len
def FrM (I I' : Nat → Nat → Int32) (mk : Nat) : Prop := (∀ a j, a ≠ 125 → a ≠ 130 → a ≠ 131 → a ≠ 132 → a ≠ 133 → I' a j = I a j) ∧ (∀ j, j ≠ 7 → j ≠ 9 → j ≠ 10 → j ≠ 15 → I' 125 j = I 125 j) ∧ (∀ j, j < mk → I' 130 j = I 130 j ∧ I' 131 j = I 131 j ∧ I' 132 j = I 132 j ∧ I' 133 j = I 133 j)
theorem FrM.refl (I : Nat → Nat → Int32) (mk : Nat) : FrM I I mk := ⟨fun _ _ _ _ _ _ _ => rfl, fun _ _ _ _ _ => rfl, fun _ _ => ⟨rfl, rfl, rfl, rfl⟩⟩
theorem FrM.trans {I I1 I2 : Nat → Nat → Int32} {mk mk1 : Nat} (h : FrM I I1 mk) (h' : FrM I1 I2 mk1) (hm : mk ≤ mk1) : FrM I I2 mk := by
  refine ⟨fun a j h1 h2 h3 h4 h5 => (h'.1 a j h1 h2 h3 h4 h5).trans (h.1 a j h1 h2 h3 h4 h5), fun j h1 h2 h3 h4 => (h'.2.1 j h1 h2 h3 h4).trans (h.2.1 j h1 h2 h3 h4), fun j hj => ?_⟩
  obtain ⟨a1, a2, a3, a4⟩ := h.2.2 j hj
  obtain ⟨b1, b2, b3, b4⟩ := h'.2.2 j (by omega)
  exact ⟨b1.trans a1, b2.trans a2, b3.trans a3, b4.trans a4⟩
def Tr (I : Nat → Nat → Int32) (r : Nat) (L : List Int32) : Prop := ∀ Q : Nat → List Int32 → Prop, (∀ r, leafc (I 130 r) → Q r [I 130 r]) → (∀ r x y A B, pairc (I 130 r) → I 131 r = nI x → I 132 r = nI y → x < r → y < r → Q x A → Q y B → Q r (I 130 r :: (A ++ B))) → (∀ r x y z A B C, I 130 r = 308 → I 131 r = nI x → I 132 r = nI y → I 133 r = nI z → x < r → y < r → z < r → Q x A → Q y B → Q z C → Q r (308 :: (A ++ (B ++ C)))) → Q r L
theorem tr_leaf {I : Nat → Nat → Int32} {r : Nat} {c : Int32} (h : I 130 r = c) (hc : leafc c) : Tr I r [c] := fun _ h1 _ _ => by rw [← h]; exact h1 r (by rw [h]; exact hc)
theorem tr_pair {I : Nat → Nat → Int32} {r x y : Nat} {A B : List Int32} {c : Int32} (h : I 130 r = c) (hc : pairc c) (ex : I 131 r = nI x) (ey : I 132 r = nI y) (hx : x < r) (hy : y < r) (hA : Tr I x A) (hB : Tr I y B) : Tr I r (c :: (A ++ B)) := fun Q h1 h2 h3 => by rw [← h]; exact h2 r x y A B (by rw [h]; exact hc) ex ey hx hy (hA Q h1 h2 h3) (hB Q h1 h2 h3)
theorem tr_ch {I : Nat → Nat → Int32} {r x y z : Nat} {A B C : List Int32} (h : I 130 r = 308) (ex : I 131 r = nI x) (ey : I 132 r = nI y) (ez : I 133 r = nI z) (hx : x < r) (hy : y < r) (hz : z < r) (hA : Tr I x A) (hB : Tr I y B) (hC : Tr I z C) : Tr I r (308 :: (A ++ (B ++ C))) := fun Q h1 h2 h3 => h3 r x y z A B C h ex ey ez hx hy hz (hA Q h1 h2 h3) (hB Q h1 h2 h3) (hC Q h1 h2 h3)
theorem Tr.mono {I I' : Nat → Nat → Int32} {r mk : Nat} {A : List Int32} (h : Tr I r A) (hf : FrM I I' mk) (hr : r < mk) : Tr I' r A := by
  refine h (fun r L => r < mk → Tr I' r L) ?_ ?_ ?_ hr
  · intro r hl hr
    obtain ⟨a1, a2, a3, a4⟩ := hf.2.2 r hr
    exact tr_leaf a1 hl
  · intro r x y A B hp ex ey hx hy hA hB hr
    obtain ⟨a1, a2, a3, a4⟩ := hf.2.2 r hr
    exact tr_pair a1 hp (a2.trans ex) (a3.trans ey) hx hy (hA (by omega)) (hB (by omega))
  · intro r x y z A B C hp ex ey ez hx hy hz hA hB hC hr
    obtain ⟨a1, a2, a3, a4⟩ := hf.2.2 r hr
    exact tr_ch (a1.trans hp) (a2.trans ex) (a3.trans ey) (a4.trans ez) hx hy hz (hA (by omega)) (hB (by omega)) (hC (by omega))
section
variable {d : Nat} {P : PO} {I : Nat → Nat → Int32} {F : Nat → Nat → UInt32} {L : Nat → Nat → Int64} {D : Nat → Nat → UInt64} {pr : Nat} {sv : Option Nat} {ch : Nat → Int32} {len : Nat} {ok : Bool} {p mk dep : Nat}
theorem MS.hok (h : MS ch len I ok p mk dep) : hereOk I := by
  obtain ⟨h1, h2, h3, h4, h5, h6, h7, h8, h9⟩ := h
  unfold hereOk
  rw [h2, h5]
  intro h
  have := (nI_ltI (by omega) (by omega)).mp h
  exact vp_in_nI (by omega) (by decide)
theorem MS.here (h : MS ch len I ok p mk dep) : hereV I = ch p := by
  obtain ⟨h1, h2, h3, h4, h5, h6, h7, h8, h9⟩ := h
  unfold hereV
  rw [h2, h5]
  by_cases h : p < len
  · rw [if_pos ((nI_ltI (by omega) (by omega)).mpr h), nI_clamp (by omega), h8 p h]
  · rw [if_neg (fun h' => h ((nI_ltI (by omega) (by omega)).mp h')), h9 p (by omega)]
theorem MS.lt (h : MS ch len I ok p mk dep) (hc : ch p ≠ 0) : p < len := chz_lt h.2.2.2.2.2.2.2.2 hc
theorem MS.at (h : MS ch len I ok p mk dep) (hp : p < len) : MS ch len (u2 I 125 7 (I 125 7 + 1)) ok (p + 1) mk dep := by
  obtain ⟨h1, h2, h3, h4, h5, h6, h7, h8, h9⟩ := h
  refine ⟨?_, ?_, ?_, ?_, ?_, by omega, h7, ?_, h9⟩
  · simpa [u2_ap] using h1
  · simp [u2_ap, h2, nI_1]
  · simpa [u2_ap] using h3
  · simpa [u2_ap] using h4
  · simpa [u2_ap] using h5
  · intro j hj; simpa [u2_ap] using h8 j hj
theorem MS.bad (h : MS ch len I ok p mk dep) : MS ch len (u2 I 125 9 1) false p mk dep := by
  obtain ⟨h1, h2, h3, h4, h5, h6, h7, h8, h9⟩ := h
  refine ⟨?_, ?_, ?_, ?_, ?_, by omega, h7, ?_, h9⟩
  · simp [u2_ap, b2i]
  · simpa [u2_ap] using h2
  · simpa [u2_ap] using h3
  · simpa [u2_ap] using h4
  · simpa [u2_ap] using h5
  · intro j hj; simpa [u2_ap] using h8 j hj
theorem MS.opened (h : MS ch len I ok p mk dep) {dep' : Nat} {x : Int32} (hx : x = nI dep') : MS ch len (u2 I 125 10 x) ok p mk dep' := by
  obtain ⟨h1, h2, h3, h4, h5, h6, h7, h8, h9⟩ := h
  refine ⟨?_, ?_, ?_, ?_, ?_, by omega, h7, ?_, h9⟩
  · simpa [u2_ap] using h1
  · simpa [u2_ap] using h2
  · simpa [u2_ap] using h3
  · simp [u2_ap, hx]
  · simpa [u2_ap] using h5
  · intro j hj; simpa [u2_ap] using h8 j hj
theorem FrM.u7 (I : Nat → Nat → Int32) (mk : Nat) (x : Int32) : FrM I (u2 I 125 7 x) mk := ⟨fun a j h1 _ _ _ _ => by simp [u2_ap, h1], fun j h1 _ _ _ => by simp [u2_ap, h1], fun j _ => by simp [u2_ap]⟩
theorem FrM.u9 (I : Nat → Nat → Int32) (mk : Nat) (x : Int32) : FrM I (u2 I 125 9 x) mk := ⟨fun a j h1 _ _ _ _ => by simp [u2_ap, h1], fun j _ h1 _ _ => by simp [u2_ap, h1], fun j _ => by simp [u2_ap]⟩
theorem FrM.u10 (I : Nat → Nat → Int32) (mk : Nat) (x : Int32) : FrM I (u2 I 125 10 x) mk := ⟨fun a j h1 _ _ _ _ => by simp [u2_ap, h1], fun j _ _ h1 _ => by simp [u2_ap, h1], fun j _ => by simp [u2_ap]⟩
theorem m_hereS (hd : 1 ≤ d) (hs : MS ch len I ok p mk dep) (h : P (.inl (some (.int (ch p)))) 150 (I, F, RR pr sv, L, D)) : CallOK d 0 0 yX10_here (Cond.code yX10_here cX10_here 1 (some .int)) [.ref 125] 150 (I, F, RR pr sv, L, D) P := by
  refine m_here hd hs.hok ?_
  rw [hs.here]
  exact h
theorem MS.e (hs : MS ch len I ok p mk dep) (c : Int32) : (I 125 9 = 0 ∧ hereV I = c) ↔ (ok = true ∧ ch p = c) := by
  rw [hs.1, b2i_eq0, hs.here]
  simp
theorem m_takesS (hd : 2 ≤ d) (hs : MS ch len I ok p mk dep) {c : Int32} (hc : c ≠ 0) (h : ∀ I', MS ch len I' ok (if ok = true ∧ ch p = c then p + 1 else p) mk dep → FrM I I' mk → P (.inl (some (.int (b2i (ok = true ∧ ch p = c))))) 150 (I', F, RR pr sv, L, D)) : CallOK d 0 0 yX10_takes (Cond.code yX10_takes cX10_takes 2 (some .boolean)) [.ref 125, .int c] 150 (I, F, RR pr sv, L, D) P := by
  refine m_takes hd hs.hok ?_
  have e := hs.e c
  rw [b2i_congr e]
  by_cases hq : ok = true ∧ ch p = c
  · rw [if_pos (e.mpr hq)]
    exact h _ (by rw [if_pos hq]; exact hs.at (hs.lt (by rw [hq.2]; exact hc))) (FrM.u7 _ _ _)
  · rw [if_neg (fun w => hq (e.mp w))]
    exact h _ (by rw [if_neg hq]; exact hs) (FrM.refl _ _)
theorem m_expectsS (hd : 3 ≤ d) (hs : MS ch len I ok p mk dep) {c : Int32} (hc : c ≠ 0) (h : ∀ I', MS ch len I' (tkk ch c ok p).1 (tkk ch c ok p).2 mk dep → FrM I I' mk → P (.inl none) 150 (I', F, RR pr sv, L, D)) : CallOK d 0 0 yX10_expects (Cond.code yX10_expects cX10_expects 2 none) [.ref 125, .int c] 150 (I, F, RR pr sv, L, D) P := by
  refine m_expects hd hs.hok ?_
  have e := hs.e c
  by_cases hq : ok = true ∧ ch p = c
  · rw [if_pos (e.mpr hq)]
    refine h _ ?_ (FrM.u7 _ _ _)
    unfold tkk
    rw [if_pos hq]
    have := hs.at (hs.lt (by rw [hq.2]; exact hc))
    rw [hq.1] at this
    exact this
  · rw [if_neg (fun w => hq (e.mp w))]
    refine h _ ?_ (FrM.u9 _ _ _)
    unfold tkk
    rw [if_neg hq]
    exact hs.bad
theorem m_nodeS (hd : 1 ≤ d) (hs : MS ch len I ok p mk dep) (hm : mk < 200) {k x y z : Int32} (h : ∀ I', MS ch len I' ok p (mk + 1) dep → FrM I I' mk → I' 130 mk = k → I' 131 mk = x → I' 132 mk = y → I' 133 mk = z → P (.inl (some (.int (nI mk)))) 150 (I', F, RR pr sv, L, D)) : CallOK d 0 0 yX10_node (Cond.code yX10_node cX10_node 5 (some .int)) [.ref 125, .int k, .int x, .int y, .int z] 150 (I, F, RR pr sv, L, D) P := by
  obtain ⟨h1, h2, h3, h4, h5, h6, h7, h8, h9⟩ := hs
  refine m_node hd (by rw [h3]; exact vp_in_nI (by omega) (by decide)) ?_
  rw [h3, nI_clamp (by omega), nI_1]
  refine h _ ⟨?_, ?_, ?_, ?_, ?_, h6, h7, ?_, h9⟩ ⟨?_, ?_, ?_⟩ ?_ ?_ ?_ ?_
  · simpa [u2_ap] using h1
  · simpa [u2_ap] using h2
  · simp [u2_ap]
  · simpa [u2_ap] using h4
  · simpa [u2_ap] using h5
  · intro j hj; simpa [u2_ap] using h8 j hj
  · intro a j c1 c2 c3 c4 c5; simp [u2_ap, c1, c2, c3, c4, c5]
  · intro j c1 c2 c3 c4; simp [u2_ap, c4]
  · intro j hj
    have : ¬ j = mk := by omega
    simp [u2_ap, this]
  all_goals simp [u2_ap]
theorem m_opensS (hd : 4 ≤ d) (hs : MS ch len I ok p mk dep) (hdep : dep ≤ 4) (h : ∀ I', MS ch len I' (tkk ch 40 (ok && dep != 4) p).1 (tkk ch 40 (ok && dep != 4) p).2 mk (dep + 1) → FrM I I' mk → P (.inl none) 150 (I', F, RR pr sv, L, D)) : CallOK d 0 0 yX10_opens (Cond.code yX10_opens cX10_opens 1 none) [.ref 125] 150 (I, F, RR pr sv, L, D) P := by
  refine m_opens hd hs.hok ?_
  have e := hs.e 40
  have e4 : I 125 10 = 4 ↔ dep = 4 := by rw [hs.2.2.2.1, show (4 : Int32) = nI 4 from rfl, nI_eq (by omega) (by omega)]
  have e1 : I 125 10 + 1 = nI (dep + 1) := by rw [hs.2.2.2.1, nI_1]
  rw [e1]
  by_cases h4 : dep = 4
  · rw [if_pos (e4.mpr h4)]
    refine h _ ?_ ((FrM.u9 _ _ _).trans (FrM.u10 _ _ _) (Nat.le_refl _))
    rw [show (ok && dep != 4) = false by simp [h4]]
    exact hs.bad.opened rfl
  · rw [if_neg (fun w => h4 (e4.mp w))]
    have e5 : (ok && dep != 4) = ok := by simp [h4]
    rw [e5] at h
    unfold tkk at h
    by_cases hq : ok = true ∧ ch p = 40
    · rw [if_pos (e.mpr hq)]
      rw [if_pos hq] at h
      refine h _ ?_ ((FrM.u7 _ _ _).trans (FrM.u10 _ _ _) (Nat.le_refl _))
      have := (hs.at (hs.lt (by rw [hq.2]; decide))).opened (dep' := dep + 1) rfl
      rw [hq.1] at this
      exact this
    · rw [if_neg (fun w => hq (e.mp w))]
      rw [if_neg hq] at h
      exact h _ (hs.bad.opened rfl) ((FrM.u9 _ _ _).trans (FrM.u10 _ _ _) (Nat.le_refl _))
theorem m_closesS (hd : 4 ≤ d) (hs : MS ch len I ok p mk (dep + 1)) (h : ∀ I', MS ch len I' (tkk ch 41 ok p).1 (tkk ch 41 ok p).2 mk dep → FrM I I' mk → P (.inl none) 150 (I', F, RR pr sv, L, D)) : CallOK d 0 0 yX10_closes (Cond.code yX10_closes cX10_closes 1 none) [.ref 125] 150 (I, F, RR pr sv, L, D) P := by
  obtain ⟨d, rfl⟩ : ∃ e, d = e + 1 := ⟨d - 1, by omega⟩
  refine iX10_closes (Nat.le_of_ble_eq_true rfl) (fun J hJ => ?_)
  refine hJ 30 (fun _ => false) _ _ _ _ _ ?_
  simp only [lX10_closes_0, lX10_closes_1, lX10_closes_3, lX10_closes_6, lX10_closes_7, lX10_closes_8, lX10_closes_11, lX10_closes_12, lX10_closes_13, lX10_closes_16, wpN, cond_false, cond_true, Bool.cond_false, Bool.cond_true, oPush, oIld, oFld, oDld, oAld, oIst, oFst, oDst, oAst, oInc, oI2, oI2n, oF2, oD2, oF2d, oIcv, oFcmp, oDcmp, oLcmp, oDup, oDupx1, oPop, oIf, oIc, oGoto, oNonnull, oGi, oGi2, oGr, oGr2, oPi, oPi2, oPz, oPr, oPr2, oAi, oAf, oAl, oAd, oAr, oSi, oSf, oSl, oSd, oSr, oRetI, oRetZ, oRetC, oRetF, oRetD, oRetA, oRetV, oCallS, oCallV, recvP, oThrow, oSw, oDisp, dispA, lk, Nat.beq, oMm, oCopy, oAlen, oAcmp, entA, lset, lset2, Value.category, Nat.reduceEqDiff, Nat.reduceAdd, Nat.reduceLT, Nat.reduceLeDiff, Nat.reduceBEq, beq_self_eq_true, Bool.or_false, Bool.false_or, Bool.or_true, Bool.true_or, ite_false, ite_true, if_true, if_false, reduceIte, reduceCtorEq, Nat.le_refl, Nat.zero_le, and_true, true_and, true_or, or_true, and_self, implies_true, not_true_eq_false, not_false_eq_true, List.take, List.drop, List.reverse_cons, List.reverse_nil, List.nil_append, List.cons_append, List.length_cons, List.length_nil, List.map_cons, List.map_nil, List.sum_cons, List.sum_nil, Option.toList, va_rf, Nat.add_zero, Nat.zero_add, List.mem_cons, List.not_mem_nil, forall_eq_or_imp, or_false, false_implies, eq_self, true_implies, b2i_eq0, b2i_eq1, b2i_01, em_nn, cl_0, cl_1, cl_2, vin_0, vin_1, vin_2, u2_ap, r2_ap, Sum.inl.injEq, Option.some.injEq, Value.int.injEq, sh_125]
  refine m_expectsS (by omega) hs (by decide) (fun I1 s1 f1 => ?_)
  simp only [lX10_closes_0, lX10_closes_1, lX10_closes_3, lX10_closes_6, lX10_closes_7, lX10_closes_8, lX10_closes_11, lX10_closes_12, lX10_closes_13, lX10_closes_16, wpN, cond_false, cond_true, Bool.cond_false, Bool.cond_true, oPush, oIld, oFld, oDld, oAld, oIst, oFst, oDst, oAst, oInc, oI2, oI2n, oF2, oD2, oF2d, oIcv, oFcmp, oDcmp, oLcmp, oDup, oDupx1, oPop, oIf, oIc, oGoto, oNonnull, oGi, oGi2, oGr, oGr2, oPi, oPi2, oPz, oPr, oPr2, oAi, oAf, oAl, oAd, oAr, oSi, oSf, oSl, oSd, oSr, oRetI, oRetZ, oRetC, oRetF, oRetD, oRetA, oRetV, oCallS, oCallV, recvP, oThrow, oSw, oDisp, dispA, lk, Nat.beq, oMm, oCopy, oAlen, oAcmp, entA, lset, lset2, Value.category, Nat.reduceEqDiff, Nat.reduceAdd, Nat.reduceLT, Nat.reduceLeDiff, Nat.reduceBEq, beq_self_eq_true, Bool.or_false, Bool.false_or, Bool.or_true, Bool.true_or, ite_false, ite_true, if_true, if_false, reduceIte, reduceCtorEq, Nat.le_refl, Nat.zero_le, and_true, true_and, true_or, or_true, and_self, implies_true, not_true_eq_false, not_false_eq_true, List.take, List.drop, List.reverse_cons, List.reverse_nil, List.nil_append, List.cons_append, List.length_cons, List.length_nil, List.map_cons, List.map_nil, List.sum_cons, List.sum_nil, Option.toList, va_rf, Nat.add_zero, Nat.zero_add, List.mem_cons, List.not_mem_nil, forall_eq_or_imp, or_false, false_implies, eq_self, true_implies, b2i_eq0, b2i_eq1, b2i_01, em_nn, cl_0, cl_1, cl_2, vin_0, vin_1, vin_2, u2_ap, r2_ap, Sum.inl.injEq, Option.some.injEq, Value.int.injEq, sh_125]
  refine h _ (s1.opened ?_) (f1.trans (FrM.u10 _ _ _) (Nat.le_refl _))
  rw [s1.2.2.2.1]
  exact nI_pred dep
/-! in a bad state nothing moves -/
theorem m_factor_bad (hd : 2 ≤ d) (hs : MS ch len I false p mk dep) (h : P (.inl (some (.int 0))) 150 (I, F, RR pr sv, L, D)) : CallOK d 0 0 yX10_factor (Cond.code yX10_factor cX10_factor 3 (some .int)) [.ref 125] 150 (I, F, RR pr sv, L, D) P := by
  obtain ⟨d, rfl⟩ : ∃ e, d = e + 1 := ⟨d - 1, by omega⟩
  refine iX10_factor (Nat.le_of_ble_eq_true rfl) (fun J hJ => ?_)
  refine hJ 30 (fun _ => false) _ _ _ _ _ ?_
  simp only [lX10_factor_0, lX10_factor_1, lX10_factor_4, lX10_factor_5, lX10_factor_6, lX10_factor_9, lX10_factor_12, lX10_factor_13, lX10_factor_14, lX10_factor_15, lX10_factor_17, lX10_factor_19, lX10_factor_22, lX10_factor_25, lX10_factor_26, lX10_factor_27, lX10_factor_30, lX10_factor_31, lX10_factor_32, lX10_factor_35, lX10_factor_36, lX10_factor_38, lX10_factor_39, lX10_factor_40, lX10_factor_41, lX10_factor_44, lX10_factor_45, lX10_factor_48, lX10_factor_50, lX10_factor_52, lX10_factor_55, lX10_factor_58, lX10_factor_60, lX10_factor_61, lX10_factor_62, lX10_factor_63, lX10_factor_66, lX10_factor_67, lX10_factor_68, lX10_factor_71, lX10_factor_72, lX10_factor_73, lX10_factor_74, lX10_factor_77, lX10_factor_78, lX10_factor_79, lX10_factor_81, lX10_factor_82, lX10_factor_83, lX10_factor_84, lX10_factor_85, lX10_factor_86, lX10_factor_87, lX10_factor_88, lX10_factor_91, lX10_factor_92, lX10_factor_93, lX10_factor_95, lX10_factor_97, lX10_factor_100, lX10_factor_103, lX10_factor_104, lX10_factor_105, lX10_factor_108, lX10_factor_109, lX10_factor_110, lX10_factor_113, lX10_factor_114, lX10_factor_116, lX10_factor_117, lX10_factor_118, lX10_factor_120, lX10_factor_121, lX10_factor_122, lX10_factor_123, lX10_factor_124, lX10_factor_127, lX10_factor_128, lX10_factor_129, lX10_factor_131, lX10_factor_133, lX10_factor_136, lX10_factor_139, lX10_factor_140, lX10_factor_141, lX10_factor_144, lX10_factor_145, lX10_factor_146, lX10_factor_149, lX10_factor_150, lX10_factor_152, lX10_factor_155, lX10_factor_156, lX10_factor_158, lX10_factor_161, lX10_factor_162, lX10_factor_164, lX10_factor_167, lX10_factor_168, lX10_factor_171, lX10_factor_172, lX10_factor_173, lX10_factor_175, lX10_factor_176, lX10_factor_177, lX10_factor_178, lX10_factor_179, lX10_factor_182, lX10_factor_183, lX10_factor_184, lX10_factor_186, lX10_factor_189, lX10_factor_192, lX10_factor_193, lX10_factor_195, lX10_factor_198, lX10_factor_201, lX10_factor_202, lX10_factor_204, lX10_factor_207, lX10_factor_208, lX10_factor_211, lX10_factor_214, lX10_factor_215, lX10_factor_216, lX10_factor_218, lX10_factor_221, lX10_factor_222, lX10_factor_224, lX10_factor_227, lX10_factor_228, lX10_factor_231, lX10_factor_234, lX10_factor_235, lX10_factor_236, lX10_factor_238, lX10_factor_241, lX10_factor_244, lX10_factor_245, lX10_factor_247, lX10_factor_250, lX10_factor_251, lX10_factor_254, lX10_factor_257, lX10_factor_258, lX10_factor_259, lX10_factor_262, lX10_factor_263, lX10_factor_266, lX10_factor_267, lX10_factor_268, lX10_factor_271, lX10_factor_272, wpN, cond_false, cond_true, Bool.cond_false, Bool.cond_true, oPush, oIld, oFld, oDld, oAld, oIst, oFst, oDst, oAst, oInc, oI2, oI2n, oF2, oD2, oF2d, oIcv, oFcmp, oDcmp, oLcmp, oDup, oDupx1, oPop, oIf, oIc, oGoto, oNonnull, oGi, oGi2, oGr, oGr2, oPi, oPi2, oPz, oPr, oPr2, oAi, oAf, oAl, oAd, oAr, oSi, oSf, oSl, oSd, oSr, oRetI, oRetZ, oRetC, oRetF, oRetD, oRetA, oRetV, oCallS, oCallV, recvP, oThrow, oSw, oDisp, dispA, lk, Nat.beq, oMm, oCopy, oAlen, oAcmp, entA, lset, lset2, Value.category, Nat.reduceEqDiff, Nat.reduceAdd, Nat.reduceLT, Nat.reduceLeDiff, Nat.reduceBEq, beq_self_eq_true, Bool.or_false, Bool.false_or, Bool.or_true, Bool.true_or, ite_false, ite_true, if_true, if_false, reduceIte, reduceCtorEq, Nat.le_refl, Nat.zero_le, and_true, true_and, true_or, or_true, and_self, implies_true, not_true_eq_false, not_false_eq_true, List.take, List.drop, List.reverse_cons, List.reverse_nil, List.nil_append, List.cons_append, List.length_cons, List.length_nil, List.map_cons, List.map_nil, List.sum_cons, List.sum_nil, Option.toList, va_rf, Nat.add_zero, Nat.zero_add, List.mem_cons, List.not_mem_nil, forall_eq_or_imp, or_false, false_implies, eq_self, true_implies, b2i_eq0, b2i_eq1, b2i_01, em_nn, cl_0, cl_1, cl_2, vin_0, vin_1, vin_2, u2_ap, r2_ap, Sum.inl.injEq, Option.some.injEq, Value.int.injEq, sh_125]
  refine m_hereS (by omega) hs ?_
  simp only [lX10_factor_0, lX10_factor_1, lX10_factor_4, lX10_factor_5, lX10_factor_6, lX10_factor_9, lX10_factor_12, lX10_factor_13, lX10_factor_14, lX10_factor_15, lX10_factor_17, lX10_factor_19, lX10_factor_22, lX10_factor_25, lX10_factor_26, lX10_factor_27, lX10_factor_30, lX10_factor_31, lX10_factor_32, lX10_factor_35, lX10_factor_36, lX10_factor_38, lX10_factor_39, lX10_factor_40, lX10_factor_41, lX10_factor_44, lX10_factor_45, lX10_factor_48, lX10_factor_50, lX10_factor_52, lX10_factor_55, lX10_factor_58, lX10_factor_60, lX10_factor_61, lX10_factor_62, lX10_factor_63, lX10_factor_66, lX10_factor_67, lX10_factor_68, lX10_factor_71, lX10_factor_72, lX10_factor_73, lX10_factor_74, lX10_factor_77, lX10_factor_78, lX10_factor_79, lX10_factor_81, lX10_factor_82, lX10_factor_83, lX10_factor_84, lX10_factor_85, lX10_factor_86, lX10_factor_87, lX10_factor_88, lX10_factor_91, lX10_factor_92, lX10_factor_93, lX10_factor_95, lX10_factor_97, lX10_factor_100, lX10_factor_103, lX10_factor_104, lX10_factor_105, lX10_factor_108, lX10_factor_109, lX10_factor_110, lX10_factor_113, lX10_factor_114, lX10_factor_116, lX10_factor_117, lX10_factor_118, lX10_factor_120, lX10_factor_121, lX10_factor_122, lX10_factor_123, lX10_factor_124, lX10_factor_127, lX10_factor_128, lX10_factor_129, lX10_factor_131, lX10_factor_133, lX10_factor_136, lX10_factor_139, lX10_factor_140, lX10_factor_141, lX10_factor_144, lX10_factor_145, lX10_factor_146, lX10_factor_149, lX10_factor_150, lX10_factor_152, lX10_factor_155, lX10_factor_156, lX10_factor_158, lX10_factor_161, lX10_factor_162, lX10_factor_164, lX10_factor_167, lX10_factor_168, lX10_factor_171, lX10_factor_172, lX10_factor_173, lX10_factor_175, lX10_factor_176, lX10_factor_177, lX10_factor_178, lX10_factor_179, lX10_factor_182, lX10_factor_183, lX10_factor_184, lX10_factor_186, lX10_factor_189, lX10_factor_192, lX10_factor_193, lX10_factor_195, lX10_factor_198, lX10_factor_201, lX10_factor_202, lX10_factor_204, lX10_factor_207, lX10_factor_208, lX10_factor_211, lX10_factor_214, lX10_factor_215, lX10_factor_216, lX10_factor_218, lX10_factor_221, lX10_factor_222, lX10_factor_224, lX10_factor_227, lX10_factor_228, lX10_factor_231, lX10_factor_234, lX10_factor_235, lX10_factor_236, lX10_factor_238, lX10_factor_241, lX10_factor_244, lX10_factor_245, lX10_factor_247, lX10_factor_250, lX10_factor_251, lX10_factor_254, lX10_factor_257, lX10_factor_258, lX10_factor_259, lX10_factor_262, lX10_factor_263, lX10_factor_266, lX10_factor_267, lX10_factor_268, lX10_factor_271, lX10_factor_272, wpN, cond_false, cond_true, Bool.cond_false, Bool.cond_true, oPush, oIld, oFld, oDld, oAld, oIst, oFst, oDst, oAst, oInc, oI2, oI2n, oF2, oD2, oF2d, oIcv, oFcmp, oDcmp, oLcmp, oDup, oDupx1, oPop, oIf, oIc, oGoto, oNonnull, oGi, oGi2, oGr, oGr2, oPi, oPi2, oPz, oPr, oPr2, oAi, oAf, oAl, oAd, oAr, oSi, oSf, oSl, oSd, oSr, oRetI, oRetZ, oRetC, oRetF, oRetD, oRetA, oRetV, oCallS, oCallV, recvP, oThrow, oSw, oDisp, dispA, lk, Nat.beq, oMm, oCopy, oAlen, oAcmp, entA, lset, lset2, Value.category, Nat.reduceEqDiff, Nat.reduceAdd, Nat.reduceLT, Nat.reduceLeDiff, Nat.reduceBEq, beq_self_eq_true, Bool.or_false, Bool.false_or, Bool.or_true, Bool.true_or, ite_false, ite_true, if_true, if_false, reduceIte, reduceCtorEq, Nat.le_refl, Nat.zero_le, and_true, true_and, true_or, or_true, and_self, implies_true, not_true_eq_false, not_false_eq_true, List.take, List.drop, List.reverse_cons, List.reverse_nil, List.nil_append, List.cons_append, List.length_cons, List.length_nil, List.map_cons, List.map_nil, List.sum_cons, List.sum_nil, Option.toList, va_rf, Nat.add_zero, Nat.zero_add, List.mem_cons, List.not_mem_nil, forall_eq_or_imp, or_false, false_implies, eq_self, true_implies, b2i_eq0, b2i_eq1, b2i_01, em_nn, cl_0, cl_1, cl_2, vin_0, vin_1, vin_2, u2_ap, r2_ap, Sum.inl.injEq, Option.some.injEq, Value.int.injEq, sh_125, hs.1]
  exact h
theorem m_product_bad (hd : 3 ≤ d) (hs : MS ch len I false p mk dep) (h : ∀ I', MS ch len I' false p mk dep → FrM I I' mk → P (.inl (some (.int 0))) 150 (I', F, RR pr sv, L, D)) : CallOK d 0 0 yX10_product (Cond.code yX10_product cX10_product 2 (some .int)) [.ref 125] 150 (I, F, RR pr sv, L, D) P := by
  obtain ⟨d, rfl⟩ : ∃ e, d = e + 1 := ⟨d - 1, by omega⟩
  refine iX10_product (Nat.le_of_ble_eq_true rfl) (fun J hJ => ?_)
  refine hJ 30 (fun _ => false) _ _ _ _ _ ?_
  simp only [lX10_product_0, lX10_product_1, lX10_product_4, lX10_product_5, lX10_product_6, lX10_product_8, lX10_product_11, lX10_product_14, lX10_product_15, lX10_product_18, lX10_product_19, lX10_product_20, lX10_product_23, lX10_product_24, lX10_product_27, lX10_product_28, lX10_product_31, lX10_product_32, wpN, cond_false, cond_true, Bool.cond_false, Bool.cond_true, oPush, oIld, oFld, oDld, oAld, oIst, oFst, oDst, oAst, oInc, oI2, oI2n, oF2, oD2, oF2d, oIcv, oFcmp, oDcmp, oLcmp, oDup, oDupx1, oPop, oIf, oIc, oGoto, oNonnull, oGi, oGi2, oGr, oGr2, oPi, oPi2, oPz, oPr, oPr2, oAi, oAf, oAl, oAd, oAr, oSi, oSf, oSl, oSd, oSr, oRetI, oRetZ, oRetC, oRetF, oRetD, oRetA, oRetV, oCallS, oCallV, recvP, oThrow, oSw, oDisp, dispA, lk, Nat.beq, oMm, oCopy, oAlen, oAcmp, entA, lset, lset2, Value.category, Nat.reduceEqDiff, Nat.reduceAdd, Nat.reduceLT, Nat.reduceLeDiff, Nat.reduceBEq, beq_self_eq_true, Bool.or_false, Bool.false_or, Bool.or_true, Bool.true_or, ite_false, ite_true, if_true, if_false, reduceIte, reduceCtorEq, Nat.le_refl, Nat.zero_le, and_true, true_and, true_or, or_true, and_self, implies_true, not_true_eq_false, not_false_eq_true, List.take, List.drop, List.reverse_cons, List.reverse_nil, List.nil_append, List.cons_append, List.length_cons, List.length_nil, List.map_cons, List.map_nil, List.sum_cons, List.sum_nil, Option.toList, va_rf, Nat.add_zero, Nat.zero_add, List.mem_cons, List.not_mem_nil, forall_eq_or_imp, or_false, false_implies, eq_self, true_implies, b2i_eq0, b2i_eq1, b2i_01, em_nn, cl_0, cl_1, cl_2, vin_0, vin_1, vin_2, u2_ap, r2_ap, Sum.inl.injEq, Option.some.injEq, Value.int.injEq, sh_125]
  refine m_factor_bad (by omega) hs ?_
  simp only [lX10_product_0, lX10_product_1, lX10_product_4, lX10_product_5, lX10_product_6, lX10_product_8, lX10_product_11, lX10_product_14, lX10_product_15, lX10_product_18, lX10_product_19, lX10_product_20, lX10_product_23, lX10_product_24, lX10_product_27, lX10_product_28, lX10_product_31, lX10_product_32, wpN, cond_false, cond_true, Bool.cond_false, Bool.cond_true, oPush, oIld, oFld, oDld, oAld, oIst, oFst, oDst, oAst, oInc, oI2, oI2n, oF2, oD2, oF2d, oIcv, oFcmp, oDcmp, oLcmp, oDup, oDupx1, oPop, oIf, oIc, oGoto, oNonnull, oGi, oGi2, oGr, oGr2, oPi, oPi2, oPz, oPr, oPr2, oAi, oAf, oAl, oAd, oAr, oSi, oSf, oSl, oSd, oSr, oRetI, oRetZ, oRetC, oRetF, oRetD, oRetA, oRetV, oCallS, oCallV, recvP, oThrow, oSw, oDisp, dispA, lk, Nat.beq, oMm, oCopy, oAlen, oAcmp, entA, lset, lset2, Value.category, Nat.reduceEqDiff, Nat.reduceAdd, Nat.reduceLT, Nat.reduceLeDiff, Nat.reduceBEq, beq_self_eq_true, Bool.or_false, Bool.false_or, Bool.or_true, Bool.true_or, ite_false, ite_true, if_true, if_false, reduceIte, reduceCtorEq, Nat.le_refl, Nat.zero_le, and_true, true_and, true_or, or_true, and_self, implies_true, not_true_eq_false, not_false_eq_true, List.take, List.drop, List.reverse_cons, List.reverse_nil, List.nil_append, List.cons_append, List.length_cons, List.length_nil, List.map_cons, List.map_nil, List.sum_cons, List.sum_nil, Option.toList, va_rf, Nat.add_zero, Nat.zero_add, List.mem_cons, List.not_mem_nil, forall_eq_or_imp, or_false, false_implies, eq_self, true_implies, b2i_eq0, b2i_eq1, b2i_01, em_nn, cl_0, cl_1, cl_2, vin_0, vin_1, vin_2, u2_ap, r2_ap, Sum.inl.injEq, Option.some.injEq, Value.int.injEq, sh_125]
  refine m_takesS (by omega) hs (by decide) (fun I1 s1 f1 => ?_)
  simp only [lX10_product_0, lX10_product_1, lX10_product_4, lX10_product_5, lX10_product_6, lX10_product_8, lX10_product_11, lX10_product_14, lX10_product_15, lX10_product_18, lX10_product_19, lX10_product_20, lX10_product_23, lX10_product_24, lX10_product_27, lX10_product_28, lX10_product_31, lX10_product_32, wpN, cond_false, cond_true, Bool.cond_false, Bool.cond_true, oPush, oIld, oFld, oDld, oAld, oIst, oFst, oDst, oAst, oInc, oI2, oI2n, oF2, oD2, oF2d, oIcv, oFcmp, oDcmp, oLcmp, oDup, oDupx1, oPop, oIf, oIc, oGoto, oNonnull, oGi, oGi2, oGr, oGr2, oPi, oPi2, oPz, oPr, oPr2, oAi, oAf, oAl, oAd, oAr, oSi, oSf, oSl, oSd, oSr, oRetI, oRetZ, oRetC, oRetF, oRetD, oRetA, oRetV, oCallS, oCallV, recvP, oThrow, oSw, oDisp, dispA, lk, Nat.beq, oMm, oCopy, oAlen, oAcmp, entA, lset, lset2, Value.category, Nat.reduceEqDiff, Nat.reduceAdd, Nat.reduceLT, Nat.reduceLeDiff, Nat.reduceBEq, beq_self_eq_true, Bool.or_false, Bool.false_or, Bool.or_true, Bool.true_or, ite_false, ite_true, if_true, if_false, reduceIte, reduceCtorEq, Nat.le_refl, Nat.zero_le, and_true, true_and, true_or, or_true, and_self, implies_true, not_true_eq_false, not_false_eq_true, List.take, List.drop, List.reverse_cons, List.reverse_nil, List.nil_append, List.cons_append, List.length_cons, List.length_nil, List.map_cons, List.map_nil, List.sum_cons, List.sum_nil, Option.toList, va_rf, Nat.add_zero, Nat.zero_add, List.mem_cons, List.not_mem_nil, forall_eq_or_imp, or_false, false_implies, eq_self, true_implies, b2i_eq0, b2i_eq1, b2i_01, em_nn, cl_0, cl_1, cl_2, vin_0, vin_1, vin_2, u2_ap, r2_ap, Sum.inl.injEq, Option.some.injEq, Value.int.injEq, sh_125]
  refine ⟨fun _ => h _ (by simpa using s1) f1, fun h9 => absurd (fun w => by simp at w) h9⟩
theorem m_sum_bad (hd : 4 ≤ d) (hs : MS ch len I false p mk dep) (h : ∀ I', MS ch len I' false p mk dep → FrM I I' mk → P (.inl (some (.int 0))) 150 (I', F, RR pr sv, L, D)) : CallOK d 0 0 yX10_sum (Cond.code yX10_sum cX10_sum 3 (some .int)) [.ref 125] 150 (I, F, RR pr sv, L, D) P := by
  obtain ⟨d, rfl⟩ : ∃ e, d = e + 1 := ⟨d - 1, by omega⟩
  refine iX10_sum (Nat.le_of_ble_eq_true rfl) (fun J hJ => ?_)
  refine hJ 30 (fun _ => false) _ _ _ _ _ ?_
  simp only [lX10_sum_0, lX10_sum_1, lX10_sum_4, lX10_sum_5, lX10_sum_6, lX10_sum_9, lX10_sum_12, lX10_sum_13, lX10_sum_16, lX10_sum_18, lX10_sum_21, lX10_sum_22, lX10_sum_25, lX10_sum_27, lX10_sum_30, lX10_sum_31, lX10_sum_34, lX10_sum_36, lX10_sum_39, lX10_sum_42, lX10_sum_45, lX10_sum_48, lX10_sum_49, lX10_sum_50, lX10_sum_51, lX10_sum_54, lX10_sum_55, lX10_sum_56, lX10_sum_59, lX10_sum_60, lX10_sum_61, lX10_sum_62, lX10_sum_63, lX10_sum_66, lX10_sum_67, lX10_sum_70, lX10_sum_71, lX10_sum_74, lX10_sum_75, wpN, cond_false, cond_true, Bool.cond_false, Bool.cond_true, oPush, oIld, oFld, oDld, oAld, oIst, oFst, oDst, oAst, oInc, oI2, oI2n, oF2, oD2, oF2d, oIcv, oFcmp, oDcmp, oLcmp, oDup, oDupx1, oPop, oIf, oIc, oGoto, oNonnull, oGi, oGi2, oGr, oGr2, oPi, oPi2, oPz, oPr, oPr2, oAi, oAf, oAl, oAd, oAr, oSi, oSf, oSl, oSd, oSr, oRetI, oRetZ, oRetC, oRetF, oRetD, oRetA, oRetV, oCallS, oCallV, recvP, oThrow, oSw, oDisp, dispA, lk, Nat.beq, oMm, oCopy, oAlen, oAcmp, entA, lset, lset2, Value.category, Nat.reduceEqDiff, Nat.reduceAdd, Nat.reduceLT, Nat.reduceLeDiff, Nat.reduceBEq, beq_self_eq_true, Bool.or_false, Bool.false_or, Bool.or_true, Bool.true_or, ite_false, ite_true, if_true, if_false, reduceIte, reduceCtorEq, Nat.le_refl, Nat.zero_le, and_true, true_and, true_or, or_true, and_self, implies_true, not_true_eq_false, not_false_eq_true, List.take, List.drop, List.reverse_cons, List.reverse_nil, List.nil_append, List.cons_append, List.length_cons, List.length_nil, List.map_cons, List.map_nil, List.sum_cons, List.sum_nil, Option.toList, va_rf, Nat.add_zero, Nat.zero_add, List.mem_cons, List.not_mem_nil, forall_eq_or_imp, or_false, false_implies, eq_self, true_implies, b2i_eq0, b2i_eq1, b2i_01, em_nn, cl_0, cl_1, cl_2, vin_0, vin_1, vin_2, u2_ap, r2_ap, Sum.inl.injEq, Option.some.injEq, Value.int.injEq, sh_125]
  refine m_product_bad (by omega) hs (fun I1 s1 f1 => ?_)
  simp only [lX10_sum_0, lX10_sum_1, lX10_sum_4, lX10_sum_5, lX10_sum_6, lX10_sum_9, lX10_sum_12, lX10_sum_13, lX10_sum_16, lX10_sum_18, lX10_sum_21, lX10_sum_22, lX10_sum_25, lX10_sum_27, lX10_sum_30, lX10_sum_31, lX10_sum_34, lX10_sum_36, lX10_sum_39, lX10_sum_42, lX10_sum_45, lX10_sum_48, lX10_sum_49, lX10_sum_50, lX10_sum_51, lX10_sum_54, lX10_sum_55, lX10_sum_56, lX10_sum_59, lX10_sum_60, lX10_sum_61, lX10_sum_62, lX10_sum_63, lX10_sum_66, lX10_sum_67, lX10_sum_70, lX10_sum_71, lX10_sum_74, lX10_sum_75, wpN, cond_false, cond_true, Bool.cond_false, Bool.cond_true, oPush, oIld, oFld, oDld, oAld, oIst, oFst, oDst, oAst, oInc, oI2, oI2n, oF2, oD2, oF2d, oIcv, oFcmp, oDcmp, oLcmp, oDup, oDupx1, oPop, oIf, oIc, oGoto, oNonnull, oGi, oGi2, oGr, oGr2, oPi, oPi2, oPz, oPr, oPr2, oAi, oAf, oAl, oAd, oAr, oSi, oSf, oSl, oSd, oSr, oRetI, oRetZ, oRetC, oRetF, oRetD, oRetA, oRetV, oCallS, oCallV, recvP, oThrow, oSw, oDisp, dispA, lk, Nat.beq, oMm, oCopy, oAlen, oAcmp, entA, lset, lset2, Value.category, Nat.reduceEqDiff, Nat.reduceAdd, Nat.reduceLT, Nat.reduceLeDiff, Nat.reduceBEq, beq_self_eq_true, Bool.or_false, Bool.false_or, Bool.or_true, Bool.true_or, ite_false, ite_true, if_true, if_false, reduceIte, reduceCtorEq, Nat.le_refl, Nat.zero_le, and_true, true_and, true_or, or_true, and_self, implies_true, not_true_eq_false, not_false_eq_true, List.take, List.drop, List.reverse_cons, List.reverse_nil, List.nil_append, List.cons_append, List.length_cons, List.length_nil, List.map_cons, List.map_nil, List.sum_cons, List.sum_nil, Option.toList, va_rf, Nat.add_zero, Nat.zero_add, List.mem_cons, List.not_mem_nil, forall_eq_or_imp, or_false, false_implies, eq_self, true_implies, b2i_eq0, b2i_eq1, b2i_01, em_nn, cl_0, cl_1, cl_2, vin_0, vin_1, vin_2, u2_ap, r2_ap, Sum.inl.injEq, Option.some.injEq, Value.int.injEq, sh_125, s1.1]
  exact h _ s1 f1
theorem m_expression_bad (hd : 5 ≤ d) (hs : MS ch len I false p mk dep) (h : ∀ I', MS ch len I' false p mk dep → FrM I I' mk → P (.inl (some (.int 0))) 150 (I', F, RR pr sv, L, D)) : CallOK d 0 0 yX10_expression (Cond.code yX10_expression cX10_expression 3 (some .int)) [.ref 125] 150 (I, F, RR pr sv, L, D) P := by
  obtain ⟨d, rfl⟩ : ∃ e, d = e + 1 := ⟨d - 1, by omega⟩
  refine iX10_expression (Nat.le_of_ble_eq_true rfl) (fun J hJ => ?_)
  refine hJ 30 (fun _ => false) _ _ _ _ _ ?_
  simp only [lX10_expression_0, lX10_expression_1, lX10_expression_4, lX10_expression_5, lX10_expression_6, lX10_expression_9, lX10_expression_12, lX10_expression_13, lX10_expression_16, lX10_expression_18, lX10_expression_21, lX10_expression_22, lX10_expression_25, lX10_expression_27, lX10_expression_30, lX10_expression_31, lX10_expression_34, lX10_expression_36, lX10_expression_39, lX10_expression_40, lX10_expression_43, lX10_expression_45, lX10_expression_48, lX10_expression_51, lX10_expression_54, lX10_expression_55, lX10_expression_58, lX10_expression_60, lX10_expression_63, lX10_expression_66, lX10_expression_69, lX10_expression_72, lX10_expression_73, lX10_expression_74, lX10_expression_75, lX10_expression_78, lX10_expression_79, lX10_expression_80, lX10_expression_83, lX10_expression_84, lX10_expression_85, lX10_expression_86, lX10_expression_87, lX10_expression_90, lX10_expression_91, lX10_expression_94, lX10_expression_95, lX10_expression_98, lX10_expression_99, wpN, cond_false, cond_true, Bool.cond_false, Bool.cond_true, oPush, oIld, oFld, oDld, oAld, oIst, oFst, oDst, oAst, oInc, oI2, oI2n, oF2, oD2, oF2d, oIcv, oFcmp, oDcmp, oLcmp, oDup, oDupx1, oPop, oIf, oIc, oGoto, oNonnull, oGi, oGi2, oGr, oGr2, oPi, oPi2, oPz, oPr, oPr2, oAi, oAf, oAl, oAd, oAr, oSi, oSf, oSl, oSd, oSr, oRetI, oRetZ, oRetC, oRetF, oRetD, oRetA, oRetV, oCallS, oCallV, recvP, oThrow, oSw, oDisp, dispA, lk, Nat.beq, oMm, oCopy, oAlen, oAcmp, entA, lset, lset2, Value.category, Nat.reduceEqDiff, Nat.reduceAdd, Nat.reduceLT, Nat.reduceLeDiff, Nat.reduceBEq, beq_self_eq_true, Bool.or_false, Bool.false_or, Bool.or_true, Bool.true_or, ite_false, ite_true, if_true, if_false, reduceIte, reduceCtorEq, Nat.le_refl, Nat.zero_le, and_true, true_and, true_or, or_true, and_self, implies_true, not_true_eq_false, not_false_eq_true, List.take, List.drop, List.reverse_cons, List.reverse_nil, List.nil_append, List.cons_append, List.length_cons, List.length_nil, List.map_cons, List.map_nil, List.sum_cons, List.sum_nil, Option.toList, va_rf, Nat.add_zero, Nat.zero_add, List.mem_cons, List.not_mem_nil, forall_eq_or_imp, or_false, false_implies, eq_self, true_implies, b2i_eq0, b2i_eq1, b2i_01, em_nn, cl_0, cl_1, cl_2, vin_0, vin_1, vin_2, u2_ap, r2_ap, Sum.inl.injEq, Option.some.injEq, Value.int.injEq, sh_125]
  refine m_sum_bad (by omega) hs (fun I1 s1 f1 => ?_)
  simp only [lX10_expression_0, lX10_expression_1, lX10_expression_4, lX10_expression_5, lX10_expression_6, lX10_expression_9, lX10_expression_12, lX10_expression_13, lX10_expression_16, lX10_expression_18, lX10_expression_21, lX10_expression_22, lX10_expression_25, lX10_expression_27, lX10_expression_30, lX10_expression_31, lX10_expression_34, lX10_expression_36, lX10_expression_39, lX10_expression_40, lX10_expression_43, lX10_expression_45, lX10_expression_48, lX10_expression_51, lX10_expression_54, lX10_expression_55, lX10_expression_58, lX10_expression_60, lX10_expression_63, lX10_expression_66, lX10_expression_69, lX10_expression_72, lX10_expression_73, lX10_expression_74, lX10_expression_75, lX10_expression_78, lX10_expression_79, lX10_expression_80, lX10_expression_83, lX10_expression_84, lX10_expression_85, lX10_expression_86, lX10_expression_87, lX10_expression_90, lX10_expression_91, lX10_expression_94, lX10_expression_95, lX10_expression_98, lX10_expression_99, wpN, cond_false, cond_true, Bool.cond_false, Bool.cond_true, oPush, oIld, oFld, oDld, oAld, oIst, oFst, oDst, oAst, oInc, oI2, oI2n, oF2, oD2, oF2d, oIcv, oFcmp, oDcmp, oLcmp, oDup, oDupx1, oPop, oIf, oIc, oGoto, oNonnull, oGi, oGi2, oGr, oGr2, oPi, oPi2, oPz, oPr, oPr2, oAi, oAf, oAl, oAd, oAr, oSi, oSf, oSl, oSd, oSr, oRetI, oRetZ, oRetC, oRetF, oRetD, oRetA, oRetV, oCallS, oCallV, recvP, oThrow, oSw, oDisp, dispA, lk, Nat.beq, oMm, oCopy, oAlen, oAcmp, entA, lset, lset2, Value.category, Nat.reduceEqDiff, Nat.reduceAdd, Nat.reduceLT, Nat.reduceLeDiff, Nat.reduceBEq, beq_self_eq_true, Bool.or_false, Bool.false_or, Bool.or_true, Bool.true_or, ite_false, ite_true, if_true, if_false, reduceIte, reduceCtorEq, Nat.le_refl, Nat.zero_le, and_true, true_and, true_or, or_true, and_self, implies_true, not_true_eq_false, not_false_eq_true, List.take, List.drop, List.reverse_cons, List.reverse_nil, List.nil_append, List.cons_append, List.length_cons, List.length_nil, List.map_cons, List.map_nil, List.sum_cons, List.sum_nil, Option.toList, va_rf, Nat.add_zero, Nat.zero_add, List.mem_cons, List.not_mem_nil, forall_eq_or_imp, or_false, false_implies, eq_self, true_implies, b2i_eq0, b2i_eq1, b2i_01, em_nn, cl_0, cl_1, cl_2, vin_0, vin_1, vin_2, u2_ap, r2_ap, Sum.inl.injEq, Option.some.injEq, Value.int.injEq, sh_125, s1.1]
  exact h _ s1 f1
end
