/-! ===== the law's rows in groups ===== -/
def LVL (b : Nat) (i : Int32) (lv : LV) : Prop := lv 0 = some (.ref (1000000 + b)) ∧ lv 1 = some (.ref 0) ∧ lv 2 = some (.ref 125) ∧ lv 3 = some (.ref 148) ∧ lv 4 = some (.ref 149) ∧ lv 5 = some (.int i) ∧ ∀ j v, lv j = some v → rokV 150 v
theorem lset_ne {lv : LV} {i j : Nat} {v w : Value} (h : lv j = some w) (e : j ≠ i) (hc : w.category = 1) : lset lv i v j = some w := by
  unfold lset
  rw [if_neg e, h]
  simp only
  rw [if_neg (show ¬ w.category = 2 by rw [hc]; decide)]
  split <;> rfl
theorem lset2_ne {lv : LV} {i j : Nat} {v w : Value} (h : lv j = some w) (e : j ≠ i) (e2 : j ≠ i + 1) (hc : w.category = 1) : lset2 lv i v j = some w := by
  unfold lset2
  rw [if_neg e, if_neg e2, h]
  simp only
  rw [if_neg (show ¬ w.category = 2 by rw [hc]; decide)]
  split <;> rfl
theorem lset_rok {lv : LV} {i n : Nat} {v : Value} (h : ∀ j w, lv j = some w → rokV n w) (hv : rokV n v) : ∀ j w, lset lv i v j = some w → rokV n w := by
  intro j w hw
  unfold lset at hw
  by_cases e : j = i
  · rw [if_pos e] at hw; cases hw; exact hv
  · rw [if_neg e] at hw
    by_cases e2 : j + 1 = i
    · rw [if_pos e2] at hw
      cases hj : lv j with
      | none => rw [hj] at hw; cases hw
      | some u =>
        rw [hj] at hw
        simp only at hw
        split at hw
        · cases hw
        · cases hw; exact h j _ hj
    · rw [if_neg e2] at hw; exact h j w hw
theorem lset2_rok {lv : LV} {i n : Nat} {v : Value} (h : ∀ j w, lv j = some w → rokV n w) (hv : rokV n v) : ∀ j w, lset2 lv i v j = some w → rokV n w := by
  intro j w hw
  unfold lset2 at hw
  by_cases e : j = i
  · rw [if_pos e] at hw; cases hw; exact hv
  · rw [if_neg e] at hw
    by_cases e1 : j = i + 1
    · rw [if_pos e1] at hw; cases hw
    · rw [if_neg e1] at hw
      by_cases e2 : j + 1 = i
      · rw [if_pos e2] at hw
        cases hj : lv j with
        | none => rw [hj] at hw; cases hw
        | some u =>
          rw [hj] at hw
          simp only at hw
          split at hw
          · cases hw
          · cases hw; exact h j _ hj
      · rw [if_neg e2] at hw; exact h j w hw
theorem LVL.set {b k : Nat} {i : Int32} {lv : LV} {v : Value} (h : LVL b i lv) (hk : 6 ≤ k) (hv : rokV 150 v) : LVL b i (lset lv k v) :=
  ⟨lset_ne h.1 (by omega) rfl, lset_ne h.2.1 (by omega) rfl, lset_ne h.2.2.1 (by omega) rfl, lset_ne h.2.2.2.1 (by omega) rfl, lset_ne h.2.2.2.2.1 (by omega) rfl, lset_ne h.2.2.2.2.2.1 (by omega) rfl, lset_rok h.2.2.2.2.2.2 hv⟩
theorem LVL.set2 {b k : Nat} {i : Int32} {lv : LV} {v : Value} (h : LVL b i lv) (hk : 6 ≤ k) (hv : rokV 150 v) : LVL b i (lset2 lv k v) :=
  ⟨lset2_ne h.1 (by omega) (by omega) rfl, lset2_ne h.2.1 (by omega) (by omega) rfl, lset2_ne h.2.2.1 (by omega) (by omega) rfl, lset2_ne h.2.2.2.1 (by omega) (by omega) rfl, lset2_ne h.2.2.2.2.1 (by omega) (by omega) rfl, lset2_ne h.2.2.2.2.2.1 (by omega) (by omega) rfl, lset2_rok h.2.2.2.2.2.2 hv⟩
theorem fcmp_self {x : UInt32} (h : Fn x) : FP.fcmp x x = some .eq := by
  have e : FP.fcmp x x = some (compare (FP.Core.fkey x) (FP.Core.fkey x)) := FP.Core.fcmp_key h.nn h.nn
  rw [e]
  simp [compare, compareOfLessAndEq]
theorem lset_at {lv : LV} {i : Nat} {v : Value} : lset lv i v i = some v := by unfold lset; rw [if_pos rfl]
theorem lset2_at {lv : LV} {i : Nat} {v : Value} : lset2 lv i v i = some v := by unfold lset2; rw [if_pos rfl]
section
variable {T : List (Nat × OP)} {J : KT} {lv : LV} {st : List Value} {nn : NN} {M : PM} {b L : Nat} {xs : Nat → Int32} {i : Int32} {p1 p2 p3 p4 p5 p6 : Nat}
theorem g_ald {k x : Nat} (hJ : HJ T J) (r : lk T p1 = oAld k p2) (h : lv k = some (.ref x)) (n : J p2 lv (.ref x :: st) nn M) : J p1 lv st nn M := hj1 hJ r (by unfold oAld; rw [h]; exact n)
theorem g_ild {k : Nat} {x : Int32} (hJ : HJ T J) (r : lk T p1 = oIld k p2) (h : lv k = some (.int x)) (n : J p2 lv (.int x :: st) nn M) : J p1 lv st nn M := hj1 hJ r (by unfold oIld; rw [h]; exact n)
theorem g_fld {k : Nat} {x : UInt32} (hJ : HJ T J) (r : lk T p1 = oFld k p2) (h : lv k = some (.float x)) (n : J p2 lv (.float x :: st) nn M) : J p1 lv st nn M := hj1 hJ r (by unfold oFld; rw [h]; exact n)
theorem g_dld {k : Nat} {x : UInt64} (hJ : HJ T J) (r : lk T p1 = oDld k p2) (h : lv k = some (.double x)) (n : J p2 lv (.double x :: st) nn M) : J p1 lv st nn M := hj1 hJ r (by unfold oDld; rw [h]; exact n)
/-- script[i + j] -/
theorem g_arg {j : Int32} (hJ : HJ T J) (r1 : lk T p1 = oAld 0 p2) (r2 : lk T p2 = oIld 5 p3) (r3 : lk T p3 = oPush (.int j) p4) (r4 : lk T p4 = oI2 (fun x y => x + y) p5) (r5 : lk T p5 = oSld b L xs p6) (hl : LVL b i lv) (hin : vp_in (i + j) L) (n : J p6 lv (.int (xs (i + j).toNatClampNeg) :: st) nn M) : J p1 lv st nn M :=
  g_ald hJ r1 hl.1 (g_ild hJ r2 hl.2.2.2.2.2.1 (hj1 hJ r3 (hj1 hJ r4 (hj1 hJ r5 ⟨rfl, hin, n⟩))))
theorem g_call {mc' ms' cs ss tot : Nat} {y : MethodName} {cw : Cond} {P : PO} {av : List Value} (hJ : HJ T J) (r : lk T p1 = oCallG 2000 601024 7293034 mc' ms' y cw tot p2) (ht : tot = st.length) (hav : st.reverse = av) (hl : LVL b i lv) (h1 : cs + mc' ≤ 601024) (h2 : ss + ms' ≤ 7293034) (hc : CallOK 2000 mc' ms' y cw av 150 M P) (n : ∀ o n' M', P o n' M' → n' = 150 ∧ ∃ v, o = .inl v ∧ J p2 lv v.toList (150, cs + mc', ss + ms') M') : J p1 lv st (150, cs, ss) M := by
  refine hj1 hJ r ?_
  subst ht
  subst hav
  refine ⟨⟨Nat.le_refl _, ?_, h1, h2, hl.2.2.2.2.2.2, fun v hv => ?_⟩, ?_⟩
  · rw [List.drop_length]; exact Nat.zero_le _
  · rw [List.drop_length] at hv; exact absurd hv List.not_mem_nil
  · rw [List.take_length]
    refine hc.weaken (fun o n' M' hp => ?_)
    obtain ⟨e, v, eo, hv⟩ := n o n' M' hp
    subst e
    subst eo
    show J p2 lv (v.toList ++ st.drop st.length) (150, cs + mc', ss + ms') M'
    rw [List.drop_length, List.append_nil]
    exact hv
/-- with a rest on the stack, which is an int -/
theorem g_callV {mc' ms' cs ss tot ci a : Nat} {y : MethodName} {cw : Cond} {P : PO} {av : List Value} {rs : List Value} (hJ : HJ T J) (r : lk T p1 = oCallGV 2000 601024 7293034 mc' ms' y cw tot ci p2) (ht : tot + 1 = st.length) (hav : st.reverse = .ref a :: av) (hs : (shp a).1 = ci) (ha : a < 150) (hl : LVL b i lv) (hr : (rs.map (fun v => v.category)).sum ≤ 8) (hrk : ∀ v ∈ rs, rokV 150 v) (h1 : cs + mc' ≤ 601024) (h2 : ss + ms' ≤ 7293034) (hc : CallOK 2000 mc' ms' y cw (.ref a :: av) 150 M P) (n : ∀ o n' M', P o n' M' → n' = 150 ∧ ∃ v, o = .inl v ∧ J p2 lv (v.toList ++ rs) (150, cs + mc', ss + ms') M') : J p1 lv (st ++ rs) (150, cs, ss) M := by
  refine hj1 hJ r ?_
  have e1 : (st ++ rs).take (tot + 1) = st := by rw [ht, List.take_left]
  have e2 : (st ++ rs).drop (tot + 1) = rs := by rw [ht, List.drop_left]
  refine ⟨?_, ⟨?_, ?_, h1, h2, hl.2.2.2.2.2.2, fun v hv => ?_⟩, ?_⟩
  · rw [e1, hav]; exact ⟨hs, ha⟩
  · rw [List.length_append]; omega
  · rw [e2]; exact hr
  · rw [e2] at hv; exact hrk v hv
  · rw [e1, hav]
    refine hc.weaken (fun o n' M' hp => ?_)
    obtain ⟨e, v, eo, hv⟩ := n o n' M' hp
    subst e
    subst eo
    show J p2 lv (v.toList ++ (st ++ rs).drop (tot + 1)) (150, cs + mc', ss + ms') M'
    rw [e2]
    exact hv
/-- if (m.thrown() != k) return false -/
theorem g_thrown {cs ss : Nat} {k : Int32} (hJ : HJ T J) (r1 : lk T p1 = oAld 2 p2) (r2 : lk T p2 = oCallGV 2000 601024 7293034 0 0 yX10_thrown (Cond.code yX10_thrown cX10_thrown 1 (some .int)) 0 10 p3) (r3 : lk T p3 = oIld 6 p4) (r4 : lk T p4 = oIc (fun x y => x = y) p5 p6) (hl : LVL b i lv) (l6 : lv 6 = some (.int k)) (h1 : cs ≤ 601024) (h2 : ss ≤ 7293034) (e : M.1 125 0 = k) (n : J p5 lv [] (150, cs, ss) M) : J p1 lv [] (150, cs, ss) M := by
  refine g_ald hJ r1 hl.2.2.1 ?_
  obtain ⟨I, F, R, L, D⟩ := M
  refine g_callV (st := [.ref 125]) (rs := []) (av := []) hJ r2 rfl rfl rfl (by decide) hl (Nat.zero_le _) (fun v hv => absurd hv List.not_mem_nil) h1 h2 (m_thrown (P := fun o n' M' => n' = 150 ∧ o = .inl (some (.int (I 125 0))) ∧ M' = (I, F, R, L, D)) (by omega) ⟨rfl, rfl, rfl⟩) (fun o n' M' hp => ?_)
  obtain ⟨rfl, rfl, rfl⟩ := hp
  refine ⟨rfl, _, rfl, ?_⟩
  show J p3 lv [.int (I 125 0)] (150, cs, ss) (I, F, R, L, D)
  exact g_ild hJ r3 l6 (hj1 hJ r4 ⟨fun _ => n, fun w => absurd e w⟩)
end
