/-! ===== each call of the law, on both sides ===== -/
section
variable {I I' : Nat → Nat → Int32} {F F' : Nat → Nat → UInt32} {R : Nat → Nat → Option Nat} {pr n len : Nat} {sv : Option Nat} {S : ST} {E : EX} {L : Nat → Nat → Int64} {D : Nat → Nat → UInt64} {hs : List (Nat × Int32)} {P : PO} {M : PM}
theorem HPi_ok {v : Int32} (h : P (.inl (some (.int 0))) 150 (I, F, R, u2 L 148 0 v.toInt64, D)) : HPi hs P (.inl (some (.int v))) 150 (I, F, R, L, D) := ⟨rfl, h⟩
theorem HPz_ok {v : Int32} (h : P (.inl (some (.int 0))) 150 (I, F, R, u2 L 148 0 (if v = 0 then 0 else 1), D)) : HPz hs P (.inl (some (.int v))) 150 (I, F, R, L, D) := ⟨rfl, h⟩
theorem HPf_ok {v : UInt32} (hv : vf_n64 (FP.f2d v)) (h : P (.inl (some (.int 0))) 150 (I, F, R, L, u2 D 149 0 (FP.f2d v))) : HPf hs P (.inl (some (.float v))) 150 (I, F, R, L, D) := ⟨rfl, hv, h⟩
theorem HPd_ok {v : UInt64} (h : P (.inl (some (.int 0))) 150 (I, F, R, L, u2 D 149 0 v)) : HPd hs P (.inl (some (.double v))) 150 (I, F, R, L, D) := ⟨rfl, h⟩
theorem HPv_ok (h : P (.inl (some (.int 0))) 150 M) : HPv hs P (.inl none) 150 M := ⟨rfl, h⟩
theorem HR_ex {k : Nat} {x : Int32} (e : hs.lookup k = some x) (h : P (.inl (some (.int x))) 150 M) : HR hs P M k := by unfold HR; rw [e]; exact h
theorem HPi_ex {k : Nat} {x : Int32} (e : hs.lookup k = some x) (h : P (.inl (some (.int x))) 150 M) : HPi hs P (.inr k) 150 M := ⟨rfl, HR_ex e h⟩
theorem HPz_ex {k : Nat} {x : Int32} (e : hs.lookup k = some x) (h : P (.inl (some (.int x))) 150 M) : HPz hs P (.inr k) 150 M := ⟨rfl, HR_ex e h⟩
theorem HPf_ex {k : Nat} {x : Int32} (e : hs.lookup k = some x) (h : P (.inl (some (.int x))) 150 M) : HPf hs P (.inr k) 150 M := ⟨rfl, HR_ex e h⟩
theorem HPd_ex {k : Nat} {x : Int32} (e : hs.lookup k = some x) (h : P (.inl (some (.int x))) 150 M) : HPd hs P (.inr k) 150 M := ⟨rfl, HR_ex e h⟩
theorem HPv_ex {k : Nat} {x : Int32} (e : hs.lookup k = some x) (h : P (.inl (some (.int x))) 150 M) : HPv hs P (.inr k) 150 M := ⟨rfl, HR_ex e h⟩
theorem AF_of {Q : Int32 → PO} {y : MethodName} {cw : Cond} {av : List Value} {k : Int32} (h : CallOK 2000 0 0 y cw av 150 M (Q k)) : AF Q y cw av (.inl (some (.int k))) 150 M := ⟨rfl, k, rfl, h⟩
theorem AQi_ok {x : Int32} (e : I 125 0 = 0) (h : JI I F pr sv S E n len) : AQi 0 (.inl (some (.int x))) 150 (I, F, RR pr sv, u2 L 148 0 x.toInt64, D) := ⟨rfl, x, rfl, e, fun _ => by show u2 L 148 0 _ 148 0 = _; simp [u2], h.jm⟩
theorem AQi_ex {x k : Int32} (hk : ¬ k = 0) (e : I 125 0 = k) (h : JI I F pr sv S E n len) : AQi k (.inl (some (.int x))) 150 (I, F, RR pr sv, L, D) := ⟨rfl, x, rfl, e, fun w => absurd w hk, h.jm⟩
theorem AQz_ok {x : Int32} (e : I 125 0 = 0) (h : JI I F pr sv S E n len) : AQz 0 (.inl (some (.int x))) 150 (I, F, RR pr sv, u2 L 148 0 (if x = 0 then 0 else 1), D) := ⟨rfl, x, rfl, e, fun _ => by show u2 L 148 0 _ 148 0 = _; simp [u2], h.jm⟩
theorem AQz_ex {x k : Int32} (hk : ¬ k = 0) (e : I 125 0 = k) (h : JI I F pr sv S E n len) : AQz k (.inl (some (.int x))) 150 (I, F, RR pr sv, L, D) := ⟨rfl, x, rfl, e, fun w => absurd w hk, h.jm⟩
theorem AQf_ok {x v : UInt32} (e : I 125 0 = 0) (hz : ZR v x) (h : JI I F pr sv S E n len) : AQf 0 (.inl (some (.float x))) 150 (I, F, RR pr sv, L, u2 D 149 0 (FP.f2d v)) := ⟨rfl, x, rfl, e, fun _ => ⟨v, by show u2 D 149 0 _ 149 0 = _; simp [u2], hz⟩, h.jm⟩
theorem AQf_ex {x : UInt32} {k : Int32} (hk : ¬ k = 0) (e : I 125 0 = k) (h : JI I F pr sv S E n len) : AQf k (.inl (some (.float x))) 150 (I, F, RR pr sv, L, D) := ⟨rfl, x, rfl, e, fun w => absurd w hk, h.jm⟩
theorem AQd_ok {x : UInt64} (e : I 125 0 = 0) (h : JI I F pr sv S E n len) : AQd 0 (.inl (some (.double x))) 150 (I, F, RR pr sv, L, u2 D 149 0 x) := ⟨rfl, x, rfl, e, fun _ => by show u2 D 149 0 _ 149 0 = _; simp [u2], h.jm⟩
theorem AQd_ex {x : UInt64} {k : Int32} (hk : ¬ k = 0) (e : I 125 0 = k) (h : JI I F pr sv S E n len) : AQd k (.inl (some (.double x))) 150 (I, F, RR pr sv, L, D) := ⟨rfl, x, rfl, e, fun w => absurd w hk, h.jm⟩
theorem JI.cu (h : JI I F pr sv S E n len) (ga : ∀ a, a ≠ 0 → a ≠ 125 → I' a = I a) (g0 : ∀ j, j ≠ 11 → j ≠ 12 → I' 0 j = I 0 j) (g5 : ∀ j, j ≠ 0 → j ≠ 34 → j ≠ 35 → I' 125 j = I 125 j) (hc : CU I' E) : JI I' F pr sv S E n len := by
  obtain ⟨hb, hg, ⟨hC, hS, hM⟩, ⟨hD, hn⟩, ht, hfa, hcu, hrs, hsn, hf⟩ := h
  have a1 := ga 1 (by decide) (by decide)
  have a2 := ga 2 (by decide) (by decide)
  have a41 := ga 41 (by decide) (by decide)
  have a126 := ga 126 (by decide) (by decide)
  have a127 := ga 127 (by decide) (by decide)
  have a129 := ga 129 (by decide) (by decide)
  have a137 := ga 137 (by decide) (by decide)
  have a138 := ga 138 (by decide) (by decide)
  have a146 := ga 146 (by decide) (by decide)
  have b3 := g5 3 (by decide) (by decide) (by decide)
  have b6 := g5 6 (by decide) (by decide) (by decide)
  have b8 := g5 8 (by decide) (by decide) (by decide)
  have b29 := g5 29 (by decide) (by decide) (by decide)
  have c10 := g0 10 (by decide) (by decide)
  have c13 := g0 13 (by decide) (by decide)
  have hpb := pb_lt hb
  refine ⟨hb, hg, ⟨CPR_cg hC (fun a h1 h2 => ga a (by omega) (by omega)), MSt_cg hS a126, ME_cg hM a137 a138⟩, ⟨DDx_cg (T := 11) (nb := 126) hD (fun a h1 h2 => ga a (by omega) (by omega)) a126, by rw [a126]; exact hn⟩, ?_, by rw [c10, b8]; exact hfa, hc, ?_, SN_cg hsn b3 a127 (fun a h1 h2 => ga a (by omega) (by omega)) (fun b e hb9 a h1 h2 => by have := pb_lt hb9; exact ga a (by omega) (by omega)), hf⟩
  · unfold TX at ht ⊢
    rw [a1, a2, a129, b6]; exact ht
  · unfold RS at hrs ⊢
    rw [c13, a41, a146, b29]; exact hrs
theorem inr8 {k k2 : Nat} (h : k < 8) (h2 : k2 < 8) (e : nI k = nI k2) : k2 = k := (nI_inj (by omega) (by omega) e).symm
end
theorem s_kind {M : PM} {a : Int32} (hJ : JM M) : CallOK 2000 1 6 yL_kind (Cond.codeWith yL_kind cL_kind 4 (some .int) [(0, 9, 12, 31)]) [.ref 0, .int a, .ref 148] 150 M (AF AQi yX10_kind (Cond.code yX10_kind cX10_kind 2 (some .int)) [.ref 125, .int a]) := by
  obtain ⟨pr, sv, S, E, n, len, hR, hj⟩ := hJ
  obtain ⟨I, F, R, L, D⟩ := M
  have hR : R = RR pr sv := hR
  subst hR
  have hj : JI I F pr sv S E n len := hj
  have hj9 := hj
  obtain ⟨hb, ⟨hq, hE, hcat⟩, ⟨hC, hS, hM⟩, ⟨hD, hn⟩, ht, hfa, hcu, hrs, hsn, hf⟩ := hj9
  have hs8 : ∀ q ∈ S, q.1 < 8 := fun q h => (hq.2 q h).1
  have hk : EOK E := enS_ok (fun q h => ⟨(hq.2 q h).1, (hq.2 q h).2.1⟩) E0_ok hE
  have hn2 : n ≤ 16 := hD.2.2.1
  have hG : MG I E S := ⟨hM, hk, hS, hq⟩
  refine w_kind (c_kind (by omega) hb hC (fun k h8 e => HPi_ok (AF_of ?_)) (fun w => HPi_ex (x := 1) rfl (AF_of ?_)))
  · subst e
    refine m_kind (by omega) hM hk hS hq.1 hs8 ⟨fun k2 h2 e2 => ?_, fun w => absurd (rng8 h8) w⟩
    have e3 := inr8 h8 h2 e2
    subst e3
    exact AQi_ok th_0 hj.th
  · exact m_kind (by omega) hM hk hS hq.1 hs8 ⟨fun k2 h2 e2 => absurd (e2 ▸ rng8 h2) w, fun _ => AQi_ex (by decide) th_0 hj.th.th⟩
theorem s_depends {M : PM} {a : Int32} (hJ : JM M) : CallOK 2000 1 6 yL_depends (Cond.codeWith yL_depends cL_depends 4 (some .int) [(0, 9, 12, 31)]) [.ref 0, .int a, .ref 148] 150 M (AF AQi yX10_depends (Cond.code yX10_depends cX10_depends 4 (some .int)) [.ref 125, .int a]) := by
  obtain ⟨pr, sv, S, E, n, len, hR, hj⟩ := hJ
  obtain ⟨I, F, R, L, D⟩ := M
  have hR : R = RR pr sv := hR
  subst hR
  have hj : JI I F pr sv S E n len := hj
  have hj9 := hj
  obtain ⟨hb, ⟨hq, hE, hcat⟩, ⟨hC, hS, hM⟩, ⟨hD, hn⟩, ht, hfa, hcu, hrs, hsn, hf⟩ := hj9
  have hs8 : ∀ q ∈ S, q.1 < 8 := fun q h => (hq.2 q h).1
  have hk : EOK E := enS_ok (fun q h => ⟨(hq.2 q h).1, (hq.2 q h).2.1⟩) E0_ok hE
  have hn2 : n ≤ 16 := hD.2.2.1
  have hG : MG I E S := ⟨hM, hk, hS, hq⟩
  refine w_depends (c_depends (by omega) hb hC (fun k h8 e => HPi_ok (AF_of ?_)) (fun w => HPi_ex (x := 1) rfl (AF_of ?_)))
  · subst e
    refine m_depends (by omega) hM hk ⟨fun k2 h2 e2 => ?_, fun w => absurd (rng8 h8) w⟩
    have e3 := inr8 h8 h2 e2
    subst e3
    exact AQi_ok th_0 hj.th
  · exact m_depends (by omega) hM hk ⟨fun k2 h2 e2 => absurd (e2 ▸ rng8 h2) w, fun _ => AQi_ex (by decide) th_0 hj.th.th⟩
theorem s_height {M : PM} {a : Int32} (hJ : JM M) : CallOK 2000 1 6 yL_height (Cond.codeWith yL_height cL_height 4 (some .int) [(0, 9, 12, 31)]) [.ref 0, .int a, .ref 148] 150 M (AF AQi yX10_height (Cond.code yX10_height cX10_height 2 (some .int)) [.ref 125, .int a]) := by
  obtain ⟨pr, sv, S, E, n, len, hR, hj⟩ := hJ
  obtain ⟨I, F, R, L, D⟩ := M
  have hR : R = RR pr sv := hR
  subst hR
  have hj : JI I F pr sv S E n len := hj
  have hj9 := hj
  obtain ⟨hb, ⟨hq, hE, hcat⟩, ⟨hC, hS, hM⟩, ⟨hD, hn⟩, ht, hfa, hcu, hrs, hsn, hf⟩ := hj9
  have hs8 : ∀ q ∈ S, q.1 < 8 := fun q h => (hq.2 q h).1
  have hk : EOK E := enS_ok (fun q h => ⟨(hq.2 q h).1, (hq.2 q h).2.1⟩) E0_ok hE
  have hn2 : n ≤ 16 := hD.2.2.1
  have hG : MG I E S := ⟨hM, hk, hS, hq⟩
  refine w_height (c_height (by omega) hb hk hC (fun k s h8 e => HPi_ok (AF_of ?_)) (fun w => HPi_ex (x := 1) rfl (AF_of ?_)))
  · subst e
    have hj : JI (r2 I 7 s) F pr sv S E n len := hj.cg (fun a ha => r2_ne _ _ (by unfold kp at ha; omega)) (fun j _ _ => by rw [r2_ne _ _ (by decide)]) (fun j _ => by rw [r2_ne _ _ (by decide)]) rfl rfl hf
    have hM : ME (r2 I 7 s) E := hj.2.2.1.2.2
    refine m_height (by omega) hM hk ⟨fun k2 h2 e2 => ?_, fun w => absurd (rng8 h8) w⟩
    have e3 := inr8 h8 h2 e2
    subst e3
    exact AQi_ok th_0 hj.th
  · exact m_height (by omega) hM hk ⟨fun k2 h2 e2 => absurd (e2 ▸ rng8 h2) w, fun _ => AQi_ex (by decide) th_0 hj.th.th⟩
theorem s_operator {M : PM} {a : Int32} (hJ : JM M) : CallOK 2000 2 12 yL_operator (Cond.codeWith yL_operator cL_operator 4 (some .int) [(0, 9, 12, 31), (0, 9, 15, 49)]) [.ref 0, .int a, .ref 148] 150 M (AF AQi yX10_operator (Cond.code yX10_operator cX10_operator 2 (some .int)) [.ref 125, .int a]) := by
  obtain ⟨pr, sv, S, E, n, len, hR, hj⟩ := hJ
  obtain ⟨I, F, R, L, D⟩ := M
  have hR : R = RR pr sv := hR
  subst hR
  have hj : JI I F pr sv S E n len := hj
  have hj9 := hj
  obtain ⟨hb, ⟨hq, hE, hcat⟩, ⟨hC, hS, hM⟩, ⟨hD, hn⟩, ht, hfa, hcu, hrs, hsn, hf⟩ := hj9
  have hs8 : ∀ q ∈ S, q.1 < 8 := fun q h => (hq.2 q h).1
  have hk : EOK E := enS_ok (fun q h => ⟨(hq.2 q h).1, (hq.2 q h).2.1⟩) E0_ok hE
  have hn2 : n ≤ 16 := hD.2.2.1
  have hG : MG I E S := ⟨hM, hk, hS, hq⟩
  refine w_operator (c_operator (by omega) hb hC (fun k h8 e hc => HPi_ok (AF_of ?_)) (fun k h8 e hc => HPi_ex (x := 2) rfl (AF_of ?_)) (fun w => HPi_ex (x := 1) rfl (AF_of ?_)))
  · subst e
    refine m_operator (by omega) hM hk hS hq.1 hs8 ⟨fun k2 h2 e2 _ => ?_, fun k2 h2 e2 hc2 => absurd hc (by rw [← inr8 h8 h2 e2]; exact hc2), fun w => absurd (rng8 h8) w⟩
    have e3 := inr8 h8 h2 e2
    subst e3
    exact AQi_ok th_0 hj.th
  · subst e
    exact m_operator (by omega) hM hk hS hq.1 hs8 ⟨fun k2 h2 e2 hc2 => absurd hc2 (by rw [inr8 h8 h2 e2]; exact hc), fun k2 h2 e2 hc2 => AQi_ex (by decide) th_0 hj.th, fun w => absurd (rng8 h8) w⟩
  · exact m_operator (by omega) hM hk hS hq.1 hs8 ⟨fun k2 h2 e2 hc2 => absurd (e2 ▸ rng8 h2) w, fun k2 h2 e2 hc2 => absurd (e2 ▸ rng8 h2) w, fun _ => AQi_ex (by decide) th_0 hj.th⟩
theorem s_terms {M : PM} {a : Int32} (hJ : JM M) : CallOK 2000 2 12 yL_terms (Cond.codeWith yL_terms cL_terms 4 (some .int) [(0, 9, 12, 31), (0, 9, 15, 49)]) [.ref 0, .int a, .ref 148] 150 M (AF AQi yX10_terms (Cond.code yX10_terms cX10_terms 2 (some .int)) [.ref 125, .int a]) := by
  obtain ⟨pr, sv, S, E, n, len, hR, hj⟩ := hJ
  obtain ⟨I, F, R, L, D⟩ := M
  have hR : R = RR pr sv := hR
  subst hR
  have hj : JI I F pr sv S E n len := hj
  have hj9 := hj
  obtain ⟨hb, ⟨hq, hE, hcat⟩, ⟨hC, hS, hM⟩, ⟨hD, hn⟩, ht, hfa, hcu, hrs, hsn, hf⟩ := hj9
  have hs8 : ∀ q ∈ S, q.1 < 8 := fun q h => (hq.2 q h).1
  have hk : EOK E := enS_ok (fun q h => ⟨(hq.2 q h).1, (hq.2 q h).2.1⟩) E0_ok hE
  have hn2 : n ≤ 16 := hD.2.2.1
  have hG : MG I E S := ⟨hM, hk, hS, hq⟩
  refine w_terms (c_terms (by omega) hb hC (fun k o h8 e hc ho eo => HPi_ok (AF_of ?_)) (fun k h8 e hc => HPi_ex (x := 2) rfl (AF_of ?_)) (fun w => HPi_ex (x := 1) rfl (AF_of ?_)))
  · subst e
    refine m_terms (by omega) hM hk hS hq.1 hs8 ⟨fun k2 o2 h2 e2 _ ho2 eo2 => ?_, fun k2 h2 e2 hc2 => absurd hc (by rw [← inr8 h8 h2 e2]; exact hc2), fun w => absurd (rng8 h8) w⟩
    have e3 := inr8 h8 h2 e2
    subst e3
    have e4 : o2 = o := (nI_inj (by omega) (by omega) (eo.symm.trans eo2)).symm
    subst e4
    exact AQi_ok th_0 hj.th
  · subst e
    exact m_terms (by omega) hM hk hS hq.1 hs8 ⟨fun k2 o2 h2 e2 hc2 _ _ => absurd hc2 (by rw [inr8 h8 h2 e2]; exact hc), fun k2 h2 e2 hc2 => AQi_ex (by decide) th_0 hj.th, fun w => absurd (rng8 h8) w⟩
  · exact m_terms (by omega) hM hk hS hq.1 hs8 ⟨fun k2 o2 h2 e2 hc2 _ _ => absurd (e2 ▸ rng8 h2) w, fun k2 h2 e2 hc2 => absurd (e2 ▸ rng8 h2) w, fun _ => AQi_ex (by decide) th_0 hj.th⟩
theorem s_nodes {M : PM} {a : Int32} (hJ : JM M) : CallOK 2000 1 6 yL_nodes (Cond.codeWith yL_nodes cL_nodes 4 (some .int) [(0, 9, 12, 31)]) [.ref 0, .int a, .ref 148] 150 M (AF AQi yX10_nodes (Cond.code yX10_nodes cX10_nodes 2 (some .int)) [.ref 125, .int a]) := by
  obtain ⟨pr, sv, S, E, n, len, hR, hj⟩ := hJ
  obtain ⟨I, F, R, L, D⟩ := M
  have hR : R = RR pr sv := hR
  subst hR
  have hj : JI I F pr sv S E n len := hj
  have hj9 := hj
  obtain ⟨hb, ⟨hq, hE, hcat⟩, ⟨hC, hS, hM⟩, ⟨hD, hn⟩, ht, hfa, hcu, hrs, hsn, hf⟩ := hj9
  have hs8 : ∀ q ∈ S, q.1 < 8 := fun q h => (hq.2 q h).1
  have hk : EOK E := enS_ok (fun q h => ⟨(hq.2 q h).1, (hq.2 q h).2.1⟩) E0_ok hE
  have hn2 : n ≤ 16 := hD.2.2.1
  have hG : MG I E S := ⟨hM, hk, hS, hq⟩
  refine w_nodes (c_nodes (by omega) hb hC (fun k h8 e => HPi_ok (AF_of ?_)) (fun w => HPi_ex (x := 1) rfl (AF_of ?_)))
  · subst e
    refine m_nodes (by omega) ?_
    rw [if_pos (rng8 h8), nI_clamp (by omega), (hM k h8).1]
    exact AQi_ok th_0 hj.th
  · refine m_nodes (by omega) ?_
    rw [if_neg w]
    exact AQi_ex (by decide) th_0 hj.th.th
theorem s_open {M : PM} {a : Int32} (hJ : JM M) : CallOK 2000 1 6 yL_open (Cond.codeWith yL_open cL_open 4 (some .int) [(0, 9, 12, 31)]) [.ref 0, .int a, .ref 148] 150 M (AF AQi yX10_open (Cond.code yX10_open cX10_open 2 (some .int)) [.ref 125, .int a]) := by
  obtain ⟨pr, sv, S, E, n, len, hR, hj⟩ := hJ
  obtain ⟨I, F, R, L, D⟩ := M
  have hR : R = RR pr sv := hR
  subst hR
  have hj : JI I F pr sv S E n len := hj
  have hj9 := hj
  obtain ⟨hb, ⟨hq, hE, hcat⟩, ⟨hC, hS, hM⟩, ⟨hD, hn⟩, ht, hfa, hcu, hrs, hsn, hf⟩ := hj9
  have hs8 : ∀ q ∈ S, q.1 < 8 := fun q h => (hq.2 q h).1
  have hk : EOK E := enS_ok (fun q h => ⟨(hq.2 q h).1, (hq.2 q h).2.1⟩) E0_ok hE
  have hn2 : n ≤ 16 := hD.2.2.1
  have hG : MG I E S := ⟨hM, hk, hS, hq⟩
  refine w_open (c_open (by omega) hb hC (fun k h8 e => HPi_ok (AF_of ?_)) (fun w => HPi_ex (x := 1) rfl (AF_of ?_)))
  · subst e
    refine m_open (by omega) ?_
    rw [if_pos (rng8 h8), nI_clamp (by omega)]
    have e8 : u2 (u2 I 0 11 (nI k)) 0 12 0 138 k = nI (E k).length := by rw [u2_ne _ _ _ (by decide), u2_ne _ _ _ (by decide)]; exact (hM k h8).1
    rw [e8]
    refine AQi_ok (S := S) (E := E) (n := n) (len := len) (by simp [u2]) ?_
    have ga : ∀ a, a ≠ 0 → a ≠ 125 → u2 (u2 (u2 (u2 (u2 I 0 11 (nI k)) 0 12 0) 125 0 0) 125 34 0) 125 35 (nI k) a = I a := fun a h0 h5 => by rw [u2_ne _ _ _ h5, u2_ne _ _ _ h5, u2_ne _ _ _ h5, u2_ne _ _ _ h0, u2_ne _ _ _ h0]
    have g0 : ∀ j, j ≠ 11 → j ≠ 12 → u2 (u2 (u2 (u2 (u2 I 0 11 (nI k)) 0 12 0) 125 0 0) 125 34 0) 125 35 (nI k) 0 j = I 0 j := fun j h1 h2 => by simp [u2, h1, h2]
    have g5 : ∀ j, j ≠ 0 → j ≠ 34 → j ≠ 35 → u2 (u2 (u2 (u2 (u2 I 0 11 (nI k)) 0 12 0) 125 0 0) 125 34 0) 125 35 (nI k) 125 j = I 125 j := fun j h1 h2 h3 => by simp [u2, h1, h2, h3]
    have c11 : u2 (u2 (u2 (u2 (u2 I 0 11 (nI k)) 0 12 0) 125 0 0) 125 34 0) 125 35 (nI k) 0 11 = nI k := by simp [u2]
    have c12 : u2 (u2 (u2 (u2 (u2 I 0 11 (nI k)) 0 12 0) 125 0 0) 125 34 0) 125 35 (nI k) 0 12 = nI 0 := by simp [u2, nI_0]
    have c34 : u2 (u2 (u2 (u2 (u2 I 0 11 (nI k)) 0 12 0) 125 0 0) 125 34 0) 125 35 (nI k) 125 34 = nI 0 := by simp [u2, nI_0]
    have c35 : u2 (u2 (u2 (u2 (u2 I 0 11 (nI k)) 0 12 0) 125 0 0) 125 34 0) 125 35 (nI k) 125 35 = nI k := by simp [u2]
    exact hj.cu (fun a h0 h5 => ga a h0 h5) g0 g5 (Or.inr ⟨k, 0, h8, c11, c35, c12, c34, Nat.zero_le _⟩)
  · refine m_open (by omega) ?_
    rw [if_neg w]
    exact AQi_ex (by decide) th_0 hj.th.th
