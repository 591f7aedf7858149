/-! ===== settings ===== -/
section
variable {I I' : Nat → Nat → Int32} {F F' : Nat → Nat → UInt32} {R : Nat → Nat → Option Nat} {pr n len : Nat} {sv : Option Nat} {S : ST} {E : EX} {L : Nat → Nat → Int64} {D : Nat → Nat → UInt64}
/-- the data change: class cells 11 to 16, reference cell 126 from slot 1 on, but not its codes -/
theorem JI.dt {m : Nat} (h : JI I F pr sv S E n len) (ga : ∀ a, (a < 11 ∨ 16 < a) → a ≠ 125 → a ≠ 126 → I' a = I a) (g5 : ∀ j, j ≠ 0 → I' 125 j = I 125 j) (gs : ∀ j, ¬ keepR j → I' 126 j = I 126 j) (hD : DD I' (I' 126) m) (hn : I' 126 2 = nI m) : JI I' F pr sv S E m len := by
  obtain ⟨hb, hg, ⟨hC, hS, hM⟩, ⟨_, _⟩, ht, hfa, hcu, hrs, hsn, hf⟩ := h
  have a0 := ga 0 (by decide) (by decide) (by decide)
  have a1 := ga 1 (by decide) (by decide) (by decide)
  have a2 := ga 2 (by decide) (by decide) (by decide)
  have a41 := ga 41 (by decide) (by decide) (by decide)
  have a127 := ga 127 (by decide) (by decide) (by decide)
  have a129 := ga 129 (by decide) (by decide) (by decide)
  have a137 := ga 137 (by decide) (by decide) (by decide)
  have a138 := ga 138 (by decide) (by decide) (by decide)
  have a146 := ga 146 (by decide) (by decide) (by decide)
  have b3 := g5 3 (by decide)
  have b6 := g5 6 (by decide)
  have b8 := g5 8 (by decide)
  have b29 := g5 29 (by decide)
  have b34 := g5 34 (by decide)
  have b35 := g5 35 (by decide)
  have hpb := pb_lt hb
  have hl := hg.1.1
  refine ⟨hb, hg, ⟨CPR_cg hC (fun a h1 h2 => ga a (by omega) (by omega) (by omega)), ?_, ME_cg hM a137 a138⟩, ⟨hD, hn⟩, ?_, by rw [a0, b8]; exact hfa, ?_, ?_, SN_cg hsn b3 a127 (fun a h1 h2 => ga a (by omega) (by omega) (by omega)) (fun b e hb9 a h1 h2 => by have := pb_lt hb9; exact ga a (by omega) (by omega) (by omega)), hf⟩
  · refine ⟨by rw [gs 0 (by unfold keepR; omega)]; exact hS.1, fun k hk => ?_⟩
    obtain ⟨s1, s2, s3⟩ := hS.2 k hk
    refine ⟨by rw [gs _ (by unfold keepR; omega)]; exact s1, by rw [gs _ (by unfold keepR; omega)]; exact s2, fun j hj => ?_⟩
    rw [gs _ (by unfold keepR; omega)]; exact s3 j hj
  · unfold TX at ht ⊢
    rw [a1, a2, a129, b6]; exact ht
  · unfold CU at hcu ⊢
    rw [a0, b34, b35]; exact hcu
  · unfold RS at hrs ⊢
    rw [a0, a41, a146, b29]; exact hrs
theorem i01 {k : Int32} : (0 ≤ k ∧ k ≤ 1) ↔ (k = 0 ∨ k = 1) := by
  constructor
  · intro ⟨h1, h2⟩
    obtain ⟨j, hj, _, e⟩ := nI_rng (a := 0) (b := 1) (by omega) (by omega) h1 h2
    have : j = 0 ∨ j = 1 := by omega
    rcases this with rfl | rfl
    · exact Or.inl e
    · exact Or.inr e
  · intro h
    rcases h with rfl | rfl <;> decide
theorem rngE {k i : Nat} (hk : k < 3) (hi : i < 16) : ((0 : Int32) ≤ nI k ∧ nI k ≤ 2) ∧ (0 : Int32) ≤ nI i ∧ nI i ≤ 15 := ⟨⟨nI_pos' (by omega), nI_le (a := k) (b := 2) (by omega) (by omega)⟩, nI_pos' (by omega), nI_le (a := i) (b := 15) (by omega) (by omega)⟩
theorem ixcl {k i : Nat} (hk : k < 3) (hi : i < 16) : ((19 : Int32) + 16 * nI k + nI i).toNatClampNeg = 19 + 16 * k + i := by rw [ixel, nI_clamp (by omega)]
theorem ivcl {k : Nat} (hk : k < 8) : ((67 : Int32) + nI k).toNatClampNeg = 67 + k := by rw [show (67 : Int32) = nI 67 from rfl, nI_add, nI_clamp (by omega)]
theorem abs999 {x : Int32} (h : -999 ≤ x ∧ x ≤ 999) : x.toInt.natAbs ≤ 999 := by
  have h1 := Int32.le_iff_toInt_le.mp h.1
  have h2 := Int32.le_iff_toInt_le.mp h.2
  have e1 : (-999 : Int32).toInt = -999 := by decide +kernel
  have e2 : (999 : Int32).toInt = 999 := by decide +kernel
  omega
theorem u126 {x : Int32} {k j : Nat} (h : j ≠ k) : u2 I 126 k x 126 j = I 126 j := by simp [u2, h]
end
theorem s_setMode {M : PM} {a : Int32} (hJ : JM M) : CallOK 2000 1 6 yL_setMode (Cond.codeWith yL_setMode cL_setMode 4 (some .int) [(0, 9, 12, 13)]) [.ref 0, .int a, .ref 148] 150 M (AF AQi yX10_setMode (Cond.code yX10_setMode cX10_setMode 3 (some .int)) [.ref 125, .int a]) := by
  obtain ⟨pr, sv, S, E, n, len, hR, hj⟩ := hJ
  obtain ⟨I, F, R, L, D⟩ := M
  have hR : R = RR pr sv := hR
  subst hR
  have hj : JI I F pr sv S E n len := hj
  have hj9 := hj
  obtain ⟨hb, ⟨hq, hE, hcat⟩, ⟨hC, hS, hM⟩, ⟨hD, hn⟩, ht, hfa, hcu, hrs, hsn, hf⟩ := hj9
  have hs8 : ∀ q ∈ S, q.1 < 8 := fun q h => (hq.2 q h).1
  have hk : EOK E := enS_ok (fun q h => ⟨(hq.2 q h).1, (hq.2 q h).2.1⟩) E0_ok hE
  have hn2 : n ≤ 16 := hD.2.2.1
  have hG : MG I E S := ⟨hM, hk, hS, hq⟩
  refine w_setMode (c_setMode (by omega) (fun w => HPi_ok (AF_of ?_)) (fun w => HPi_ex (x := 1) rfl (AF_of ?_)))
  · refine m_setMode (by omega) ?_
    rw [if_pos (i01.mpr w)]
    have e1 : u2 I 11 0 a 126 1 = I 11 0 := by rw [u2_ne _ _ _ (by decide)]; exact hD.1.symm
    rw [e1]
    refine AQi_ok (by simp [u2]) (hj.dt (m := n) (fun c h1 h2 h3 => by rw [u2_ne _ _ _ h3, u2_ne _ _ _ h2, u2_ne _ _ _ (by omega)]) (fun j hj => by simp [u2, hj]) (fun j hj => by rw [u126 (fun e => hj (by subst e; exact Or.inl rfl)), u2_ne _ _ _ (by decide), u2_ne _ _ _ (by decide)]) ?_ (by rw [u126 (by decide), u2_ne _ _ _ (by decide), u2_ne _ _ _ (by decide)]; exact hn))
    have hN : ∀ j, j ≠ 1 → u2 (u2 (u2 I 11 0 a) 125 0 0) 126 1 a 126 j = I 126 j := fun j hj => by rw [u126 hj, u2_ne _ _ _ (by decide), u2_ne _ _ _ (by decide)]
    have h1 : u2 (u2 (u2 I 11 0 a) 125 0 0) 126 1 a 126 1 = a := by simp [u2]
    refine ⟨by rw [h1]; simp [u2], by rw [u2_ne _ _ _ (by decide), u2_ne _ _ _ (by decide)]; simp [u2]; exact hD.2.1, hn2, by rw [h1]; exact w, fun c i hc hi => ?_, fun v hv => ?_, fun v hv => ?_⟩
    · unfold elN
      rw [hN _ (by omega), u2_ne _ _ _ (by omega), u2_ne _ _ _ (by omega), u2_ne _ _ _ (by omega)]
      exact hD.2.2.2.2.1 c i hc hi
    · unfold inN
      rw [hN _ (by omega), u2_ne _ _ _ (by omega), u2_ne _ _ _ (by omega), u2_ne _ _ _ (by omega)]
      exact hD.2.2.2.2.2.1 v hv
    · unfold inN
      rw [hN _ (by omega)]
      exact hD.2.2.2.2.2.2 v hv
  · refine m_setMode (by omega) ?_
    rw [if_neg (fun h => w (i01.mp h))]
    exact AQi_ex (by decide) th_0 hj.th.th
theorem s_setCount {M : PM} {a : Int32} (hJ : JM M) : CallOK 2000 1 6 yL_setCount (Cond.codeWith yL_setCount cL_setCount 4 (some .int) [(0, 9, 12, 13)]) [.ref 0, .int a, .ref 148] 150 M (AF AQi yX10_setCount (Cond.code yX10_setCount cX10_setCount 3 (some .int)) [.ref 125, .int a]) := by
  obtain ⟨pr, sv, S, E, n, len, hR, hj⟩ := hJ
  obtain ⟨I, F, R, L, D⟩ := M
  have hR : R = RR pr sv := hR
  subst hR
  have hj : JI I F pr sv S E n len := hj
  have hj9 := hj
  obtain ⟨hb, ⟨hq, hE, hcat⟩, ⟨hC, hS, hM⟩, ⟨hD, hn⟩, ht, hfa, hcu, hrs, hsn, hf⟩ := hj9
  have hs8 : ∀ q ∈ S, q.1 < 8 := fun q h => (hq.2 q h).1
  have hk : EOK E := enS_ok (fun q h => ⟨(hq.2 q h).1, (hq.2 q h).2.1⟩) E0_ok hE
  have hn2 : n ≤ 16 := hD.2.2.1
  have hG : MG I E S := ⟨hM, hk, hS, hq⟩
  refine w_setCount (c_setCount (by omega) (fun w => HPi_ok (AF_of ?_)) (fun w => HPi_ex (x := 1) rfl (AF_of ?_)))
  · refine m_setCount (by omega) ?_
    rw [if_pos w]
    obtain ⟨m, hm, _, em⟩ := nI_rng (a := 0) (b := 16) (by omega) (by omega) w.1 w.2
    subst em
    have e1 : u2 I 11 1 (nI m) 126 2 = I 11 1 := by rw [u2_ne _ _ _ (by decide), hn]; exact hD.2.1.symm
    rw [e1]
    refine AQi_ok (by simp [u2]) (hj.dt (m := m) (fun c h1 h2 h3 => by rw [u2_ne _ _ _ h3, u2_ne _ _ _ h2, u2_ne _ _ _ (by omega)]) (fun j hj => by simp [u2, hj]) (fun j hj => by rw [u126 (fun e => hj (by subst e; exact Or.inr (Or.inl rfl))), u2_ne _ _ _ (by decide), u2_ne _ _ _ (by decide)]) ?_ (by simp [u2]))
    have hN : ∀ j, j ≠ 2 → u2 (u2 (u2 I 11 1 (nI m)) 125 0 0) 126 2 (nI m) 126 j = I 126 j := fun j hj => by rw [u126 hj, u2_ne _ _ _ (by decide), u2_ne _ _ _ (by decide)]
    have h1 := hN 1 (by decide)
    refine ⟨by rw [h1, u2_ne _ _ _ (by decide), u2_ne _ _ _ (by decide)]; simp [u2]; exact hD.1, by simp [u2], hm, by rw [h1]; exact hD.2.2.2.1, fun c i hc hi => ?_, fun v hv => ?_, fun v hv => ?_⟩
    · unfold elN
      rw [hN _ (by omega), u2_ne _ _ _ (by omega), u2_ne _ _ _ (by omega), u2_ne _ _ _ (by omega)]
      exact hD.2.2.2.2.1 c i hc hi
    · unfold inN
      rw [hN _ (by omega), u2_ne _ _ _ (by omega), u2_ne _ _ _ (by omega), u2_ne _ _ _ (by omega)]
      exact hD.2.2.2.2.2.1 v hv
    · unfold inN
      rw [hN _ (by omega)]
      exact hD.2.2.2.2.2.2 v hv
  · refine m_setCount (by omega) ?_
    rw [if_neg w]
    exact AQi_ex (by decide) th_0 hj.th.th
theorem s_element {M : PM} {a b : Int32} (hJ : JM M) : CallOK 2000 1 6 yL_element (Cond.codeWith yL_element cL_element 5 (some .int) [(0, 10, 13, 31)]) [.ref 0, .int a, .int b, .ref 148] 150 M (AF AQi yX10_element (Cond.code yX10_element cX10_element 3 (some .int)) [.ref 125, .int a, .int b]) := by
  obtain ⟨pr, sv, S, E, n, len, hR, hj⟩ := hJ
  obtain ⟨I, F, R, L, D⟩ := M
  have hR : R = RR pr sv := hR
  subst hR
  have hj : JI I F pr sv S E n len := hj
  have hj9 := hj
  obtain ⟨hb, ⟨hq, hE, hcat⟩, ⟨hC, hS, hM⟩, ⟨hD, hn⟩, ht, hfa, hcu, hrs, hsn, hf⟩ := hj9
  have hs8 : ∀ q ∈ S, q.1 < 8 := fun q h => (hq.2 q h).1
  have hk : EOK E := enS_ok (fun q h => ⟨(hq.2 q h).1, (hq.2 q h).2.1⟩) E0_ok hE
  have hn2 : n ≤ 16 := hD.2.2.1
  have hG : MG I E S := ⟨hM, hk, hS, hq⟩
  refine w_element (c_element (by omega) (fun k i hk3 hi ek ei => HPi_ok (AF_of ?_)) (fun w => HPi_ex (x := 1) rfl (AF_of ?_)))
  · subst ek; subst ei
    refine m_element (by omega) ?_
    rw [if_pos (rngE hk3 hi), ixcl hk3 hi]
    have e1 : I (13 + k) i = I 126 (19 + 16 * k + i) := hD.2.2.2.2.1 k i hk3 hi
    rw [← e1]
    exact AQi_ok th_0 hj.th
  · refine m_element (by omega) ?_
    rw [if_neg w]
    exact AQi_ex (by decide) th_0 hj.th.th
theorem s_setElement {M : PM} {a b c : Int32} (hJ : JM M) : CallOK 2000 2 12 yL_setElement (Cond.codeWith yL_setElement cL_setElement 6 (some .int) [(0, 12, 15, 31), (0, 12, 19, 13)]) [.ref 0, .int a, .int b, .int c, .ref 148] 150 M (AF AQi yX10_setElement (Cond.code yX10_setElement cX10_setElement 5 (some .int)) [.ref 125, .int a, .int b, .int c]) := by
  obtain ⟨pr, sv, S, E, n, len, hR, hj⟩ := hJ
  obtain ⟨I, F, R, L, D⟩ := M
  have hR : R = RR pr sv := hR
  subst hR
  have hj : JI I F pr sv S E n len := hj
  have hj9 := hj
  obtain ⟨hb, ⟨hq, hE, hcat⟩, ⟨hC, hS, hM⟩, ⟨hD, hn⟩, ht, hfa, hcu, hrs, hsn, hf⟩ := hj9
  have hs8 : ∀ q ∈ S, q.1 < 8 := fun q h => (hq.2 q h).1
  have hk : EOK E := enS_ok (fun q h => ⟨(hq.2 q h).1, (hq.2 q h).2.1⟩) E0_ok hE
  have hn2 : n ≤ 16 := hD.2.2.1
  have hG : MG I E S := ⟨hM, hk, hS, hq⟩
  refine w_setElement (c_setElement (by omega) (fun k i hk3 hi ek ei w => HPi_ok (AF_of ?_)) (fun w w2 => HPi_ex (x := 2) rfl (AF_of ?_)) (fun w => HPi_ex (x := 1) rfl (AF_of ?_)))
  · subst ek; subst ei
    refine m_setElement (by omega) ?_
    rw [if_pos (rngE hk3 hi), if_pos w, ixcl hk3 hi]
    have e1 : u2 I (13 + k) i c 126 (19 + 16 * k + i) = I (13 + k) i := by rw [u2_ne _ _ _ (by omega)]; exact (hD.2.2.2.2.1 k i hk3 hi).symm
    rw [e1]
    have hN : ∀ j, j ≠ 19 + 16 * k + i → u2 (u2 (u2 I (13 + k) i c) 125 0 0) 126 (19 + 16 * k + i) c 126 j = I 126 j := fun j hj => by rw [u126 hj, u2_ne _ _ _ (by decide), u2_ne _ _ _ (by omega)]
    refine AQi_ok (by rw [u2_ne _ _ _ (by decide)]; exact th_0) (hj.dt (m := n) (fun x h1 h2 h3 => by rw [u2_ne _ _ _ h3, u2_ne _ _ _ h2, u2_ne _ _ _ (by omega)]) (fun j hj => by rw [u2_ne _ _ _ (by decide)]; simp only [u2_ap, if_true]; rw [if_neg hj, if_neg (by omega)]) (fun j hj => hN j (fun e => hj (by subst e; exact Or.inr (Or.inr (by omega))))) ?_ (by rw [hN 2 (by omega)]; exact hn))
    have gR : ∀ x, x ≠ 13 + k → x ≠ 125 → x ≠ 126 → u2 (u2 (u2 I (13 + k) i c) 125 0 0) 126 (19 + 16 * k + i) c x = I x := fun x h1 h2 h3 => by rw [u2_ne _ _ _ h3, u2_ne _ _ _ h2, u2_ne _ _ _ h1]
    have h1 := hN 1 (by omega)
    refine ⟨by rw [h1, gR 11 (by omega) (by decide) (by decide)]; exact hD.1, by rw [gR 11 (by omega) (by decide) (by decide)]; exact hD.2.1, hn2, by rw [h1]; exact hD.2.2.2.1, fun x y hx hy => ?_, fun v hv => ?_, fun v hv => ?_⟩
    · unfold elN
      by_cases e : x = k ∧ y = i
      · obtain ⟨rfl, rfl⟩ := e
        have z1 : u2 (u2 (u2 I (13 + x) y c) 125 0 0) 126 (19 + 16 * x + y) c 126 (19 + 16 * x + y) = c := by simp [u2]
        rw [z1, u2_ne _ _ _ (by omega), u2_ne _ _ _ (by omega)]
        simp [u2]
      · rw [hN _ (by omega), u2_ne _ _ _ (by omega), u2_ne _ _ _ (by omega)]
        have z2 : u2 I (13 + k) i c (13 + x) y = I (13 + x) y := by
          unfold u2
          by_cases e3 : 13 + x = 13 + k
          · rw [if_pos e3, if_neg (fun e4 => e ⟨by omega, e4⟩)]
          · rw [if_neg e3]
        rw [z2]
        exact hD.2.2.2.2.1 x y hx hy
    · unfold inN
      rw [hN _ (by omega), gR 16 (by omega) (by decide) (by decide)]
      exact hD.2.2.2.2.2.1 v hv
    · unfold inN
      rw [hN _ (by omega)]
      exact hD.2.2.2.2.2.2 v hv
  · refine m_setElement (by omega) ?_
    rw [if_pos w, if_neg w2]
    exact AQi_ex (by decide) th_0 hj.th.th
  · refine m_setElement (by omega) ?_
    rw [if_neg w]
    exact AQi_ex (by decide) th_0 hj.th.th
theorem s_setInitial {M : PM} {a b : Int32} (hJ : JM M) : CallOK 2000 2 12 yL_setInitial (Cond.codeWith yL_setInitial cL_setInitial 5 (some .int) [(0, 10, 13, 31), (0, 10, 17, 13)]) [.ref 0, .int a, .int b, .ref 148] 150 M (AF AQi yX10_setInitial (Cond.code yX10_setInitial cX10_setInitial 4 (some .int)) [.ref 125, .int a, .int b]) := by
  obtain ⟨pr, sv, S, E, n, len, hR, hj⟩ := hJ
  obtain ⟨I, F, R, L, D⟩ := M
  have hR : R = RR pr sv := hR
  subst hR
  have hj : JI I F pr sv S E n len := hj
  have hj9 := hj
  obtain ⟨hb, ⟨hq, hE, hcat⟩, ⟨hC, hS, hM⟩, ⟨hD, hn⟩, ht, hfa, hcu, hrs, hsn, hf⟩ := hj9
  have hs8 : ∀ q ∈ S, q.1 < 8 := fun q h => (hq.2 q h).1
  have hk : EOK E := enS_ok (fun q h => ⟨(hq.2 q h).1, (hq.2 q h).2.1⟩) E0_ok hE
  have hn2 : n ≤ 16 := hD.2.2.1
  have hG : MG I E S := ⟨hM, hk, hS, hq⟩
  refine w_setInitial (c_setInitial (by omega) (fun k hk8 ek w => HPi_ok (AF_of ?_)) (fun w w2 => HPi_ex (x := 2) rfl (AF_of ?_)) (fun w => HPi_ex (x := 1) rfl (AF_of ?_)))
  · subst ek
    refine m_setInitial (by omega) ?_
    rw [if_pos (rng8 hk8), if_pos w, ivcl hk8]
    have e1 : u2 I 16 k b 126 (67 + k) = I 16 k := by rw [u2_ne _ _ _ (by decide)]; exact (hD.2.2.2.2.2.1 k hk8).symm
    rw [e1]
    have hN : ∀ j, j ≠ 67 + k → u2 (u2 (u2 I 16 k b) 125 0 0) 126 (67 + k) b 126 j = I 126 j := fun j hj => by rw [u126 hj, u2_ne _ _ _ (by decide), u2_ne _ _ _ (by decide)]
    refine AQi_ok (by rw [u2_ne _ _ _ (by decide)]; exact th_0) (hj.dt (m := n) (fun x h1 h2 h3 => by rw [u2_ne _ _ _ h3, u2_ne _ _ _ h2, u2_ne _ _ _ (by omega)]) (fun j hj => by rw [u2_ne _ _ _ (by decide)]; simp [u2, hj]) (fun j hj => hN j (fun e => hj (by subst e; exact Or.inr (Or.inr (by omega))))) ?_ (by rw [hN 2 (by omega)]; exact hn))
    have gR : ∀ x, x ≠ 16 → x ≠ 125 → x ≠ 126 → u2 (u2 (u2 I 16 k b) 125 0 0) 126 (67 + k) b x = I x := fun x h1 h2 h3 => by rw [u2_ne _ _ _ h3, u2_ne _ _ _ h2, u2_ne _ _ _ h1]
    have h1 := hN 1 (by omega)
    refine ⟨by rw [h1, gR 11 (by decide) (by decide) (by decide)]; exact hD.1, by rw [gR 11 (by decide) (by decide) (by decide)]; exact hD.2.1, hn2, by rw [h1]; exact hD.2.2.2.1, fun x y hx hy => ?_, fun v hv => ?_, fun v hv => ?_⟩
    · unfold elN
      rw [hN _ (by omega), gR _ (by omega) (by omega) (by omega)]
      exact hD.2.2.2.2.1 x y hx hy
    · unfold inN
      by_cases e : v = k
      · subst e
        have z1 : u2 (u2 (u2 I 16 v b) 125 0 0) 126 (67 + v) b 126 (67 + v) = b := by simp [u2]
        rw [z1, u2_ne _ _ _ (by decide), u2_ne _ _ _ (by decide)]
        simp [u2]
      · rw [hN _ (by omega), u2_ne _ _ _ (by decide), u2_ne _ _ _ (by decide)]
        have z2 : u2 I 16 k b 16 v = I 16 v := by simp [u2, e]
        rw [z2]
        exact hD.2.2.2.2.2.1 v hv
    · unfold inN
      by_cases e : v = k
      · subst e
        have z1 : u2 (u2 (u2 I 16 v b) 125 0 0) 126 (67 + v) b 126 (67 + v) = b := by simp [u2]
        rw [z1]
        exact abs999 w
      · rw [hN _ (by omega)]
        exact hD.2.2.2.2.2.2 v hv
  · refine m_setInitial (by omega) ?_
    rw [if_pos w, if_neg w2]
    exact AQi_ex (by decide) th_0 hj.th.th
  · refine m_setInitial (by omega) ?_
    rw [if_neg w]
    exact AQi_ex (by decide) th_0 hj.th.th
theorem s_fill {M : PM} {a b : Int32} (hJ : JM M) : CallOK 2000 1 6 yL_fill (Cond.codeWith yL_fill cL_fill 5 (some .int) [(0, 10, 13, 31)]) [.ref 0, .int a, .int b, .ref 148] 150 M (AF AQi yX10_fill (Cond.code yX10_fill cX10_fill 6 (some .int)) [.ref 125, .int a, .int b]) := by
  obtain ⟨pr, sv, S, E, n, len, hR, hj⟩ := hJ
  obtain ⟨I, F, R, L, D⟩ := M
  have hR : R = RR pr sv := hR
  subst hR
  have hj : JI I F pr sv S E n len := hj
  have hj9 := hj
  obtain ⟨hb, ⟨hq, hE, hcat⟩, ⟨hC, hS, hM⟩, ⟨hD, hn⟩, ht, hfa, hcu, hrs, hsn, hf⟩ := hj9
  have hs8 : ∀ q ∈ S, q.1 < 8 := fun q h => (hq.2 q h).1
  have hk : EOK E := enS_ok (fun q h => ⟨(hq.2 q h).1, (hq.2 q h).2.1⟩) E0_ok hE
  have hn2 : n ≤ 16 := hD.2.2.1
  have hG : MG I E S := ⟨hM, hk, hS, hq⟩
  refine w_fill (c_fill (by omega) (fun k I1 hk3 ek hv hc1 => HPi_ok (AF_of ?_)) (fun w => HPi_ex (x := 1) rfl (AF_of ?_)))
  · subst ek
    refine m_fill (by omega) (fun w => absurd (rngE (i := 0) hk3 (by decide)).1 w) (fun k2 I2 h2 e2 hv2 hc2 => ?_)
    have e3 : k2 = k := (nI_inj (by omega) (by omega) e2).symm
    subst e3
    have f26 : I1 126 = I 126 := hc1 126 (by omega)
    have g125 : I2 125 = u2 I1 125 0 0 125 := hc2 125 (by decide)
    have gI : ∀ x, x ≠ 13 + k2 → x ≠ 125 → x ≠ 126 → I2 x = I x := fun x h1 h3 h4 => by rw [hc2 x h4, u2_ne _ _ _ h3]; exact hc1 x h1
    have g2 : ∀ j, (j < 19 + 16 * k2 ∨ 19 + 16 * k2 + 16 ≤ j) → I2 126 j = I 126 j := fun j hj => by rw [hv2 j, if_neg (by omega), f26]
    refine AQi_ok (by rw [g125]; exact th_0) (hj.dt (m := n) (fun x h1 h3 h4 => gI x (by omega) h3 h4) (fun j hj => by rw [g125]; simp only [u2_ap, if_true]; rw [if_neg hj, hc1 125 (by omega)]) (fun j hj => g2 j (by unfold keepR at hj; omega)) ?_ (by rw [g2 2 (by omega)]; exact hn))
    have h1 := g2 1 (by omega)
    refine ⟨by rw [h1, gI 11 (by omega) (by decide) (by decide)]; exact hD.1, by rw [gI 11 (by omega) (by decide) (by decide)]; exact hD.2.1, hn2, by rw [h1]; exact hD.2.2.2.1, fun x y hx hy => ?_, fun v hv => ?_, fun v hv => ?_⟩
    · unfold elN
      by_cases e : x = k2
      · subst e
        rw [hv2, if_pos (by omega), hc2 _ (by omega), u2_ne _ _ _ (by omega), show 19 + 16 * x + y - (19 + 16 * x) = y by omega]
        exact hv y hy
      · rw [g2 _ (by omega), gI _ (by omega) (by omega) (by omega)]
        exact hD.2.2.2.2.1 x y hx hy
    · unfold inN
      rw [g2 _ (by omega), gI 16 (by omega) (by decide) (by decide)]
      exact hD.2.2.2.2.2.1 v hv
    · unfold inN
      rw [g2 _ (by omega)]
      exact hD.2.2.2.2.2.2 v hv
  · exact m_fill (by omega) (fun _ => AQi_ex (by decide) th_0 hj.th.th) (fun k2 I2 h2 e2 _ _ => absurd (e2 ▸ (rngE (i := 0) h2 (by decide)).1) w)
