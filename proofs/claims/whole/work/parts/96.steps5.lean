/-! ===== load; calls without a helper ===== -/
section
variable {I I' : Nat → Nat → Int32} {F F' : Nat → Nat → UInt32} {R : Nat → Nat → Option Nat} {pr n len : Nat} {sv : Option Nat} {S : ST} {E : EX} {L : Nat → Nat → Int64} {D : Nat → Nat → UInt64}
theorem JI.lf (h : JI I F pr sv S E n len) (ga : ∀ a, (11 ≤ a ∧ a ≤ 22 ∨ a = 41 ∨ a = 127 ∨ a = 146) → I' a = I a) (gp : ∀ b, PB b → (b = pr ∨ sv = some b) → ∀ a, b ≤ a → a < b + 20 → I' a = I a) (g0 : ∀ j, j ≠ 10 → I' 0 j = I 0 j) (g126 : ∀ j, j < 875 → I' 126 j = I 126 j) (hM' : ME I' E) (b3 : I' 125 3 = I 125 3) (b29 : I' 125 29 = I 125 29) (b34 : I' 125 34 = I 125 34) (b35 : I' 125 35 = I 125 35) (e10 : I' 0 10 = I' 125 8) (e1 : I' 1 1 = 0) (e6 : I' 125 6 = 0) : JI I' F pr sv S E n 0 := by
  obtain ⟨hb, hg, ⟨hC, hS, hM⟩, ⟨hD, hn⟩, ht, hfa, hcu, hrs, hsn, hf⟩ := h
  have a41 := ga 41 (by omega)
  have a127 := ga 127 (by omega)
  have a146 := ga 146 (by omega)
  refine ⟨hb, hg, ⟨CPR_cg hC (gp pr hb (Or.inl rfl)), hS.congr hg.1 g126, hM'⟩, ⟨⟨?_, ?_, hD.2.2.1, ?_, fun a i ha hi => ?_, fun v hv => ?_, fun v hv => ?_⟩, by rw [g126 2 (by decide)]; exact hn⟩, ⟨e1, e6, Nat.zero_le _, fun j hj => absurd hj (Nat.not_lt_zero j), fun j hj => absurd hj (Nat.not_lt_zero j)⟩, e10, ?_, ?_, SN_cg hsn b3 a127 (fun a h1 h2 => ga a (by omega)) (fun b e hb9 => gp b hb9 (Or.inr e)), hf⟩
  · rw [ga 11 (by omega), g126 1 (by decide)]; exact hD.1
  · rw [ga 11 (by omega)]; exact hD.2.1
  · rw [g126 1 (by decide)]; exact hD.2.2.2.1
  · unfold elN
    rw [ga _ (by omega), g126 _ (by omega)]; exact hD.2.2.2.2.1 a i ha hi
  · unfold inN
    rw [ga 16 (by omega), g126 _ (by omega)]; exact hD.2.2.2.2.2.1 v hv
  · unfold inN
    rw [g126 _ (by omega)]; exact hD.2.2.2.2.2.2 v hv
  · unfold CU at hcu ⊢
    rw [g0 11 (by decide), g0 12 (by decide), b34, b35]; exact hcu
  · unfold RS at hrs ⊢
    rw [g0 13 (by decide), a41, a146, b29]; exact hrs
end
theorem s_load {M : PM} (hJ : JM M) : CallOK 2000 1 6 yL_load (Cond.codeWith yL_load cL_load 3 (some .int) [(0, 8, 11, 13), (0, 8, 14, 15)]) [.ref 0, .ref 148] 150 M (AF AQi yX10_load (Cond.code yX10_load cX10_load 5 (some .int)) [.ref 125]) := by
  obtain ⟨pr, sv, S, E, n, len, hR, hj⟩ := hJ
  obtain ⟨I, F, R, L, D⟩ := M
  have hR : R = RR pr sv := hR
  subst hR
  have hj : JI I F pr sv S E n len := hj
  have hj9 := hj
  obtain ⟨hb, ⟨hq, hE, hcat⟩, ⟨hC, hS, hM⟩, ⟨hD, hn⟩, ht, hfa, hcu, hrs, hsn, hf⟩ := hj9
  have hs8 : ∀ q ∈ S, q.1 < 8 := fun q h => (hq.2 q h).1
  have hk : EOK E := enS_ok (fun q h => ⟨(hq.2 q h).1, (hq.2 q h).2.1⟩) E0_ok hE
  have hn2 : n ≤ 16 := hD.2.2.1
  have hG : MG I E S := ⟨hM, hk, hS, hq⟩
  let ch : Nat → Int32 := fun j => if j < len then I 129 j else 0
  have hch : ∀ j, j < len → I 2 j = ch j := fun j h => by show I 2 j = if j < len then I 129 j else 0; rw [if_pos h]; exact ht.2.2.2.1 j h
  have hch2 : ∀ j, j < len → I 129 j = ch j := fun j h => by show I 129 j = if j < len then I 129 j else 0; rw [if_pos h]
  have hz : chz ch len := fun j h => by show (if j < len then I 129 j else 0) = 0; rw [if_neg (by omega)]
  have hco : cho ch := fun j => by
    show ∃ q, q < 65536 ∧ (if j < len then I 129 j else 0) = nI q
    by_cases e : j < len
    · rw [if_pos e]; exact ht.2.2.2.2 j e
    · rw [if_neg e]; exact ⟨0, by decide, nI_0.symm⟩
  have hpb := pb_lt hb
  have hls : ∀ b, PB b → ∀ I1, CLF b I I1 → ∀ a, 125 ≤ a → I1 a = I a := fun b hbb I1 hcl a ha => by have := pb_lt hbb; exact hcl a (by simp; omega) (by omega)
  refine w_load (c_load (ch := ch) (len := len) (by omega) hb hsn.ok ht.1 ht.2.2.1 hch hz hco (fun I1 p S1 hp hcl h0 e10 e1 => HPi_ex (x := 1) rfl (AF_of ?_)) (fun I1 p S1 b hp hbig hbb hne hsv hcl h0 e10 e1 => HPi_ex (x := 2) rfl (AF_of ?_)) (fun I1 p S1 E1 b hp h8 hE1 hbb hne hsv hcl hC1 e10 e1 e11 e13 => HPi_ok (AF_of ?_)))
  · have G := hls 65 (Or.inl rfl) I1 (hcl 65)
    have ga : ∀ a, a ∉ [0, 1, 3, 4, 5, 8, 9] → I1 a = I a := fun a ha => hcl (a + 1) a ha (Or.inl (by omega))
    refine m_load (ch := ch) (len := len) (by omega) (by rw [G 125 (by decide)]; exact ht.2.1) ht.2.2.1 (fun j hj => by rw [G 129 (by decide)]; exact hch2 j hj) hz (MSt_cg hS (G 126 (by decide))) hq hE (ME_cg hM (G 137 (by decide)) (G 138 (by decide))) (fun I2 p2 S2 hp2 hL h126 hM2 e0 e6 e8 e29 e34 => ?_) (fun I2 p2 S2 hp2 => by rw [hp] at hp2; cases hp2) (fun I2 p2 S2 E2 hp2 => by rw [hp] at hp2; cases hp2)
    have ep : p2 = p := by rw [hp] at hp2; cases hp2; rfl
    subst ep
    refine AQi_ex (by decide) e0 (hj.lf (fun a ha => by rw [hL.1 a (by simp; omega)]; exact ga a (by simp; omega)) (fun b hb9 _ a h1 h2 => by have := pb_lt hb9; rw [hL.1 a (by simp; omega)]; exact ga a (by simp; omega)) (fun j hj => by rw [hL.1 0 (by decide)]; exact h0 j hj) (fun j hj => by rw [h126 j hj, G 126 (by decide)]) hM2 (by rw [hL.2 3 (by decide), G 125 (by decide)]) (by rw [e29, G 125 (by decide)]) (by rw [e34, G 125 (by decide)]) (by rw [hL.2 35 (by decide), G 125 (by decide)]) (by rw [hL.1 0 (by decide), e10, e8]) (by rw [hL.1 1 (by decide), e1]) e6)
  · have G := hls b hbb I1 hcl
    have hlb := pb_lt hbb
    have ga : ∀ a, a ∉ [0, 1, 3, 4, 5, 8, 9] → (a < b ∨ b + 20 ≤ a) → I1 a = I a := hcl
    refine m_load (ch := ch) (len := len) (by omega) (by rw [G 125 (by decide)]; exact ht.2.1) ht.2.2.1 (fun j hj => by rw [G 129 (by decide)]; exact hch2 j hj) hz (MSt_cg hS (G 126 (by decide))) hq hE (ME_cg hM (G 137 (by decide)) (G 138 (by decide))) (fun I2 p2 S2 hp2 => by rw [hp] at hp2; cases hp2) (fun I2 p2 S2 hp2 hbig2 hL h126 hM2 e0 e6 e8 e29 e34 => ?_) (fun I2 p2 S2 E2 hp2 h82 hE2 => ?_)
    · refine AQi_ex (by decide) e0 (hj.lf (fun a ha => by rw [hL.1 a (by simp; omega)]; exact ga a (by simp; omega) (by omega)) (fun b9 hb9 hor a h1 h2 => ?_) (fun j hj => by rw [hL.1 0 (by decide)]; exact h0 j hj) (fun j hj => by rw [h126 j hj, G 126 (by decide)]) hM2 (by rw [hL.2 3 (by decide), G 125 (by decide)]) (by rw [e29, G 125 (by decide)]) (by rw [e34, G 125 (by decide)]) (by rw [hL.2 35 (by decide), G 125 (by decide)]) (by rw [hL.1 0 (by decide), e10, e8]) (by rw [hL.1 1 (by decide), e1]) e6)
      have hl9 := pb_lt hb9
      have ne : b9 ≠ b := fun e => hor.elim (fun q => hne (e.symm.trans q)) (fun q => hsv (by rw [← e]; exact q))
      rw [hL.1 a (by simp; omega)]
      exact ga a (by simp; omega) (by unfold PB at hb9 hbb; omega)
    · have es : S2 = S1 := by rw [hp] at hp2; cases hp2; rfl
      subst es
      rcases hbig with q | q
      · exact absurd h82 (by omega)
      · rw [q] at hE2; cases hE2
  · have G := hls b hbb I1 hcl
    have hlb := pb_lt hbb
    have ga : ∀ a, a ∉ [0, 1, 3, 4, 5, 8, 9] → (a < b ∨ b + 20 ≤ a) → I1 a = I a := hcl
    refine m_load (ch := ch) (len := len) (by omega) (by rw [G 125 (by decide)]; exact ht.2.1) ht.2.2.1 (fun j hj => by rw [G 129 (by decide)]; exact hch2 j hj) hz (MSt_cg hS (G 126 (by decide))) hq hE (ME_cg hM (G 137 (by decide)) (G 138 (by decide))) (fun I2 p2 S2 hp2 => by rw [hp] at hp2; cases hp2) (fun I2 p2 S2 hp2 hbig2 => ?_) (fun I2 p2 S2 E2 hp2 h82 hE2 hL hS2 hM2 hkr e0 e6 e8 e29 e34 => ?_)
    · have es : S2 = S1 := by rw [hp] at hp2; cases hp2; rfl
      subst es
      rcases hbig2 with q | q
      · exact absurd h8 (by omega)
      · rw [q] at hE1; cases hE1
    · have es : S2 = S1 := by rw [hp] at hp2; cases hp2; rfl
      subst es
      have ee : E2 = E1 := by rw [hE1] at hE2; cases hE2; rfl
      subst ee
      obtain ⟨tk, hpl, _⟩ := ptx_ok hz 101 0 [] p S2 ⟨fun q h => absurd h List.not_mem_nil, Nat.le_refl 0⟩ (Nat.zero_le _) hp
      have hl100 := ht.2.2.1
      have hq2 : SQ S2 := tk.sq (by omega) h8
      have hc2 : (cat S2).length ≤ 100 := by have := tk.2; omega
      have a2 : ∀ a, a ∉ [0, 1, 3, 4, 5, 8, 9] → (a < b ∨ b + 20 ≤ a) → (a < 125 ∨ a = 127 ∨ 139 < a) → I2 a = I a := fun a h1 h2 h3 => by rw [hL.1 a (by simp; omega)]; exact ga a h1 h2
      have hN : ∀ j, keepR j → I2 126 j = I 126 j := fun j hj => by rw [hkr j hj, G 126 (by decide)]
      have k1 : keepR 1 := Or.inl rfl
      have k2 : keepR 2 := Or.inr (Or.inl rfl)
      have c11 : I2 0 11 = -1 := by rw [hL.1 0 (by decide)]; exact e11
      have c13 : I2 0 13 = -1 := by rw [hL.1 0 (by decide)]; exact e13
      refine AQi_ok e0 (show JI I2 F b sv S2 E2 n 0 from ⟨hbb, ⟨hq2, hE2, hc2⟩, ⟨CPR_cg hC1 (fun a h1 h2 => hL.1 a (by simp; omega)), hS2, hM2⟩, ⟨⟨?_, ?_, hn2, ?_, fun a i ha hi => ?_, fun v hv => ?_, fun v hv => ?_⟩, by rw [hN 2 k2]; exact hn⟩, ⟨by rw [hL.1 1 (by decide)]; exact e1, e6, Nat.zero_le _, fun j hj => absurd hj (Nat.not_lt_zero j), fun j hj => absurd hj (Nat.not_lt_zero j)⟩, by rw [hL.1 0 (by decide), e10, e8], Or.inl ⟨c11, e34⟩, ⟨by rw [c13, e29], Or.inl e29, fun z => by rw [e29] at z; exact absurd z (by decide), fun z => by rw [e29] at z; exact absurd z (by decide), hrs.2.2.2.2⟩, SN_cg hsn (by rw [hL.2 3 (by decide), G 125 (by decide)]) (a2 127 (by decide) (by omega) (by omega)) (fun a h1 h2 => a2 a (by simp; omega) (by omega) (by omega)) (fun b9 e hb9 a h1 h2 => ?_), hf⟩)
      · rw [a2 11 (by decide) (by omega) (by omega), hN 1 k1]; exact hD.1
      · rw [a2 11 (by decide) (by omega) (by omega)]; exact hD.2.1
      · rw [hN 1 k1]; exact hD.2.2.2.1
      · unfold elN
        rw [a2 _ (by simp; omega) (by omega) (by omega), hN _ (Or.inr (Or.inr (by omega)))]; exact hD.2.2.2.2.1 a i ha hi
      · unfold inN
        rw [a2 16 (by decide) (by omega) (by omega), hN _ (Or.inr (Or.inr (by omega)))]; exact hD.2.2.2.2.2.1 v hv
      · unfold inN
        rw [hN _ (Or.inr (Or.inr (by omega)))]; exact hD.2.2.2.2.2.2 v hv
      · have hl9 := pb_lt hb9
        have ne : b9 ≠ b := fun e9 => hsv (by rw [← e9]; exact e)
        exact a2 a (by simp; omega) (by unfold PB at hb9 hbb; omega) (by omega)
def AG (y : MethodName) (cw : Cond) (av : List Value) : PO := fun o n M => n = 150 ∧ ∃ x, o = .inl (some (.int x)) ∧ CallOK 2000 0 0 y cw av 150 M (fun o2 n2 M2 => n2 = 150 ∧ o2 = .inl (some (.int x)) ∧ JM M2)
def AV (y : MethodName) (cw : Cond) (av : List Value) : PO := fun o n M => n = 150 ∧ o = .inl none ∧ CallOK 2000 0 0 y cw av 150 M (fun o2 n2 M2 => n2 = 150 ∧ o2 = .inl none ∧ JM M2)
theorem s_faultPosition {M : PM} (hJ : JM M) : CallOK 2000 0 0 yX9_faultPosition (Cond.code yX9_faultPosition cX9_faultPosition 1 (some .int)) [.ref 0] 150 M (AG yX10_faultPosition (Cond.code yX10_faultPosition cX10_faultPosition 1 (some .int)) [.ref 125]) := by
  obtain ⟨pr, sv, S, E, n, len, hR, hj⟩ := hJ
  obtain ⟨I, F, R, L, D⟩ := M
  have hR : R = RR pr sv := hR
  subst hR
  have hj : JI I F pr sv S E n len := hj
  have hj9 := hj
  obtain ⟨hb, ⟨hq, hE, hcat⟩, ⟨hC, hS, hM⟩, ⟨hD, hn⟩, ht, hfa, hcu, hrs, hsn, hf⟩ := hj9
  have hs8 : ∀ q ∈ S, q.1 < 8 := fun q h => (hq.2 q h).1
  have hk : EOK E := enS_ok (fun q h => ⟨(hq.2 q h).1, (hq.2 q h).2.1⟩) E0_ok hE
  have hn2 : n ≤ 16 := hD.2.2.1
  have hG : MG I E S := ⟨hM, hk, hS, hq⟩
  exact c_faultPosition (by omega) ⟨rfl, _, rfl, m_faultPosition (by omega) ⟨rfl, by rw [hfa], hj.th.jm⟩⟩
theorem s_statements {M : PM} (hJ : JM M) : CallOK 2000 0 0 yX9_statements (Cond.code yX9_statements cX9_statements 1 (some .int)) [.ref 0] 150 M (AG yX10_statements (Cond.code yX10_statements cX10_statements 1 (some .int)) [.ref 125]) := by
  obtain ⟨pr, sv, S, E, n, len, hR, hj⟩ := hJ
  obtain ⟨I, F, R, L, D⟩ := M
  have hR : R = RR pr sv := hR
  subst hR
  have hj : JI I F pr sv S E n len := hj
  have hj9 := hj
  obtain ⟨hb, ⟨hq, hE, hcat⟩, ⟨hC, hS, hM⟩, ⟨hD, hn⟩, ht, hfa, hcu, hrs, hsn, hf⟩ := hj9
  have hs8 : ∀ q ∈ S, q.1 < 8 := fun q h => (hq.2 q h).1
  have hk : EOK E := enS_ok (fun q h => ⟨(hq.2 q h).1, (hq.2 q h).2.1⟩) E0_ok hE
  have hn2 : n ≤ 16 := hD.2.2.1
  have hG : MG I E S := ⟨hM, hk, hS, hq⟩
  exact c_statements (by omega) hb hC ⟨rfl, _, rfl, m_statements (by omega) ⟨rfl, by rw [hS.1], hj.th.jm⟩⟩
theorem s_isParallel {M : PM} (hJ : JM M) : CallOK 2000 0 0 yX9_isParallel (Cond.code yX9_isParallel cX9_isParallel 1 (some .boolean)) [.ref 0] 150 M (AG yX10_isParallel (Cond.code yX10_isParallel cX10_isParallel 1 (some .boolean)) [.ref 125]) := by
  obtain ⟨pr, sv, S, E, n, len, hR, hj⟩ := hJ
  obtain ⟨I, F, R, L, D⟩ := M
  have hR : R = RR pr sv := hR
  subst hR
  have hj : JI I F pr sv S E n len := hj
  have hj9 := hj
  obtain ⟨hb, ⟨hq, hE, hcat⟩, ⟨hC, hS, hM⟩, ⟨hD, hn⟩, ht, hfa, hcu, hrs, hsn, hf⟩ := hj9
  have hs8 : ∀ q ∈ S, q.1 < 8 := fun q h => (hq.2 q h).1
  have hk : EOK E := enS_ok (fun q h => ⟨(hq.2 q h).1, (hq.2 q h).2.1⟩) E0_ok hE
  have hn2 : n ≤ 16 := hD.2.2.1
  have hG : MG I E S := ⟨hM, hk, hS, hq⟩
  refine c_isParallel (by omega) hb hC (fun x h1 h2 => ⟨rfl, _, rfl, m_isParallel (by omega) hM hk hS hq.1 hs8 (fun y h3 h4 => ⟨rfl, ?_, hj.th.jm⟩)⟩)
  have e : y = x := by
    rcases h1 with rfl | rfl <;> rcases h3 with rfl | rfl
    · rfl
    · exact absurd (h4.mpr (h2.mp rfl)) (by decide)
    · exact absurd (h2.mpr (h4.mp rfl)) (by decide)
    · rfl
  rw [e]
theorem s_cheapest {M : PM} (hJ : JM M) : CallOK 2000 0 0 yX9_cheapest (Cond.code yX9_cheapest cX9_cheapest 6 (some .int)) [.ref 0] 150 M (AG yX10_cheapest (Cond.code yX10_cheapest cX10_cheapest 7 (some .int)) [.ref 125]) := by
  obtain ⟨pr, sv, S, E, n, len, hR, hj⟩ := hJ
  obtain ⟨I, F, R, L, D⟩ := M
  have hR : R = RR pr sv := hR
  subst hR
  have hj : JI I F pr sv S E n len := hj
  have hj9 := hj
  obtain ⟨hb, ⟨hq, hE, hcat⟩, ⟨hC, hS, hM⟩, ⟨hD, hn⟩, ht, hfa, hcu, hrs, hsn, hf⟩ := hj9
  have hs8 : ∀ q ∈ S, q.1 < 8 := fun q h => (hq.2 q h).1
  have hk : EOK E := enS_ok (fun q h => ⟨(hq.2 q h).1, (hq.2 q h).2.1⟩) E0_ok hE
  have hn2 : n ≤ 16 := hD.2.2.1
  have hG : MG I E S := ⟨hM, hk, hS, hq⟩
  refine c_cheapest (by omega) hb hC hq hD.2.1 hn2 (fun w => ⟨rfl, _, rfl, ?_⟩) (fun w => ⟨rfl, _, rfl, ?_⟩)
  · exact m_cheapest (by omega) hG hn hn2 (fun _ => ⟨rfl, rfl, hj.th.jm⟩) (fun q => absurd q w)
  · exact m_cheapest (by omega) hG hn hn2 (fun q => absurd w q) (fun _ => ⟨rfl, rfl, hj.th.jm⟩)
theorem s_save {M : PM} (hJ : JM M) : CallOK 2000 0 0 yX9_save (Cond.code yX9_save cX9_save 1 none) [.ref 0] 150 M (AV yX10_save (Cond.code yX10_save cX10_save 1 none) [.ref 125]) := by
  obtain ⟨pr, sv, S, E, n, len, hR, hj⟩ := hJ
  obtain ⟨I, F, R, L, D⟩ := M
  have hR : R = RR pr sv := hR
  subst hR
  have hj : JI I F pr sv S E n len := hj
  have hj9 := hj
  obtain ⟨hb, ⟨hq, hE, hcat⟩, ⟨hC, hS, hM⟩, ⟨hD, hn⟩, ht, hfa, hcu, hrs, hsn, hf⟩ := hj9
  have hs8 : ∀ q ∈ S, q.1 < 8 := fun q h => (hq.2 q h).1
  have hk : EOK E := enS_ok (fun q h => ⟨(hq.2 q h).1, (hq.2 q h).2.1⟩) E0_ok hE
  have hn2 : n ≤ 16 := hD.2.2.1
  have hG : MG I E S := ⟨hM, hk, hS, hq⟩
  refine c_save (by omega) (fun I1 q0 q1 q2 q3 q4 => ⟨rfl, rfl, m_save (by omega) ⟨rfl, rfl, JI.jm (S := S) (E := E) (n := n) (len := len) ?_⟩⟩)
  have g : ∀ a, (a < 17 ∨ 22 < a) → a ≠ 125 → a ≠ 127 → r2 (u2 (u2 I1 125 0 0) 125 3 1) 127 (fun j => if j < 875 then I1 126 j else I1 127 j) a = I a := fun a h1 h2 h3 => by rw [r2_ne _ _ h3, u2_ne _ _ _ h2, u2_ne _ _ _ h2]; exact q4 a h1
  have gd : ∀ a, 17 ≤ a → a ≤ 22 → r2 (u2 (u2 I1 125 0 0) 125 3 1) 127 (fun j => if j < 875 then I1 126 j else I1 127 j) a = I1 a := fun a h1 h2 => by rw [r2_ne _ _ (by omega), u2_ne _ _ _ (by omega), u2_ne _ _ _ (by omega)]
  have g5 : ∀ j, j ≠ 0 → j ≠ 3 → r2 (u2 (u2 I1 125 0 0) 125 3 1) 127 (fun j => if j < 875 then I1 126 j else I1 127 j) 125 j = I 125 j := fun j h1 h2 => by rw [r2_ne _ _ (by decide)]; simp only [u2_ap, if_true]; rw [if_neg h2, if_neg h1, q4 125 (by decide)]
  have g3 : r2 (u2 (u2 I1 125 0 0) 125 3 1) 127 (fun j => if j < 875 then I1 126 j else I1 127 j) 125 3 = 1 := by rw [r2_ne _ _ (by decide)]; simp [u2]
  have g7 : ∀ j, j < 875 → r2 (u2 (u2 I1 125 0 0) 125 3 1) 127 (fun j => if j < 875 then I1 126 j else I1 127 j) 127 j = I 126 j := fun j hj => by rw [r2_row, if_pos hj, q4 126 (by decide)]
  generalize r2 (u2 (u2 I1 125 0 0) 125 3 1) 127 (fun j => if j < 875 then I1 126 j else I1 127 j) = I2 at g gd g5 g3 g7 ⊢
  have hpb := pb_lt hb
  have hC2 : CPR I2 pr E S := CPR_cg hC (fun a h1 h2 => g a (by omega) (by omega) (by omega))
  refine ⟨hb, ⟨hq, hE, hcat⟩, ⟨hC2, MSt_cg hS (g 126 (by decide) (by decide) (by decide)), ME_cg hM (g 137 (by decide) (by decide) (by decide)) (g 138 (by decide) (by decide) (by decide))⟩, ⟨DDx_cg (T := 11) (nb := 126) hD (fun a h1 h2 => g a (by omega) (by omega) (by omega)) (g 126 (by decide) (by decide) (by decide)), by rw [g 126 (by decide) (by decide) (by decide)]; exact hn⟩, ?_, by rw [g 0 (by decide) (by decide) (by decide), g5 8 (by decide) (by decide)]; exact hfa, ?_, ?_, Or.inr ⟨pr, S, E, n, rfl, by rw [g3]; decide, hb, ⟨hq, hE, hcat⟩, hC2, hS.congr hq g7, ⟨?_, ?_, hn2, ?_, fun a i ha hi => ?_, fun v hv => ?_, fun v hv => ?_⟩, by rw [g7 2 (by decide)]; exact hn⟩, hf⟩
  · unfold TX at ht ⊢
    rw [g 1 (by decide) (by decide) (by decide), g 2 (by decide) (by decide) (by decide), g 129 (by decide) (by decide) (by decide), g5 6 (by decide) (by decide)]
    exact ht
  · unfold CU at hcu ⊢
    rw [g 0 (by decide) (by decide) (by decide), g5 34 (by decide) (by decide), g5 35 (by decide) (by decide)]
    exact hcu
  · unfold RS at hrs ⊢
    rw [g 0 (by decide) (by decide) (by decide), g 41 (by decide) (by decide) (by decide), g 146 (by decide) (by decide) (by decide), g5 29 (by decide) (by decide)]
    exact hrs
  · rw [gd 17 (by decide) (by decide), q0, g7 1 (by decide)]; exact hD.1
  · rw [gd 17 (by decide) (by decide), q1]; exact hD.2.1
  · rw [g7 1 (by decide)]; exact hD.2.2.2.1
  · unfold elN
    rw [gd _ (by omega) (by omega), g7 _ (by omega)]
    exact (q2 a i ha hi).trans (hD.2.2.2.2.1 a i ha hi)
  · unfold inN
    rw [gd 22 (by decide) (by decide), g7 _ (by omega)]
    exact (q3 v hv).trans (hD.2.2.2.2.2.1 v hv)
  · unfold inN
    rw [g7 _ (by omega)]
    exact hD.2.2.2.2.2.2 v hv
