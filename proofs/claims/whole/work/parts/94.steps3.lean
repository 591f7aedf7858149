/-! ===== text, cursor, results ===== -/
section
variable {I I' : Nat → Nat → Int32} {F F' : Nat → Nat → UInt32} {R : Nat → Nat → Option Nat} {pr n len : Nat} {sv : Option Nat} {S : ST} {E : EX} {L : Nat → Nat → Int64} {D : Nat → Nat → UInt64}
theorem JI.tx {len' : Nat} (h : JI I F pr sv S E n len) (ga : ∀ a, a ≠ 1 → a ≠ 2 → a ≠ 125 → a ≠ 129 → I' a = I a) (g5 : ∀ j, j ≠ 0 → j ≠ 6 → I' 125 j = I 125 j) (ht : TX I' len') : JI I' F pr sv S E n len' := by
  obtain ⟨hb, hg, ⟨hC, hS, hM⟩, ⟨hD, hn⟩, _, hfa, hcu, hrs, hsn, hf⟩ := h
  have a0 := ga 0 (by decide) (by decide) (by decide) (by decide)
  have a41 := ga 41 (by decide) (by decide) (by decide) (by decide)
  have a126 := ga 126 (by decide) (by decide) (by decide) (by decide)
  have a127 := ga 127 (by decide) (by decide) (by decide) (by decide)
  have a137 := ga 137 (by decide) (by decide) (by decide) (by decide)
  have a138 := ga 138 (by decide) (by decide) (by decide) (by decide)
  have a146 := ga 146 (by decide) (by decide) (by decide) (by decide)
  have b3 := g5 3 (by decide) (by decide)
  have b8 := g5 8 (by decide) (by decide)
  have b29 := g5 29 (by decide) (by decide)
  have b34 := g5 34 (by decide) (by decide)
  have b35 := g5 35 (by decide) (by decide)
  have hpb := pb_lt hb
  refine ⟨hb, hg, ⟨CPR_cg hC (fun a h1 h2 => ga a (by omega) (by omega) (by omega) (by omega)), MSt_cg hS a126, ME_cg hM a137 a138⟩, ⟨DDx_cg (T := 11) (nb := 126) hD (fun a h1 h2 => ga a (by omega) (by omega) (by omega) (by omega)) a126, by rw [a126]; exact hn⟩, ht, by rw [a0, b8]; exact hfa, ?_, ?_, SN_cg hsn b3 a127 (fun a h1 h2 => ga a (by omega) (by omega) (by omega) (by omega)) (fun b e hb9 a h1 h2 => by have := pb_lt hb9; exact ga a (by omega) (by omega) (by omega) (by omega)), hf⟩
  · unfold CU at hcu ⊢
    rw [a0, b34, b35]; exact hcu
  · unfold RS at hrs ⊢
    rw [a0, a41, a146, b29]; exact hrs
theorem bts4_rng {p x : Int32} {T : List Int32} (h : ¬ ∃ s ∈ T, bbad (byt p s)) (hx : x ∈ bts4 p T) : ∃ q, q < 65536 ∧ x = nI q := by
  unfold bts4 at hx
  obtain ⟨h1, h2⟩ := List.mem_filter.mp hx
  obtain ⟨s, hs, e⟩ := List.mem_map.mp h1
  have h0 : ¬ x = 0 := by simpa using h2
  have hb : 33 ≤ x ∧ x ≤ 126 := by
    by_cases w : 33 ≤ x ∧ x ≤ 126
    · exact w
    · exact absurd ⟨s, hs, by rw [e]; exact ⟨h0, w⟩⟩ h
  obtain ⟨q, hq, _, e⟩ := nI_rng (a := 33) (b := 126) (by omega) (by omega) hb.1 hb.2
  exact ⟨q, by omega, e⟩
theorem mem_gD {A : List Int32} {i : Nat} (h : i < A.length) : A.getD i 0 ∈ A := by
  rw [List.getD_eq_getElem?_getD, List.getElem?_eq_getElem h]
  exact List.getElem_mem h
theorem cst_w {k m m2 : Nat} (h : k = 3 ∨ k = 0) : cst E S n k m = cst E S n k m2 := by
  unfold cst
  rcases h with rfl | rfl
  · simp
  · simp
theorem exI_w {N : Nat → Int32} {k m m2 v : Nat} (h : k = 3 ∨ k = 0) : exI E S N k m n v = exI E S N k m2 n v := by
  unfold exI exv pls prt
  rcases h with rfl | rfl
  · simp
  · simp
theorem exF_w {N : Nat → Int32} {k m m2 v : Nat} (h : k = 3 ∨ k = 0) : exF E S N k m n v = exF E S N k m2 n v := by
  unfold exF exv pls prt
  rcases h with rfl | rfl
  · simp
  · simp
/-- the width of the one side is that of the other, where it matters -/
theorem wds {k k2 m m2 : Nat} {o wd : Int32} (h3 : k ≤ 3) (h32 : k2 ≤ 3) (e : o = nI k) (e2 : o = nI k2) (h : (k = 3 ∨ k = 0) ∨ wd = nI m ∧ 1 ≤ m ∧ m ≤ 8) (h2 : (k2 = 3 ∨ k2 = 0) ∨ wd = nI m2 ∧ 1 ≤ m2 ∧ m2 ≤ 8) : k2 = k ∧ ((k = 3 ∨ k = 0) ∨ m2 = m) := by
  have ek : k2 = k := (nI_inj (by omega) (by omega) (e.symm.trans e2)).symm
  subst ek
  refine ⟨rfl, ?_⟩
  rcases h with h | h
  · exact Or.inl h
  · rcases h2 with h2 | h2
    · exact Or.inl h2
    · exact Or.inr (nI_inj (by omega) (by omega) (h.1.symm.trans h2.1)).symm
theorem cnt_cg {p q : Nat → Bool} : ∀ k, (∀ v, v < k → p v = q v) → cnt p k = cnt q k
  | 0, _ => rfl
  | k + 1, h => by
    unfold cnt
    rw [h k (Nat.lt_succ_self k), cnt_cg k (fun v hv => h v (Nat.lt_succ_of_lt hv))]
end
theorem s_append {M : PM} {a : Int32} (hJ : JM M) : CallOK 2000 1 6 yL_append (Cond.codeWith yL_append cL_append 4 (some .int) [(0, 9, 12, 13), (0, 9, 15, 15)]) [.ref 0, .int a, .ref 148] 150 M (AF AQi yX10_append (Cond.code yX10_append cX10_append 5 (some .int)) [.ref 125, .int a]) := by
  obtain ⟨pr, sv, S, E, n, len, hR, hj⟩ := hJ
  obtain ⟨I, F, R, L, D⟩ := M
  have hR : R = RR pr sv := hR
  subst hR
  have hj : JI I F pr sv S E n len := hj
  have hj9 := hj
  obtain ⟨hb, ⟨hq, hE, hcat⟩, ⟨hC, hS, hM⟩, ⟨hD, hn⟩, ht, hfa, hcu, hrs, hsn, hf⟩ := hj9
  have hs8 : ∀ q ∈ S, q.1 < 8 := fun q h => (hq.2 q h).1
  have hk : EOK E := enS_ok (fun q h => ⟨(hq.2 q h).1, (hq.2 q h).2.1⟩) E0_ok hE
  have hn2 : n ≤ 16 := hD.2.2.1
  have hG : MG I E S := ⟨hM, hk, hS, hq⟩
  refine w_append (c_append (by omega) ht.1 ht.2.2.1 (fun w => HPi_ex (x := 1) rfl (AF_of ?_)) (fun w w2 => HPi_ex (x := 2) rfl (AF_of ?_)) (fun I1 w w2 hA hK hG h1 hl => HPi_ok (AF_of ?_)))
  · exact m_append (by omega) ht.2.1 ht.2.2.1 (fun _ => AQi_ex (by decide) th_0 hj.th.th) (fun w2 _ => absurd w w2) (fun I2 w2 _ _ _ _ _ _ _ => absurd w w2)
  · exact m_append (by omega) ht.2.1 ht.2.2.1 (fun w3 => absurd w3 w) (fun _ _ => AQi_ex (by decide) th_0 hj.th.th) (fun I2 _ w3 _ _ _ _ _ _ => absurd w2 (by omega))
  · have g125 : I1 125 = I 125 := hG 125 (by decide) (by decide)
    have g129 : I1 129 = I 129 := hG 129 (by decide) (by decide)
    refine m_append (by omega) (by rw [g125]; exact ht.2.1) ht.2.2.1 (fun w3 => absurd w3 w) (fun _ w3 => absurd w3 (by omega)) (fun I2 _ _ hA2 hK2 hG2 hj2 e0 e6 => ?_)
    have lo : ∀ j, j < len → I2 2 j = I 2 j ∧ I2 129 j = I 129 j := fun j hj => ⟨by rw [hG2 2 (by decide) (by decide)]; exact hK j hj, by rw [hK2 j hj, g129]⟩
    have hi : ∀ i, i < (bts4 a [24, 16, 8, 0]).length → I2 2 (len + i) = (bts4 a [24, 16, 8, 0]).getD i 0 ∧ I2 129 (len + i) = (bts4 a [24, 16, 8, 0]).getD i 0 := fun i hi => ⟨by rw [hG2 2 (by decide) (by decide)]; exact hA i hi, hA2 i hi⟩
    refine AQi_ok e0 (hj.tx (len' := len + (bts4 a [24, 16, 8, 0]).length) (fun c h2 h3 h4 h5 => by rw [hG2 c h4 h5]; exact hG c h2 h3) (fun j h2 h3 => by rw [hj2 j h2 h3, g125]) ⟨by rw [hG2 1 (by decide) (by decide)]; exact hl, e6, w2, fun j hj => ?_, fun j hj => ?_⟩)
    · by_cases e : j < len
      · rw [(lo j e).1, (lo j e).2]; exact ht.2.2.2.1 j e
      · obtain ⟨i, rfl⟩ : ∃ i, j = len + i := ⟨j - len, by omega⟩
        rw [(hi i (by omega)).1, (hi i (by omega)).2]
    · by_cases e : j < len
      · rw [(lo j e).2]; exact ht.2.2.2.2 j e
      · obtain ⟨i, rfl⟩ : ∃ i, j = len + i := ⟨j - len, by omega⟩
        rw [(hi i (by omega)).2]
        exact bts4_rng w (mem_gD (by omega))
theorem s_hasNext {M : PM} (hJ : JM M) : CallOK 2000 1 6 yL_hasNext (Cond.codeWith yL_hasNext cL_hasNext 3 (some .int) [(0, 15, 18, 15)]) [.ref 0, .ref 148] 150 M (AF AQz yX10_hasNext (Cond.code yX10_hasNext cX10_hasNext 1 (some .boolean)) [.ref 125]) := by
  obtain ⟨pr, sv, S, E, n, len, hR, hj⟩ := hJ
  obtain ⟨I, F, R, L, D⟩ := M
  have hR : R = RR pr sv := hR
  subst hR
  have hj : JI I F pr sv S E n len := hj
  have hj9 := hj
  obtain ⟨hb, ⟨hq, hE, hcat⟩, ⟨hC, hS, hM⟩, ⟨hD, hn⟩, ht, hfa, hcu, hrs, hsn, hf⟩ := hj9
  have hs8 : ∀ q ∈ S, q.1 < 8 := fun q h => (hq.2 q h).1
  have hk : EOK E := enS_ok (fun q h => ⟨(hq.2 q h).1, (hq.2 q h).2.1⟩) E0_ok hE
  have hn2 : n ≤ 16 := hD.2.2.1
  have hG : MG I E S := ⟨hM, hk, hS, hq⟩
  rcases hcu with ⟨c1, c2⟩ | ⟨k, c, h8, e11, e35, e12, e34, hc⟩
  · refine w_hasNext (c_hasNext (by omega) hb hC (fun k w => absurd c1 w) (fun w => absurd c1 w) (fun _ => HPz_ex (x := 1) rfl (AF_of ?_)))
    refine m_hasNext (by omega) (fun w => absurd (by rw [c2]; decide) w) ?_
    have e : b2i (I 125 34 < 0) = 1 := b2i_eq1.mpr (by rw [c2]; decide)
    rw [e]
    exact AQz_ex (by decide) th_0 hj.th
  · have nn : ¬ I 0 11 = -1 := by rw [e11]; exact nI_neg1 (by omega)
    have hl := (hk k h8).2
    refine w_hasNext (c_hasNext (by omega) hb hC (fun k2 w h2 e2 => HPz_ok (AF_of ?_)) (fun _ => ⟨k, h8, e11⟩) (fun w => absurd w nn))
    have e3 := inr8 h8 h2 (e11.symm.trans e2)
    subst e3
    refine m_hasNext (by omega) (fun _ => by rw [e35]; exact vp_in_nI h8 (by decide)) ?_
    have p0 : ¬ I 125 34 < 0 := by rw [e34]; exact nI_pos (by omega)
    have ee : b2i (I 125 34 < 0) = 0 := b2i_eq0.mpr p0
    have e4 : (¬ I 125 34 < 0 ∧ I 125 34 < I 138 (I 125 35).toNatClampNeg) ↔ I 0 12 < nI (E k2).length := by
      rw [e35, nI_clamp (by omega), (hM k2 h8).1, e12]
      exact ⟨fun h => by rw [← e34]; exact h.2, fun h => ⟨p0, by rw [e34]; exact h⟩⟩
    rw [ee, b2i_congr e4]
    exact AQz_ok th_0 hj.th
theorem s_next {M : PM} (hJ : JM M) : CallOK 2000 2 12 yL_next (Cond.codeWith yL_next cL_next 3 (some .int) [(0, 8, 11, 15), (0, 8, 14, 73)]) [.ref 0, .ref 148] 150 M (AF AQi yX10_next (Cond.code yX10_next cX10_next 1 (some .int)) [.ref 125]) := by
  obtain ⟨pr, sv, S, E, n, len, hR, hj⟩ := hJ
  obtain ⟨I, F, R, L, D⟩ := M
  have hR : R = RR pr sv := hR
  subst hR
  have hj : JI I F pr sv S E n len := hj
  have hj9 := hj
  obtain ⟨hb, ⟨hq, hE, hcat⟩, ⟨hC, hS, hM⟩, ⟨hD, hn⟩, ht, hfa, hcu, hrs, hsn, hf⟩ := hj9
  have hs8 : ∀ q ∈ S, q.1 < 8 := fun q h => (hq.2 q h).1
  have hk : EOK E := enS_ok (fun q h => ⟨(hq.2 q h).1, (hq.2 q h).2.1⟩) E0_ok hE
  have hn2 : n ≤ 16 := hD.2.2.1
  have hG : MG I E S := ⟨hM, hk, hS, hq⟩
  rcases hcu with ⟨c1, c2⟩ | ⟨k, c, h8, e11, e35, e12, e34, hc⟩
  · refine w_next (c_next (by omega) hb hk hC (fun w => absurd c1 w) (fun _ => HPi_ex (x := 1) rfl (AF_of ?_)) (fun k c h8 e11 => by rw [c1] at e11; exact absurd e11.symm (nI_neg1 (by omega))) (fun k c h8 e11 => by rw [c1] at e11; exact absurd e11.symm (nI_neg1 (by omega))))
    refine m_next (by omega) (fun w => absurd (by rw [c2]; decide) w) (fun w => absurd (by rw [c2]; decide) w) ?_
    rw [if_pos (by rw [c2]; decide)]
    exact AQi_ex (by decide) th_0 hj.th.th
  · have nn : ¬ I 0 11 = -1 := by rw [e11]; exact nI_neg1 (by omega)
    have hl := (hk k h8).2
    have p0 : ¬ nI c < 0 := nI_pos (by omega)
    refine w_next (c_next (by omega) hb hk hC (fun _ => ⟨k, c, h8, e11, e12, hc⟩) (fun w => absurd w nn) (fun k2 c2 h2 e2 e3 e4 => HPi_ex (x := 2) rfl (AF_of ?_)) (fun k2 c2 h2 e2 e3 e4 => HPi_ok (AF_of ?_)))
    · have ek := inr8 h8 h2 (e11.symm.trans e2)
      subst ek
      have ec : c2 = c := (nI_inj (by omega) (by omega) (e12.symm.trans e3)).symm
      subst ec
      refine m_next (by omega) (fun _ => by rw [e35]; exact vp_in_nI h8 (by decide)) (fun _ w => ?_) ?_
      · rw [e34, e35, nI_clamp (by omega), (hM k2 h8).1] at w
        have := (nI_ltI (by omega) (by omega)).mp w
        omega
      · rw [e34, e35, nI_clamp (by omega), (hM k2 h8).1, if_neg p0, if_neg (fun w => by have := (nI_ltI (by omega) (by omega)).mp w; omega)]
        exact AQi_ex (by decide) th_0 hj.th.th
    · have ek := inr8 h8 h2 (e11.symm.trans e2)
      subst ek
      have ec : c2 = c := (nI_inj (by omega) (by omega) (e12.symm.trans e3)).symm
      subst ec
      have g : ∀ a, a ≠ 0 → u2 I 0 12 (nI (c2 + 1)) a = I a := fun a ha => u2_ne _ _ _ ha
      have q34 : u2 I 0 12 (nI (c2 + 1)) 125 34 = nI c2 := by rw [g 125 (by decide)]; exact e34
      have q35 : u2 I 0 12 (nI (c2 + 1)) 125 35 = nI k2 := by rw [g 125 (by decide)]; exact e35
      have q138 : u2 I 0 12 (nI (c2 + 1)) 138 k2 = nI (E k2).length := by rw [g 138 (by decide)]; exact (hM k2 h8).1
      have ci : (200 : Int32) * nI k2 + nI c2 = nI (200 * k2 + c2) := ix200 k2 c2
      refine m_next (by omega) (fun _ => by rw [q35]; exact vp_in_nI h8 (by decide)) (fun _ w => by rw [q34, q35, ci]; exact vp_in_nI (by omega) (by decide)) ?_
      rw [q34, q35, nI_clamp (n := k2) (by omega), q138, if_neg p0, if_pos ((nI_ltI (by omega) (by omega)).mpr e4), ci, nI_clamp (n := 200 * k2 + c2) (by omega), g 137 (by decide), (hM k2 h8).2 c2 e4, nI_1]
      refine AQi_ok (by simp [u2]) (hj.cu (fun a h0 h5 => by rw [u2_ne _ _ _ h5, u2_ne _ _ _ h5, g a h0]) (fun j h1 h3 => by rw [u2_ne _ _ _ (by decide), u2_ne _ _ _ (by decide)]; simp [u2, h3]) (fun j h1 h3 h4 => by simp [u2, h1, h3]) (Or.inr ⟨k2, c2 + 1, h8, by rw [u2_ne _ _ _ (by decide), u2_ne _ _ _ (by decide)]; simp [u2]; exact e11, by simp [u2]; exact e35, by simp [u2], by simp [u2], e4⟩))
theorem s_isExact {M : PM} {a : Int32} (hJ : JM M) : CallOK 2000 1 6 yL_isExact (Cond.codeWith yL_isExact cL_isExact 4 (some .int) [(0, 16, 19, 31)]) [.ref 0, .int a, .ref 148] 150 M (AF AQz yX10_isExact (Cond.code yX10_isExact cX10_isExact 3 (some .boolean)) [.ref 125, .int a]) := by
  obtain ⟨pr, sv, S, E, n, len, hR, hj⟩ := hJ
  obtain ⟨I, F, R, L, D⟩ := M
  have hR : R = RR pr sv := hR
  subst hR
  have hj : JI I F pr sv S E n len := hj
  have hj9 := hj
  obtain ⟨hb, ⟨hq, hE, hcat⟩, ⟨hC, hS, hM⟩, ⟨hD, hn⟩, ht, hfa, hcu, hrs, hsn, hf⟩ := hj9
  have hs8 : ∀ q ∈ S, q.1 < 8 := fun q h => (hq.2 q h).1
  have hk : EOK E := enS_ok (fun q h => ⟨(hq.2 q h).1, (hq.2 q h).2.1⟩) E0_ok hE
  have hn2 : n ≤ 16 := hD.2.2.1
  have hG : MG I E S := ⟨hM, hk, hS, hq⟩
  refine w_isExact (c_isExact (by omega) hb hC (fun k h8 e => HPz_ok (AF_of ?_)) (fun w => HPz_ex (x := 1) rfl (AF_of ?_)))
  · subst e
    refine m_isExact (by omega) hM hk hS hq.1 hs8 ⟨fun k2 h2 e2 => ?_, fun w => absurd (rng8 h8) w⟩
    have e3 := inr8 h8 h2 e2
    subst e3
    have e4 : (knd E S k2 < 2 ∨ knd E S k2 = 2 ∧ (I 126 1 = 0 ∨ ¬ opr E k2 ≤ 4)) ↔ (knd E S k2 < 2 ∨ knd E S k2 = 2 ∧ (I 11 0 = 0 ∨ ¬ opr E k2 ≤ 4)) := by rw [hD.1]
    rw [b2i_congr e4]
    exact AQz_ok th_0 hj.th
  · exact m_isExact (by omega) hM hk hS hq.1 hs8 ⟨fun k2 h2 e2 => absurd (e2 ▸ rng8 h2) w, fun _ => AQz_ex (by decide) th_0 hj.th⟩
theorem s_result {M : PM} {a : Int32} (hJ : JM M) : CallOK 2000 2 12 yL_result (Cond.codeWith yL_result cL_result 4 (some .int) [(0, 9, 12, 31), (0, 9, 15, 15)]) [.ref 0, .int a, .ref 148] 150 M (AF AQi yX10_result (Cond.code yX10_result cX10_result 2 (some .int)) [.ref 125, .int a]) := by
  obtain ⟨pr, sv, S, E, n, len, hR, hj⟩ := hJ
  obtain ⟨I, F, R, L, D⟩ := M
  have hR : R = RR pr sv := hR
  subst hR
  have hj : JI I F pr sv S E n len := hj
  have hj9 := hj
  obtain ⟨hb, ⟨hq, hE, hcat⟩, ⟨hC, hS, hM⟩, ⟨hD, hn⟩, ht, hfa, hcu, hrs, hsn, hf⟩ := hj9
  have hs8 : ∀ q ∈ S, q.1 < 8 := fun q h => (hq.2 q h).1
  have hk : EOK E := enS_ok (fun q h => ⟨(hq.2 q h).1, (hq.2 q h).2.1⟩) E0_ok hE
  have hn2 : n ≤ 16 := hD.2.2.1
  have hG : MG I E S := ⟨hM, hk, hS, hq⟩
  refine w_result (c_result (by omega) (fun k h8 e w => HPi_ok (AF_of ?_)) (fun k h8 e w => HPi_ex (x := 2) rfl (AF_of ?_)) (fun w => HPi_ex (x := 1) rfl (AF_of ?_)))
  · subst e
    refine m_result (by omega) (fun w2 => absurd (rng8 h8) w2) (fun k2 h2 e2 w2 => absurd (hrs.1.symm.trans w) w2) (fun k2 h2 e2 w2 => ?_)
    have e3 := inr8 h8 h2 e2
    subst e3
    rw [← hrs.2.2.1 w2 k2 h8]
    exact AQi_ok th_0 hj.th
  · subst e
    exact m_result (by omega) (fun w2 => absurd (rng8 h8) w2) (fun k2 h2 e2 w2 => AQi_ex (by decide) th_0 hj.th.th) (fun k2 h2 e2 w2 => absurd (hrs.1.trans w2) w)
  · exact m_result (by omega) (fun _ => AQi_ex (by decide) th_0 hj.th.th) (fun k2 h2 e2 w2 => absurd (e2 ▸ rng8 h2) w) (fun k2 h2 e2 w2 => absurd (e2 ▸ rng8 h2) w)
theorem s_resultFloat {M : PM} {a : Int32} (hJ : JM M) : CallOK 2000 2 12 yL_resultFloat (Cond.codeWith yL_resultFloat cL_resultFloat 4 (some .int) [(0, 9, 12, 31), (0, 9, 15, 15)]) [.ref 0, .int a, .ref 149] 150 M (AF AQf yX10_resultFloat (Cond.code yX10_resultFloat cX10_resultFloat 2 (some .float)) [.ref 125, .int a]) := by
  obtain ⟨pr, sv, S, E, n, len, hR, hj⟩ := hJ
  obtain ⟨I, F, R, L, D⟩ := M
  have hR : R = RR pr sv := hR
  subst hR
  have hj : JI I F pr sv S E n len := hj
  have hj9 := hj
  obtain ⟨hb, ⟨hq, hE, hcat⟩, ⟨hC, hS, hM⟩, ⟨hD, hn⟩, ht, hfa, hcu, hrs, hsn, hf⟩ := hj9
  have hs8 : ∀ q ∈ S, q.1 < 8 := fun q h => (hq.2 q h).1
  have hk : EOK E := enS_ok (fun q h => ⟨(hq.2 q h).1, (hq.2 q h).2.1⟩) E0_ok hE
  have hn2 : n ≤ 16 := hD.2.2.1
  have hG : MG I E S := ⟨hM, hk, hS, hq⟩
  refine w_resultFloat (c_resultFloat (by omega) (fun k h8 e w => HPf_ok (df_n64 (f2d_df (hf.1 16 k (by decide) h8))) (AF_of ?_)) (fun k h8 e w => HPf_ex (x := 2) rfl (AF_of ?_)) (fun w => HPf_ex (x := 1) rfl (AF_of ?_)))
  · subst e
    refine m_resultFloat (by omega) (fun w2 => absurd (rng8 h8) w2) (fun k2 h2 e2 w2 => absurd (hrs.1.symm.trans w) w2) (fun k2 h2 e2 w2 => ?_)
    have e3 := inr8 h8 h2 e2
    subst e3
    exact AQf_ok th_0 (hrs.2.2.2.1 w2 k2 h8) hj.th
  · subst e
    exact m_resultFloat (by omega) (fun w2 => absurd (rng8 h8) w2) (fun k2 h2 e2 w2 => AQf_ex (by decide) th_0 hj.th.th) (fun k2 h2 e2 w2 => absurd (hrs.1.trans w2) w)
  · exact m_resultFloat (by omega) (fun _ => AQf_ex (by decide) th_0 hj.th.th) (fun k2 h2 e2 w2 => absurd (e2 ▸ rng8 h2) w) (fun k2 h2 e2 w2 => absurd (e2 ▸ rng8 h2) w)
theorem s_cost {M : PM} {a b : Int32} (hJ : JM M) : CallOK 2000 2 12 yL_cost (Cond.codeWith yL_cost cL_cost 5 (some .int) [(0, 10, 13, 13), (0, 10, 17, 15)]) [.ref 0, .int a, .int b, .ref 148] 150 M (AF AQi yX10_cost (Cond.code yX10_cost cX10_cost 3 (some .int)) [.ref 125, .int a, .int b]) := by
  obtain ⟨pr, sv, S, E, n, len, hR, hj⟩ := hJ
  obtain ⟨I, F, R, L, D⟩ := M
  have hR : R = RR pr sv := hR
  subst hR
  have hj : JI I F pr sv S E n len := hj
  have hj9 := hj
  obtain ⟨hb, ⟨hq, hE, hcat⟩, ⟨hC, hS, hM⟩, ⟨hD, hn⟩, ht, hfa, hcu, hrs, hsn, hf⟩ := hj9
  have hs8 : ∀ q ∈ S, q.1 < 8 := fun q h => (hq.2 q h).1
  have hk : EOK E := enS_ok (fun q h => ⟨(hq.2 q h).1, (hq.2 q h).2.1⟩) E0_ok hE
  have hn2 : n ≤ 16 := hD.2.2.1
  have hG : MG I E S := ⟨hM, hk, hS, hq⟩
  refine w_cost (c_cost (by omega) hb hC hq hD.2.1 hn2 (fun w => HPi_ex (x := 1) rfl (AF_of ?_)) (fun w w1 w2 => HPi_ex (x := 2) rfl (AF_of ?_)) (fun k m w w1 h3 e hw => HPi_ok (AF_of ?_)))
  · exact m_cost (by omega) hG hn hn2 (fun _ => AQi_ex (by decide) th_0 hj.th.th) (fun w3 _ _ => absurd w3 w) (fun k m w3 _ _ _ _ => absurd w3 w)
  · exact m_cost (by omega) hG hn hn2 (fun w3 => absurd w w3) (fun _ _ _ => AQi_ex (by decide) th_0 hj.th.th) (fun k m w3 w4 _ _ _ => w4.elim (fun q => absurd q w1) (fun q => absurd q w2))
  · refine m_cost (by omega) hG hn hn2 (fun w3 => absurd w w3) (fun _ w3 w4 => w1.elim (fun q => absurd q w3) (fun q => absurd q w4)) (fun k2 m2 _ _ h32 e2 hw2 => ?_)
    obtain ⟨ek, em⟩ := wds h3 h32 e e2 hw hw2
    subst ek
    have e5 : cst E S n k2 m2 = cst E S n k2 m := em.elim (fun q => cst_w q) (fun q => by rw [q])
    rw [e5]
    exact AQi_ok th_0 hj.th
