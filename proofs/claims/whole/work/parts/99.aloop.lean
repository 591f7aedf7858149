/-! ===== the law's loop, and its start ===== -/
theorem li_in {t j L : Nat} (h : 4 * t + 4 ≤ L) (hL : L ≤ 2048) (hj : j < 4) : vp_in (nI (4 * t) + nI j) L := by
  rw [nI_add]
  exact vp_in_nI (by omega) (by omega)
theorem li_cmp {t L : Nat} (ht : 4 * t ≤ 2048) (hL : L ≤ 2048) : (nI L - 4 < nI (4 * t)) ↔ L < 4 * t + 4 := by
  have e4 : (nI L - 4 : Int32).toInt = (L : Int) - 4 := by
    rw [Int32.toInt_sub, nI_toInt (by omega), show (4 : Int32).toInt = 4 by decide]
    exact Int.bmod_eq_of_le (by omega) (by omega)
  rw [Int32.lt_iff_toInt_lt, e4, nI_toInt (by omega)]
  omega
section
variable {J : KT} {b L : Nat} {xs : Nat → Int32}
theorem law_loop (hJ : HJ (tL_law b L xs) J) (hL : L ≤ 2048) : ∀ (m t : Nat) (lv : LV) (cs ss : Nat) (M : PM), m + t = 513 → 4 * t ≤ L → LVL b (nI (4 * t)) lv → JM M → cs ≤ 150 + 3 * t → ss ≤ 13504 + 18 * t → J 28 lv [] (150, cs, ss) M := by
  intro m
  induction m with
  | zero => intro t lv cs ss M h1 h2; omega
  | succ m ih =>
    intro t lv cs ss M hm ht hl hM hc hs
    refine g_ild hJ lL_law_28 hl.2.2.2.2.2.1 (g_ald hJ lL_law_30 hl.1 (hj1 hJ lL_law_31 ⟨rfl, ?_⟩))
    refine hj1 hJ lL_law_32 (hj1 hJ lL_law_33 (hj1 hJ lL_law_34 ⟨fun _ => ?_, fun w => ?_⟩))
    · exact hj1 hJ lL_law_1662 (hj1 hJ lL_law_1663 ⟨rfl, by show cs ≤ 601024; omega, by show ss ≤ 7293034; omega⟩)
    · have w : ¬ (nI L - 4 < nI (4 * t)) := w
      rw [li_cmp (by omega) hL] at w
      have hin : 4 * t + 4 ≤ L := by omega
      have hi : ILn (nI (4 * t)) L := ⟨li_in (j := 1) hin hL (by decide), li_in (j := 2) hin hL (by decide), li_in (j := 3) hin hL (by decide)⟩
      have hk : LC J b cs ss (nI (4 * t)) := by
        intro lv2 cs2 ss2 M2 hl2 hM2 h1 h2
        refine hj1 hJ lL_law_1656 ?_
        unfold oInc
        rw [hl2.2.2.2.2.2.1]
        refine hj1 hJ lL_law_1659 ?_
        have e5 : nI (4 * t) + 4 = nI (4 * (t + 1)) := by rw [show (4 : Int32) = nI 4 from rfl, nI_add]; rfl
        show J 28 (lset lv2 5 (.int (nI (4 * t) + 4))) [] (150, cs2, ss2) M2
        rw [e5]
        exact ih (t + 1) _ cs2 ss2 M2 (by omega) (by omega) ⟨lset_ne hl2.1 (by decide) rfl, lset_ne hl2.2.1 (by decide) rfl, lset_ne hl2.2.2.1 (by decide) rfl, lset_ne hl2.2.2.2.1 (by decide) rfl, lset_ne hl2.2.2.2.2.1 (by decide) rfl, lset_at, lset_rok hl2.2.2.2.2.2.2 trivial⟩ hM2 (by omega) (by omega)
      have h1 : cs + 3 ≤ 601024 := by omega
      have h2 : ss + 18 ≤ 7293034 := by omega
      refine g_ald hJ lL_law_37 hl.1 (g_ild hJ lL_law_38 hl.2.2.2.2.2.1 (hj1 hJ lL_law_40 ⟨rfl, vp_in_nI (by omega) (by omega), ?_⟩))
      refine hj1 hJ lL_law_41 (hj1 hJ lL_law_43 (hj1 hJ lL_law_44 ⟨fun q hq e => ?_, fun _ => hk lv cs ss M hl hM (by omega) (by omega)⟩))
      simp only [List.mem_cons, List.not_mem_nil, or_false] at hq
      rcases hq with rfl | rfl | rfl | rfl | rfl | rfl | rfl | rfl | rfl | rfl | rfl | rfl | rfl | rfl | rfl | rfl | rfl | rfl | rfl | rfl | rfl | rfl | rfl | rfl | rfl | rfl | rfl | rfl | rfl
      · exact law_0 hJ hl hi hM h1 h2 hk
      · exact law_1 hJ hl hi hM h1 h2 hk
      · exact law_2 hJ hl hi hM h1 h2 hk
      · exact law_3 hJ hl hi hM h1 h2 hk
      · exact law_4 hJ hl hi hM h1 h2 hk
      · exact law_5 hJ hl hi hM h1 h2 hk
      · exact law_6 hJ hl hi hM h1 h2 hk
      · exact law_7 hJ hl hi hM h1 h2 hk
      · exact law_8 hJ hl hi hM h1 h2 hk
      · exact law_9 hJ hl hi hM h1 h2 hk
      · exact law_10 hJ hl hi hM h1 h2 hk
      · exact law_11 hJ hl hi hM h1 h2 hk
      · exact law_12 hJ hl hi hM h1 h2 hk
      · exact law_13 hJ hl hi hM h1 h2 hk
      · exact law_14 hJ hl hi hM h1 h2 hk
      · exact law_15 hJ hl hi hM h1 h2 hk
      · exact law_16 hJ hl hi hM h1 h2 hk
      · exact law_17 hJ hl hi hM h1 h2 hk
      · exact law_18 hJ hl hi hM h1 h2 hk
      · exact law_19 hJ hl hi hM h1 h2 hk
      · exact law_20 hJ hl hi hM h1 h2 hk
      · exact law_21 hJ hl hi hM h1 h2 hk
      · exact law_22 hJ hl hi hM h1 h2 hk
      · exact law_23 hJ hl hi hM h1 h2 hk
      · exact law_24 hJ hl hi hM h1 h2 hk
      · exact law_25 hJ hl hi hM h1 h2 hk
      · exact law_26 hJ hl hi hM h1 h2 hk
      · exact law_27 hJ hl hi hM h1 h2 hk
      · exact law_28 hJ hl hi hM h1 h2 hk
end
theorem jm_0 {I I9 : Nat → Nat → Int32} (hK : KS 125 I R9) (hZ : Z9 I) (hM : ME I9 E0) (hE : EF (u2 (u2 (u2 I 125 8 (-1)) 125 29 (-1)) 125 34 (-1)) I9) : JM (mk I9 (RR 65 none)) := by
  obtain ⟨z10, z11, z12, z13, z1, zd, zC⟩ := hZ
  have lo : ∀ a, a < 125 → I9 a = I a := fun a ha => by rw [hE.1 a (by simp; omega), u2_ne _ _ _ (by omega), u2_ne _ _ _ (by omega), u2_ne _ _ _ (by omega)]
  have hi : ∀ a, 125 < a → a ≠ 137 → a ≠ 138 → a ≠ 139 → I9 a = fun _ => 0 := fun a h1 h2 h3 h4 => by rw [hE.1 a (by simp; omega), u2_ne _ _ _ (by omega), u2_ne _ _ _ (by omega), u2_ne _ _ _ (by omega)]; exact hK.1 a (by omega)
  have z5 : I 125 = fun _ => 0 := hK.1 125 (by decide)
  have e3 : I9 125 3 = 0 := by rw [hE.2 3 (by decide)]; simp [u2, z5]
  have e6 : I9 125 6 = 0 := by rw [hE.2 6 (by decide)]; simp [u2, z5]
  have e8 : I9 125 8 = -1 := by rw [hE.2 8 (by decide)]; simp [u2]
  have e29 : I9 125 29 = -1 := by rw [hE.2 29 (by decide)]; simp [u2]
  have e34 : I9 125 34 = -1 := by rw [hE.2 34 (by decide)]; simp [u2]
  have h126 := hi 126 (by decide) (by decide) (by decide) (by decide)
  have fz : Fn 0 := fn_0
  refine ⟨65, none, [], E0, 0, 0, rfl, Or.inl rfl, ⟨⟨Nat.zero_le _, fun q h => absurd h List.not_mem_nil⟩, rfl, Nat.zero_le _⟩, ⟨CPR_cg zC (fun a h1 h2 => lo a (by omega)), ⟨?_, fun k hk => absurd hk (Nat.not_lt_zero k)⟩, hM⟩, ⟨⟨?_, ?_, Nat.zero_le _, Or.inl ?_, fun a i ha hi9 => ?_, fun v hv => ?_, fun v hv => ?_⟩, ?_⟩, ⟨?_, ?_, Nat.zero_le _, fun j hj => absurd hj (Nat.not_lt_zero j), fun j hj => absurd hj (Nat.not_lt_zero j)⟩, ?_, Or.inl ⟨?_, e34⟩, ⟨?_, Or.inl e29, fun z => ?_, fun z => ?_, fun v hv => fz⟩, Or.inl ⟨rfl, e3⟩, ⟨fun t v _ _ => fz, fun j => fz⟩⟩
  · show I9 126 0 = nI 0
    rw [h126]; rfl
  · show I9 11 0 = I9 126 1
    rw [h126, lo 11 (by decide)]; exact zd 11 (by decide) (by decide) 0
  · show I9 11 1 = nI 0
    rw [lo 11 (by decide)]; exact zd 11 (by decide) (by decide) 1
  · show I9 126 1 = 0
    rw [h126]
  · show I9 (13 + a) i = elN (I9 126) a i
    unfold elN
    rw [h126, lo _ (by omega)]; exact zd _ (by omega) (by omega) i
  · show I9 16 v = inN (I9 126) v
    unfold inN
    rw [h126, lo _ (by omega)]; exact zd _ (by omega) (by omega) v
  · show (inN (I9 126) v).toInt.natAbs ≤ 999
    unfold inN
    rw [h126]
    show (0 : Int32).toInt.natAbs ≤ 999
    decide
  · show I9 126 2 = nI 0
    rw [h126]; rfl
  · show I9 1 1 = nI 0
    rw [lo 1 (by decide)]; exact z1
  · exact e6
  · show I9 0 10 = I9 125 8
    rw [lo 0 (by decide), e8]; exact z10
  · show I9 0 11 = -1
    rw [lo 0 (by decide)]; exact z11
  · show I9 0 13 = I9 125 29
    rw [lo 0 (by decide), e29]; exact z13
  · exact absurd (e29.symm.trans z) (by decide)
  · exact absurd (e29.symm.trans z) (by decide)
theorem lv_ast {lv : LV} {n k c x : Nat} (h : ∀ j v, lv j = some v → rokV n v) (hx : x < n) : ∀ j v, lset lv k (.ref x) j = some v → rokV n v := lset_rok h (Or.inl hx)
theorem law_all {J : KT} {b L : Nat} {xs : Nat → Int32} (hJ : HJ (tL_law b L xs) J) (hL : L ≤ 2048) : J 0 (entA 0 [.ref (1000000 + b)]) [] (0, 0, 0) M00 := by
  have l0 : ∀ j v, entA 0 [.ref (1000000 + b)] j = some v → rokV 0 v := fun j v hv => by
    unfold entA at hv
    by_cases e : j = 0
    · rw [if_pos e] at hv; cases hv; exact Or.inr (Nat.le_add_right _ _)
    · rw [if_neg e] at hv; cases hv
  have k0 : KS 0 (fun _ _ => 0) (fun _ _ => none) := ⟨fun _ _ => rfl, fun _ _ => rfl, fun _ _ _ _ h => by cases h⟩
  have k1 : KS 1 (fun _ _ => 0) (fun _ _ => none) := ks_up k0 (by decide)
  have lu : ∀ {lv : LV} {n m : Nat}, (∀ j v, lv j = some v → rokV n v) → n ≤ m → ∀ j v, lv j = some v → rokV m v := fun h hm j v hv => rok_up hm (h j v hv)
  show J 0 _ [] (0, 0, 0) (mk (fun _ _ => 0) (fun _ _ => none))
  refine hj1 hJ lL_law_0 ⟨⟨sh_0, Nat.le_of_ble_eq_true rfl, Nat.le_of_ble_eq_true rfl, Nat.le_of_ble_eq_true rfl, ks_cl k0, l0, fun v hv => absurd hv List.not_mem_nil⟩, ?_⟩
  show J 3 _ [.ref 0] (1, 1, 14) (zM (mk (fun _ _ => 0) (fun _ _ => none)) 0)
  rw [ks_zM k0]
  refine hj1 hJ lL_law_3 ⟨rfl, ?_⟩
  show J 4 _ [.ref 0, .ref 0] (1, 1, 14) (mk (fun _ _ => 0) (fun _ _ => none))
  refine hj1 hJ lL_law_4 ⟨⟨Nat.le_of_ble_eq_true rfl, Nat.le_of_ble_eq_true rfl, Nat.le_of_ble_eq_true rfl, Nat.le_of_ble_eq_true rfl, lu l0 (by decide), fun v hv => ?_, 0, [], rfl⟩, k_X9 (by omega) (fun I1 hK1 hZ => ?_)⟩
  · have hv : v = .ref 0 := by simpa using hv
    subst hv
    exact Or.inl (by decide)
  show J 7 _ [.ref 0] (125, 125, 7653) (mk I1 R9)
  refine hj1 hJ lL_law_7 ?_
  show J 8 (lset (entA 0 [.ref (1000000 + b)]) 1 (.ref 0)) [] (125, 125, 7653) (mk I1 R9)
  have l1 : ∀ j v, lset (entA 0 [.ref (1000000 + b)]) 1 (.ref 0) j = some v → rokV 125 v := lset_rok (lu l0 (by decide)) (Or.inl (by decide))
  have q10 : lset (entA 0 [.ref (1000000 + b)]) 1 (.ref 0) 0 = some (.ref (1000000 + b)) := lset_ne rfl (by decide) rfl
  have q11 : lset (entA 0 [.ref (1000000 + b)]) 1 (.ref 0) 1 = some (.ref 0) := lset_at
  generalize lset (entA 0 [.ref (1000000 + b)]) 1 (.ref 0) = lv1 at l1 q10 q11 ⊢
  refine hj1 hJ lL_law_8 ⟨⟨sh_125, Nat.le_of_ble_eq_true rfl, Nat.le_of_ble_eq_true rfl, Nat.le_of_ble_eq_true rfl, ks_cl hK1, l1, fun v hv => absurd hv List.not_mem_nil⟩, ?_⟩
  show J 11 _ [.ref 125] (126, 126, 7689) (zM (mk I1 R9) 125)
  rw [ks_zM hK1]
  refine hj1 hJ lL_law_11 ⟨rfl, ?_⟩
  show J 12 _ [.ref 125, .ref 125] (126, 126, 7689) (mk I1 R9)
  refine hj1 hJ lL_law_12 ⟨⟨Nat.le_of_ble_eq_true rfl, Nat.le_of_ble_eq_true rfl, Nat.le_of_ble_eq_true rfl, Nat.le_of_ble_eq_true rfl, lu l1 (by decide), fun v hv => ?_, 125, [], rfl⟩, k_X10 (by omega) (hK1.1 125 (by decide)) (ks_up hK1 (by decide)) (fun I2 hM2 hE2 => ?_)⟩
  · have hv : v = .ref 125 := by simpa using hv
    subst hv
    exact Or.inl (by decide)
  show J 15 _ [.ref 125] (148, 148, 13502) (mk I2 (RR 65 none))
  refine hj1 hJ lL_law_15 ?_
  show J 16 (lset lv1 2 (.ref 125)) [] (148, 148, 13502) (mk I2 (RR 65 none))
  have l2 : ∀ j v, lset lv1 2 (.ref 125) j = some v → rokV 148 v := lset_rok (lu l1 (by decide)) (Or.inl (by decide))
  have q20 : lset lv1 2 (.ref 125) 0 = some (.ref (1000000 + b)) := lset_ne q10 (by decide) rfl
  have q21 : lset lv1 2 (.ref 125) 1 = some (.ref 0) := lset_ne q11 (by decide) rfl
  have q22 : lset lv1 2 (.ref 125) 2 = some (.ref 125) := lset_at
  generalize lset lv1 2 (.ref 125) = lv2 at l2 q20 q21 q22 ⊢
  have hJM : JM (mk I2 (RR 65 none)) := jm_0 hK1 hZ hM2 hE2
  have hK2 : KS 148 I2 (RR 65 none) := by
    refine ⟨fun a ha => ?_, fun a ha => ?_, fun a k r ha hr => ?_⟩
    · rw [hE2.1 a (by simp; omega), u2_ne _ _ _ (by omega), u2_ne _ _ _ (by omega), u2_ne _ _ _ (by omega)]; exact hK1.1 a (by omega)
    · funext k
      by_cases e : a < 150
      · have : a = 148 ∨ a = 149 := by omega
        rcases this with rfl | rfl <;> rfl
      · exact br_RR a k (Or.inl (by omega))
    · by_cases e : k < 40
      · have hd : ∀ a, a < 148 → ∀ k, k < 40 → ∀ r, RR 65 none a k = some r → r < 148 := by
          have h9 : ∀ a, a < 148 → ∀ k, k < 40 → (match RR 65 none a k with | some r => Nat.blt r 148 | none => true) = true := by decide +kernel
          intro a ha k hk r hr
          have := h9 a ha k hk
          rw [hr] at this
          exact Nat.le_of_ble_eq_true this
        exact hd a ha k e r hr
      · rw [br_RR a k (Or.inr (by omega))] at hr; cases hr
  refine hj1 hJ lL_law_16 (hj1 hJ lL_law_17 ⟨⟨sh_148, by decide, Nat.le_of_ble_eq_true rfl, Nat.le_of_ble_eq_true rfl, Nat.le_of_ble_eq_true rfl, Nat.le_of_ble_eq_true rfl, ks_cl hK2, l2, fun v hv => absurd hv List.not_mem_nil⟩, ?_⟩)
  show J 19 lv2 [.ref 148] (149, 149, 13503) (zM (mk I2 (RR 65 none)) 148)
  rw [ks_zM hK2]
  refine hj1 hJ lL_law_19 ?_
  show J 20 (lset lv2 3 (.ref 148)) [] (149, 149, 13503) (mk I2 (RR 65 none))
  have l3 : ∀ j v, lset lv2 3 (.ref 148) j = some v → rokV 149 v := lset_rok (lu l2 (by decide)) (Or.inl (by decide))
  have q30 : lset lv2 3 (.ref 148) 0 = some (.ref (1000000 + b)) := lset_ne q20 (by decide) rfl
  have q31 : lset lv2 3 (.ref 148) 1 = some (.ref 0) := lset_ne q21 (by decide) rfl
  have q32 : lset lv2 3 (.ref 148) 2 = some (.ref 125) := lset_ne q22 (by decide) rfl
  have q33 : lset lv2 3 (.ref 148) 3 = some (.ref 148) := lset_at
  generalize lset lv2 3 (.ref 148) = lv3 at l3 q30 q31 q32 q33 ⊢
  have hK3 : KS 149 I2 (RR 65 none) := ks_up hK2 (by decide)
  refine hj1 hJ lL_law_20 (hj1 hJ lL_law_21 ⟨⟨sh_149, by decide, Nat.le_of_ble_eq_true rfl, Nat.le_of_ble_eq_true rfl, Nat.le_of_ble_eq_true rfl, Nat.le_of_ble_eq_true rfl, ks_cl hK3, l3, fun v hv => absurd hv List.not_mem_nil⟩, ?_⟩)
  show J 23 lv3 [.ref 149] (150, 150, 13504) (zM (mk I2 (RR 65 none)) 149)
  rw [ks_zM hK3]
  refine hj1 hJ lL_law_23 (hj1 hJ lL_law_25 (hj1 hJ lL_law_26 ?_))
  show J 28 (lset (lset lv3 4 (.ref 149)) 5 (.int (nI (4 * 0)))) [] (150, 150, 13504) (mk I2 (RR 65 none))
  refine law_loop hJ hL 513 0 _ 150 13504 _ rfl (Nat.zero_le _) ⟨lset_ne (lset_ne q30 (by decide) rfl) (by decide) rfl, lset_ne (lset_ne q31 (by decide) rfl) (by decide) rfl, lset_ne (lset_ne q32 (by decide) rfl) (by decide) rfl, lset_ne (lset_ne q33 (by decide) rfl) (by decide) rfl, lset_ne lset_at (by decide) rfl, lset_at, lset_rok (lset_rok (lu l3 (by decide)) (Or.inl (by decide))) trivial⟩ hJM (Nat.le_refl _) (Nat.le_refl _)
