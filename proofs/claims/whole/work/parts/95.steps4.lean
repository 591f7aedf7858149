theorem s_execute {M : PM} {a b : Int32} (hJ : JM M) : CallOK 2000 3 18 yL_execute (Cond.codeWith yL_execute cL_execute 5 (some .int) [(0, 10, 13, 13), (0, 10, 17, 49), (0, 10, 21, 15)]) [.ref 0, .int a, .int b, .ref 148] 150 M (AF AQi yX10_execute (Cond.code yX10_execute cX10_execute 5 (some .int)) [.ref 125, .int a, .int b]) := by
  obtain ⟨pr, sv, S, E, n, len, hR, hj⟩ := hJ
  obtain ⟨I, F, R, L, D⟩ := M
  have hR : R = RR pr sv := hR
  subst hR
  have hj : JI I F pr sv S E n len := hj
  have hj9 := hj
  obtain ⟨hb, ⟨hq, hE, hcat⟩, ⟨hC, hS, hM⟩, ⟨hD, hn⟩, ht, hfa, hcu, hrs, hsn, hf⟩ := hj9
  have hs8 : ∀ q ∈ S, q.1 < 8 := fun q h => (hq.2 q h).1
  have hk : EOK E := enS_ok (fun q h => ⟨(hq.2 q h).1, (hq.2 q h).2.1⟩) E0_ok hE
  have hn2 : n ≤ 16 := hD.2.2.1
  have hG : MG I E S := ⟨hM, hk, hS, hq⟩
  refine w_execute (c_execute (N := I 126) (by omega) hb (fun q h => ⟨(hq.2 q h).1, (hq.2 q h).2.1⟩) hE hq hcat hC hD hf (fun w => HPi_ex (x := 1) rfl (AF_of ?_)) (fun w w1 w2 => HPi_ex (x := 2) rfl (AF_of ?_)) (fun w w1 w2 w3 => HPi_ex (x := 3) rfl (AF_of ?_)) (fun k m I1 F1 w w1 w2 h3 e hw e13 hi hg hfr hf1 hC1 => HPi_ok (AF_of ?_)))
  · exact m_execute (by omega) hG hn hn2 hD.2.2.2.1 (fun _ => AQi_ex (by decide) th_0 hj.th.th) (fun w3 _ _ => absurd w3 w) (fun w3 _ _ _ => absurd w3 w) (fun k m I' F' w3 _ _ _ _ _ _ _ _ _ _ => absurd w3 w)
  · exact m_execute (by omega) hG hn hn2 hD.2.2.2.1 (fun w3 => absurd w w3) (fun _ _ _ => AQi_ex (by decide) th_0 hj.th.th) (fun _ q _ _ => absurd ⟨w1, w2⟩ q) (fun k m I' F' _ q _ _ _ _ _ _ _ _ _ => absurd ⟨w1, w2⟩ q)
  · exact m_execute (by omega) hG hn hn2 hD.2.2.2.1 (fun w4 => absurd w w4) (fun _ q1 q2 => absurd ⟨q1, q2⟩ w1) (fun _ _ _ _ => AQi_ex (by decide) th_0 hj.th.th) (fun k m I' F' _ _ q _ _ _ _ _ _ _ _ => q.elim (fun z => absurd z w2) (fun z => absurd z w3))
  · have g : ∀ a, a ≠ 0 → (a < 23 ∨ 64 < a) → I1 a = I a := hfr.1
    have g126 := g 126 (by decide) (by decide)
    have g125 := g 125 (by decide) (by decide)
    have hG1 : MG I1 E S := ⟨ME_cg hM (g 137 (by decide) (by decide)) (g 138 (by decide) (by decide)), hk, MSt_cg hS g126, hq⟩
    refine m_execute (by omega) hG1 (by rw [g126]; exact hn) hn2 (by rw [g126]; exact hD.2.2.2.1) (fun w4 => absurd w w4) (fun _ q1 q2 => absurd ⟨by rw [← g126]; exact q1, q2⟩ w1) (fun _ _ q1 q2 => w2.elim (fun z => absurd z q1) (fun z => absurd z q2)) (fun k2 m2 I2 F2 _ _ _ h32 e2 hw2 hi2 hf2 e29 e0 hy => ?_)
    obtain ⟨ek, em⟩ := wds h3 h32 e e2 hw hw2
    subst ek
    have xI : ∀ v, exI E S (I1 126) k2 m2 n v = exI E S (I 126) k2 m n v := fun v => by rw [g126]; exact em.elim (fun q => exI_w q) (fun q => by rw [q])
    have xF : ∀ v, exF E S (I1 126) k2 m2 n v = exF E S (I 126) k2 m n v := fun v => by rw [g126]; exact em.elim (fun q => exF_w q) (fun q => by rw [q])
    have ec : cnt (cgI (I1 126) (exI E S (I1 126) k2 m2 n) (exF E S (I1 126) k2 m2 n)) 8 = (if I 126 1 = 0 then cnt (chgI (I1 41) (inN (I 126))) 8 else cnt (chgF (F1 62) (inN (I 126))) 8) := by
      by_cases z : I 126 1 = 0
      · rw [if_pos z]
        refine cnt_cg 8 (fun v hv => ?_)
        unfold cgI chgI
        rw [xI v, xF v, g126, if_pos z, hi z v hv, exg_I z]
        rfl
      · have z1 : I 126 1 = 1 := hD.2.2.2.1.elim (fun q => absurd q z) id
        rw [if_neg z]
        refine cnt_cg 8 (fun v hv => ?_)
        unfold cgI chgF
        rw [xI v, xF v, g126, if_neg z, hg z1 v hv, (exg_F hq z hv).cmp (ZR.refl (i2f_fn (inN (I 126) v)))]
        rfl
    rw [ec]
    have a2 : ∀ a, a ≠ 0 → a ≠ 125 → (a < 23 ∨ 64 < a) → a ≠ 140 → a ≠ 142 → a ≠ 144 → a ≠ 146 → I2 a = I a := fun a h0 h5 h6 z1 z2 z3 z4 => by rw [hy.1 a (by simp [z1, z2, z3, z4]) h5]; exact g a h0 h6
    have b2 : ∀ j, j ≠ 24 → j ≠ 0 → j ≠ 29 → I2 125 j = I 125 j := fun j h1 h2 h3 => by rw [hy.2.1 j h1 h2 h3, g125]
    have c2 : ∀ j, j ≠ 13 → I2 0 j = I 0 j := fun j h1 => by rw [hy.1 0 (by decide) (by decide)]; exact hfr.2.1 j h1
    have c13 : I2 0 13 = I 126 1 := by rw [hy.1 0 (by decide) (by decide)]; exact e13
    have i41 : I2 41 = I1 41 := hy.1 41 (by decide) (by decide)
    have f62 : F2 62 = F1 62 := hy.2.2 62 (by decide)
    have hpb := pb_lt hb
    refine AQi_ok e0 (show JI I2 F2 pr sv S E n len from ⟨hb, ⟨hq, hE, hcat⟩, ⟨CPR_cg hC1 (fun a h1 h2 => hy.1 a (by simp; omega) (by omega)), MSt_cg hS (a2 126 (by decide) (by decide) (by decide) (by decide) (by decide) (by decide) (by decide)), ME_cg hM (a2 137 (by decide) (by decide) (by decide) (by decide) (by decide) (by decide) (by decide)) (a2 138 (by decide) (by decide) (by decide) (by decide) (by decide) (by decide) (by decide))⟩, ⟨DDx_cg (T := 11) (nb := 126) hD (fun a h1 h2 => a2 a (by omega) (by omega) (by omega) (by omega) (by omega) (by omega) (by omega)) (a2 126 (by decide) (by decide) (by decide) (by decide) (by decide) (by decide) (by decide)), by rw [a2 126 (by decide) (by decide) (by decide) (by decide) (by decide) (by decide) (by decide)]; exact hn⟩, ?_, by rw [c2 10 (by decide), b2 8 (by decide) (by decide) (by decide)]; exact hfa, ?_, ⟨by rw [c13, e29, g126], ?_, fun z v hv => ?_, fun z v hv => ?_, fun v hv => ?_⟩, SN_cg hsn (b2 3 (by decide) (by decide) (by decide)) (a2 127 (by decide) (by decide) (by decide) (by decide) (by decide) (by decide) (by decide)) (fun a h1 h2 => a2 a (by omega) (by omega) (by omega) (by omega) (by omega) (by omega) (by omega)) (fun b e hb9 a h1 h2 => by have := pb_lt hb9; exact a2 a (by omega) (by omega) (by omega) (by omega) (by omega) (by omega) (by omega)), okF_cg hf1 (fun a ha => hy.2.2 a (by simp; omega))⟩)
    · unfold TX at ht ⊢
      rw [a2 1 (by decide) (by decide) (by decide) (by decide) (by decide) (by decide) (by decide), a2 2 (by decide) (by decide) (by decide) (by decide) (by decide) (by decide) (by decide), a2 129 (by decide) (by decide) (by decide) (by decide) (by decide) (by decide) (by decide), b2 6 (by decide) (by decide) (by decide)]
      exact ht
    · unfold CU at hcu ⊢
      rw [c2 11 (by decide), c2 12 (by decide), b2 34 (by decide) (by decide) (by decide), b2 35 (by decide) (by decide) (by decide)]
      exact hcu
    · rw [e29, g126]; exact Or.inr hD.2.2.2.1
    · have z0 : I 126 1 = 0 := by rw [e29, g126] at z; exact z
      rw [i41, hi z0 v hv, exg_I z0, hi2 v hv, xI v]
    · have z0 : I 126 1 = 1 := by rw [e29, g126] at z; exact z
      rw [f62, hg z0 v hv, hf2 v hv, xF v]
      exact exg_F hq (by rw [z0]; decide) hv
    · rw [hf2 v hv]
      exact exF_fn hq hv
theorem s_difference {M : PM} {a : Int32} (hJ : JM M) : CallOK 2000 3 18 yL_difference (Cond.codeWith yL_difference cL_difference 4 (some .int) [(0, 8, 11, 31), (0, 8, 14, 15), (0, 8, 17, 49)]) [.ref 0, .int a, .ref 149] 150 M (AF AQd yX10_difference (Cond.code yX10_difference cX10_difference 6 (some .double)) [.ref 125, .int a]) := by
  obtain ⟨pr, sv, S, E, n, len, hR, hj⟩ := hJ
  obtain ⟨I, F, R, L, D⟩ := M
  have hR : R = RR pr sv := hR
  subst hR
  have hj : JI I F pr sv S E n len := hj
  have hj9 := hj
  obtain ⟨hb, ⟨hq, hE, hcat⟩, ⟨hC, hS, hM⟩, ⟨hD, hn⟩, ht, hfa, hcu, hrs, hsn, hf⟩ := hj9
  have hs8 : ∀ q ∈ S, q.1 < 8 := fun q h => (hq.2 q h).1
  have hk : EOK E := enS_ok (fun q h => ⟨(hq.2 q h).1, (hq.2 q h).2.1⟩) E0_ok hE
  have hn2 : n ≤ 16 := hD.2.2.1
  have hG : MG I E S := ⟨hM, hk, hS, hq⟩
  have z1 : I 125 29 < 0 ↔ I 0 13 = -1 := by
    rw [hrs.1]
    rcases hrs.2.1 with q | q | q <;> rw [q] <;> decide
  refine w_difference (c_difference (N := I 126) (by omega) hb hq hcat hC hD hf (fun w => HPd_ex (x := 1) rfl (AF_of ?_)) (fun w w1 => HPd_ex (x := 2) rfl (AF_of ?_)) (fun w w1 w2 w3 w4 => HPd_ex (x := 3) rfl (AF_of ?_)) (fun k I1 F1 h8 e w1 w2 w3 g gF g41 g62 hf1 => HPd_ok (AF_of ?_)))
  · exact m_difference (by omega) hG hn hn2 hrs.2.2.2.2 (fun _ => AQd_ex (by decide) th_0 hj.th.th) (fun w2 _ => absurd w2 w) (fun w2 _ _ _ _ => absurd w2 w) (fun k I' F' h8 e _ _ _ _ => absurd (e ▸ rng8 h8) w)
  · have no : ¬ (¬ I 125 29 < 0 ∧ I 125 29 = I 126 1) := fun q => w1.elim (fun z => q.1 (z1.mpr z)) (fun z => z (hrs.1.trans q.2))
    exact m_difference (by omega) hG hn hn2 hrs.2.2.2.2 (fun w2 => absurd w w2) (fun _ _ => AQd_ex (by decide) th_0 hj.th.th) (fun _ q1 q2 _ _ => absurd ⟨q1, q2⟩ no) (fun k I' F' h8 e q1 q2 _ _ => absurd ⟨q1, q2⟩ no)
  · have n1 : ¬ I 125 29 < 0 := fun q => w1 (z1.mp q)
    have n2 : I 125 29 = I 126 1 := hrs.1.symm.trans w2
    exact m_difference (by omega) hG hn hn2 hrs.2.2.2.2 (fun w2 => absurd w w2) (fun _ q => q.elim (fun z => absurd z n1) (fun z => absurd n2 z)) (fun _ _ _ _ _ => AQd_ex (by decide) th_0 hj.th.th) (fun k I' F' h8 e _ _ q3 _ => absurd ⟨w3, w4⟩ q3)
  · subst e
    have n1 : ¬ I 125 29 < 0 := fun q => w1 (z1.mp q)
    have n2 : I 125 29 = I 126 1 := hrs.1.symm.trans w2
    have g126 := g 126 (by decide)
    have g125 := g 125 (by decide)
    have g146 := g 146 (by decide)
    have f147 := gF 147 (by decide)
    have hG1 : MG I1 E S := ⟨ME_cg hM (g 137 (by decide)) (g 138 (by decide)), hk, MSt_cg hS g126, hq⟩
    refine m_difference (by omega) hG1 (by rw [g126]; exact hn) hn2 (fun v hv => by rw [f147]; exact hrs.2.2.2.2 v hv) (fun w => absurd (rng8 h8) w) (fun _ q => q.elim (fun z => absurd z (by rw [g125]; exact n1)) (fun z => absurd (by rw [g125, g126]; exact n2) z)) (fun _ _ _ q1 q2 => absurd ⟨by rw [← g126]; exact q1, q2⟩ w3) (fun k2 I2 F2 h2 e2 _ _ _ hx => ?_)
    have e3 := inr8 h8 h2 e2
    subst e3
    have ev : (if I1 126 1 = 0 then dif (FP.i2d (I1 146 k2)) (FP.i2d (exI E S (I1 126) 0 0 n k2)) else dif (FP.f2d (F1 147 k2)) (FP.f2d (exF E S (I1 126) 0 0 n k2))) = (if I 126 1 = 0 then dif (FP.i2d (I 41 k2)) (FP.i2d (itr (rgI (elN (I 126)) S) (List.range n) (inN (I 126)) k2)) else dif (FP.f2d (F 62 k2)) (FP.f2d (itr (rgF (elN (I 126)) S) (List.range n) (fun u => FP.i2f (inN (I 126) u)) k2))) := by
      rw [g126, g146, f147]
      by_cases z : I 126 1 = 0
      · rw [if_pos z, if_pos z, hrs.2.2.1 (n2.trans z) k2 h8, ← exg_I z]
        unfold exgI
        rw [if_pos (Or.inl rfl)]
      · have z9 : I 126 1 = 1 := hD.2.2.2.1.elim (fun q => absurd q z) id
        rw [if_neg z, if_neg z]
        have zz := exg_F (E := E) (o := 0) (w := 0) (n := n) hq z h8
        unfold exgF at zz
        rw [if_pos (Or.inl rfl)] at zz
        exact (dif_z (hrs.2.2.2.1 (n2.trans z9) k2 h8) zz).symm
    rw [ev]
    refine AQd_ok (by rw [hx.2.1 0 (by decide)]; exact th_0) (hj.cg (fun a ha => ?_) (fun j _ _ => by rw [hx.1 0 (by decide) (by decide), u2_ne _ _ _ (by decide), g 0 (by decide)]) (fun j hj => ?_) (by rw [hx.2.2 62 (by decide)]; exact g62) (by rw [hx.2.2 147 (by decide)]; exact f147) (okF_cg hf1 (fun a ha => hx.2.2 a (by simp; omega))))
    · have h5 : a ≠ 125 := by unfold kp at ha; omega
      rw [hx.1 a (by unfold kp at ha; simp; omega) h5, u2_ne _ _ _ h5]
      by_cases e : a = 41
      · rw [e]; exact g41
      · exact g a (by unfold kp at ha; omega)
    · rw [hx.2.1 j (by intro e; subst e; revert hj; decide)]
      simp only [u2_ap, if_true]
      rw [if_neg (by intro e; subst e; revert hj; decide), g125]
theorem s_restore {M : PM} (hJ : JM M) : CallOK 2000 1 6 yL_restore (Cond.codeWith yL_restore cL_restore 2 (some .int) [(0, 4, 7, 15)]) [.ref 0] 150 M (AF AQv yX10_restore (Cond.code yX10_restore cX10_restore 1 none) [.ref 125]) := by
  obtain ⟨pr, sv, S, E, n, len, hR, hj⟩ := hJ
  obtain ⟨I, F, R, L, D⟩ := M
  have hR : R = RR pr sv := hR
  subst hR
  have hj : JI I F pr sv S E n len := hj
  have hj9 := hj
  obtain ⟨hb, ⟨hq, hE, hcat⟩, ⟨hC, hS, hM⟩, ⟨hD, hn⟩, ht, hfa, hcu, hrs, hsn, hf⟩ := hj9
  have hs8 : ∀ q ∈ S, q.1 < 8 := fun q h => (hq.2 q h).1
  have hk : EOK E := enS_ok (fun q h => ⟨(hq.2 q h).1, (hq.2 q h).2.1⟩) E0_ok hE
  have hn2 : n ≤ 16 := hD.2.2.1
  have hG : MG I E S := ⟨hM, hk, hS, hq⟩
  rcases hsn with ⟨hv, h3⟩ | ⟨b, S', E', n', hv, h3, hb', ⟨hq', hE', hcat'⟩, hC', hS', hD', hn'⟩
  · refine w_restore (c_restore (by omega) (fun w => HPv_ex (x := 1) rfl (AF_of ?_)) (fun b I1 w => by rw [hv] at w; cases w))
    exact m_restore (S := S) (E := E) (by omega) (fun _ => ⟨rfl, rfl, th_0 (I := I), hj.th.jm⟩) (fun q => absurd h3 q)
  · refine w_restore (c_restore (by omega) (fun w => by rw [hv] at w; cases w) (fun bq I1 w r0 r1 r2 r3 r4 => HPv_ok (AF_of ?_)))
    have eb : bq = b := by rw [hv] at w; cases w; rfl
    subst eb
    have g : ∀ a, a ≠ 0 → (a < 11 ∨ 16 < a) → I1 a = I a := fun a h0 h1 => by rw [r4 a h1, u2_ne _ _ _ h0, u2_ne _ _ _ h0]
    have g0 : ∀ j, I1 0 j = u2 (u2 I 0 11 (-1)) 0 13 (-1) 0 j := fun j => by rw [r4 0 (by decide)]
    have g125 := g 125 (by decide) (by decide)
    have g127 := g 127 (by decide) (by decide)
    refine m_restore (S := S') (E := E') (by omega) (fun q => absurd (by rw [g125] at q; exact q) h3) (fun _ => ⟨MSt_cg hS' g127, hq', hE', fun I2 hL hS2 hM2 hc e0 e6 e8 e29 e34 => ⟨rfl, rfl, e0, JI.jm (S := S') (E := E') (n := n') (len := len) ?_⟩⟩)
    have a2 : ∀ a, a ≠ 0 → (a < 11 ∨ 16 < a) → (a < 125 ∨ a = 127 ∨ a = 129 ∨ 139 < a) → I2 a = I a := fun a h0 h1 h2 => by rw [hL.1 a (by simp; omega)]; exact g a h0 h1
    have d2 : ∀ a, a < 125 → I2 a = I1 a := fun a h2 => hL.1 a (by simp; omega)
    have b2 : ∀ j, j ∉ [0, 6, 7, 8, 9, 10, 15, 19, 23, 29, 34] → I2 125 j = I 125 j := fun j h1 => by rw [hL.2 j h1, g125]
    have hpb := pb_lt hb'
    have hN : ∀ j, j < 875 → I2 126 j = I 127 j := fun j hj => by rw [hc j hj, g127]
    have c11 : I2 0 11 = -1 := by rw [d2 0 (by decide), g0]; simp [u2]
    have c13 : I2 0 13 = -1 := by rw [d2 0 (by decide), g0]; simp [u2]
    refine ⟨hb', ⟨hq', hE', hcat'⟩, ⟨CPR_cg hC' (fun a h1 h2 => a2 a (by omega) (by omega) (by omega)), hS2, hM2⟩, ⟨⟨?_, ?_, hD'.2.2.1, ?_, fun a i ha hi => ?_, fun v hv => ?_, fun v hv => ?_⟩, by rw [hN 2 (by decide)]; exact hn'⟩, ?_, ?_, Or.inl ⟨c11, e34⟩, ⟨by rw [c13, e29], Or.inl e29, fun z => by rw [e29] at z; exact absurd z (by decide), fun z => by rw [e29] at z; exact absurd z (by decide), hrs.2.2.2.2⟩, Or.inr ⟨bq, S', E', n', hv, by rw [b2 3 (by decide)]; exact h3, hb', ⟨hq', hE', hcat'⟩, CPR_cg hC' (fun a h1 h2 => a2 a (by omega) (by omega) (by omega)), MSt_cg hS' (a2 127 (by decide) (by decide) (by decide)), DDx_cg hD' (fun a h1 h2 => a2 a (by omega) (by omega) (by omega)) (a2 127 (by decide) (by decide) (by decide)), by rw [a2 127 (by decide) (by decide) (by decide)]; exact hn'⟩, hf⟩
    · rw [d2 11 (by decide), r0, hN 1 (by decide)]; exact hD'.1
    · rw [d2 11 (by decide), r1]; exact hD'.2.1
    · rw [hN 1 (by decide)]; exact hD'.2.2.2.1
    · unfold elN
      rw [d2 _ (by omega), r2 a i ha hi, hN _ (by omega)]
      exact hD'.2.2.2.2.1 a i ha hi
    · unfold inN
      rw [d2 16 (by decide), r3 v hv, hN _ (by omega)]
      exact hD'.2.2.2.2.2.1 v hv
    · unfold inN
      rw [hN _ (by omega)]
      exact hD'.2.2.2.2.2.2 v hv
    · unfold TX at ht ⊢
      rw [a2 1 (by decide) (by decide) (by decide), a2 2 (by decide) (by decide) (by decide), a2 129 (by decide) (by decide) (by decide), e6, g125]
      exact ht
    · rw [d2 0 (by decide), g0, e8, g125]
      simp [u2]
      exact hfa
