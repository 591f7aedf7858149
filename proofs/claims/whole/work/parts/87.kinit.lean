/-! ===== the constructors ===== -/
section
variable {d : Nat} {P : PO} {I : Nat → Nat → Int32} {R : Nat → Nat → Option Nat}
theorem k_X8 (hd : 1 ≤ d) {c n : Nat} (h : P (.inl none) n (mk I R)) : CallOK d 0 0 yX8_init (Cond.code yX8_init cX8_init 1 none) [.ref c] n (mk I R) P := by
  obtain ⟨d, rfl⟩ : ∃ e, d = e + 1 := ⟨d - 1, by omega⟩
  refine iX8_init (Nat.le_of_ble_eq_true rfl) (fun J hJ => ?_)
  refine hj1 hJ lX8_init_0 (hj1 hJ lX8_init_1 ⟨Nat.zero_le _, hj1 hJ lX8_init_4 ⟨Nat.le_refl _, Nat.le_refl _, h⟩⟩)
theorem k_X7_1 (hd : 1 ≤ d) (hK : KS 2 I R) (h : KS 6 (u2 (u2 (u2 (u2 I 1 1 0) 1 2 0) 1 4 0) 1 7 0) (u2 (u2 (u2 (u2 R 1 0 (some 2)) 1 3 (some 3)) 1 5 (some 4)) 1 6 (some 5)) → P (.inl none) 6 (mk (u2 (u2 (u2 (u2 I 1 1 0) 1 2 0) 1 4 0) 1 7 0) (u2 (u2 (u2 (u2 R 1 0 (some 2)) 1 3 (some 3)) 1 5 (some 4)) 1 6 (some 5)))) : CallOK d 4 400 yX7_init (Cond.code yX7_init cX7_init 1 none) [.ref 1] 2 (mk I R) P := by
  obtain ⟨d, rfl⟩ : ∃ e, d = e + 1 := ⟨d - 1, by omega⟩
  refine iX7_init (Nat.le_of_ble_eq_true rfl) (fun J hJ => ?_)
  have hJ : HJ _ J := hJ
  refine q_obj hJ lX7_init_0 lX7_init_1 (lvk_1 (n := 2) (by decide)) ?_
  refine q_newA (N := 100) hJ lX7_init_4 lX7_init_5 lX7_init_7 lX7_init_9 (lvk_1 (n := 2) (by decide)) hK rfl sh_2 (by decide) (by decide) (Nat.le_of_ble_eq_true rfl) (Nat.le_of_ble_eq_true rfl) (fun hK => ?_)
  refine q_puti hJ lX7_init_12 lX7_init_13 lX7_init_14 (lvk_1 (n := 3) (by decide)) hK rfl (fun hK => ?_)
  refine q_puti hJ lX7_init_17 lX7_init_18 lX7_init_19 (lvk_1 (n := 3) (by decide)) hK rfl (fun hK => ?_)
  refine q_newA (N := 100) hJ lX7_init_22 lX7_init_23 lX7_init_25 lX7_init_27 (lvk_1 (n := 3) (by decide)) hK rfl sh_3 (by decide) (by decide) (Nat.le_of_ble_eq_true rfl) (Nat.le_of_ble_eq_true rfl) (fun hK => ?_)
  refine q_puti hJ lX7_init_30 lX7_init_31 lX7_init_32 (lvk_1 (n := 4) (by decide)) hK rfl (fun hK => ?_)
  refine q_newA (N := 100) hJ lX7_init_35 lX7_init_36 lX7_init_38 lX7_init_40 (lvk_1 (n := 4) (by decide)) hK rfl sh_4 (by decide) (by decide) (Nat.le_of_ble_eq_true rfl) (Nat.le_of_ble_eq_true rfl) (fun hK => ?_)
  refine q_newA (N := 100) hJ lX7_init_43 lX7_init_44 lX7_init_46 lX7_init_48 (lvk_1 (n := 5) (by decide)) hK rfl sh_5 (by decide) (by decide) (Nat.le_of_ble_eq_true rfl) (Nat.le_of_ble_eq_true rfl) (fun hK => ?_)
  refine q_puti hJ lX7_init_51 lX7_init_52 lX7_init_53 (lvk_1 (n := 6) (by decide)) hK rfl (fun hK => ?_)
  exact hj1 hJ lX7_init_56 ⟨(Nat.le_of_ble_eq_true rfl), (Nat.le_of_ble_eq_true rfl), h hK⟩
theorem k_X3_6 (hd : 2 ≤ d) (hK : KS 7 I R) (h : KS 8 I (u2 R 6 0 (some 7)) → P (.inl none) 8 (mk I (u2 R 6 0 (some 7)))) : CallOK d 1 200 yX3_init (Cond.code yX3_init cX3_init 1 none) [.ref 6] 7 (mk I R) P := by
  obtain ⟨d, rfl⟩ : ∃ e, d = e + 1 := ⟨d - 1, by omega⟩
  refine iX3_init (Nat.le_of_ble_eq_true rfl) (fun J hJ => ?_)
  have hJ : HJ _ J := hJ
  refine q_sup hJ lX3_init_0 lX3_init_1 (lvk_1 (n := 7) (by decide)) (Nat.le_of_ble_eq_true rfl) (Nat.le_of_ble_eq_true rfl) (fun P h => k_X8 (by omega) h) ?_
  refine q_newA (N := 200) hJ lX3_init_4 lX3_init_5 lX3_init_8 lX3_init_10 (lvk_1 (n := 7) (by decide)) hK rfl sh_7 (by decide) (by decide) (Nat.le_of_ble_eq_true rfl) (Nat.le_of_ble_eq_true rfl) (fun hK => ?_)
  exact hj1 hJ lX3_init_13 ⟨(Nat.le_of_ble_eq_true rfl), (Nat.le_of_ble_eq_true rfl), h hK⟩
theorem k_X0_8 (hd : 2 ≤ d) (hK : KS 9 I R) (h : KS 10 (u2 (u2 I 8 1 100) 8 2 300) (u2 R 8 0 (some 9)) → P (.inl none) 10 (mk (u2 (u2 I 8 1 100) 8 2 300) (u2 R 8 0 (some 9)))) : CallOK d 1 200 yX0_init (Cond.code yX0_init cX0_init 1 none) [.ref 8] 9 (mk I R) P := by
  obtain ⟨d, rfl⟩ : ∃ e, d = e + 1 := ⟨d - 1, by omega⟩
  refine iX0_init (Nat.le_of_ble_eq_true rfl) (fun J hJ => ?_)
  have hJ : HJ _ J := hJ
  refine q_sup hJ lX0_init_0 lX0_init_1 (lvk_1 (n := 9) (by decide)) (Nat.le_of_ble_eq_true rfl) (Nat.le_of_ble_eq_true rfl) (fun P h => k_X8 (by omega) h) ?_
  refine q_newA (N := 200) hJ lX0_init_4 lX0_init_5 lX0_init_8 lX0_init_10 (lvk_1 (n := 9) (by decide)) hK rfl sh_9 (by decide) (by decide) (Nat.le_of_ble_eq_true rfl) (Nat.le_of_ble_eq_true rfl) (fun hK => ?_)
  refine q_puti hJ lX0_init_13 lX0_init_14 lX0_init_16 (lvk_1 (n := 10) (by decide)) hK rfl (fun hK => ?_)
  refine q_puti hJ lX0_init_19 lX0_init_20 lX0_init_23 (lvk_1 (n := 10) (by decide)) hK rfl (fun hK => ?_)
  exact hj1 hJ lX0_init_26 ⟨(Nat.le_of_ble_eq_true rfl), (Nat.le_of_ble_eq_true rfl), h hK⟩
theorem k_X1_11 (hd : 1 ≤ d) (hK : KS 12 I R) (h : KS 17 (u2 (u2 I 11 0 0) 11 1 0) (u2 (u2 (gR R 12 3) 11 2 (some 12)) 11 3 (some 16)) → P (.inl none) 17 (mk (u2 (u2 I 11 0 0) 11 1 0) (u2 (u2 (gR R 12 3) 11 2 (some 12)) 11 3 (some 16)))) : CallOK d 5 59 yX1_init (Cond.code yX1_init cX1_init 1 none) [.ref 11] 12 (mk I R) P := by
  obtain ⟨d, rfl⟩ : ∃ e, d = e + 1 := ⟨d - 1, by omega⟩
  refine iX1_init (Nat.le_of_ble_eq_true rfl) (fun J hJ => ?_)
  have hJ : HJ _ J := hJ
  refine q_obj hJ lX1_init_0 lX1_init_1 (lvk_1 (n := 12) (by decide)) ?_
  refine q_puti hJ lX1_init_4 lX1_init_5 lX1_init_6 (lvk_1 (n := 12) (by decide)) hK rfl (fun hK => ?_)
  refine q_puti hJ lX1_init_9 lX1_init_10 lX1_init_11 (lvk_1 (n := 12) (by decide)) hK rfl (fun hK => ?_)
  refine q_newG (x := 3) (y := 16) hJ lX1_init_14 lX1_init_15 lX1_init_16 lX1_init_18 lX1_init_22 (lvk_1 (n := 12) (by decide)) hK rfl sh_12 (by decide) (by decide) (by decide) (by decide) (Nat.le_of_ble_eq_true rfl) (Nat.le_of_ble_eq_true rfl) (fun hK => ?_)
  refine q_newA (N := 8) hJ lX1_init_25 lX1_init_26 lX1_init_28 lX1_init_30 (lvk_1 (n := 16) (by decide)) hK rfl sh_16 (by decide) (by decide) (Nat.le_of_ble_eq_true rfl) (Nat.le_of_ble_eq_true rfl) (fun hK => ?_)
  exact hj1 hJ lX1_init_33 ⟨(Nat.le_of_ble_eq_true rfl), (Nat.le_of_ble_eq_true rfl), h hK⟩
theorem k_X1_17 (hd : 1 ≤ d) (hK : KS 18 I R) (h : KS 23 (u2 (u2 I 17 0 0) 17 1 0) (u2 (u2 (gR R 18 3) 17 2 (some 18)) 17 3 (some 22)) → P (.inl none) 23 (mk (u2 (u2 I 17 0 0) 17 1 0) (u2 (u2 (gR R 18 3) 17 2 (some 18)) 17 3 (some 22)))) : CallOK d 5 59 yX1_init (Cond.code yX1_init cX1_init 1 none) [.ref 17] 18 (mk I R) P := by
  obtain ⟨d, rfl⟩ : ∃ e, d = e + 1 := ⟨d - 1, by omega⟩
  refine iX1_init (Nat.le_of_ble_eq_true rfl) (fun J hJ => ?_)
  have hJ : HJ _ J := hJ
  refine q_obj hJ lX1_init_0 lX1_init_1 (lvk_1 (n := 18) (by decide)) ?_
  refine q_puti hJ lX1_init_4 lX1_init_5 lX1_init_6 (lvk_1 (n := 18) (by decide)) hK rfl (fun hK => ?_)
  refine q_puti hJ lX1_init_9 lX1_init_10 lX1_init_11 (lvk_1 (n := 18) (by decide)) hK rfl (fun hK => ?_)
  refine q_newG (x := 3) (y := 16) hJ lX1_init_14 lX1_init_15 lX1_init_16 lX1_init_18 lX1_init_22 (lvk_1 (n := 18) (by decide)) hK rfl sh_18 (by decide) (by decide) (by decide) (by decide) (Nat.le_of_ble_eq_true rfl) (Nat.le_of_ble_eq_true rfl) (fun hK => ?_)
  refine q_newA (N := 8) hJ lX1_init_25 lX1_init_26 lX1_init_28 lX1_init_30 (lvk_1 (n := 22) (by decide)) hK rfl sh_22 (by decide) (by decide) (Nat.le_of_ble_eq_true rfl) (Nat.le_of_ble_eq_true rfl) (fun hK => ?_)
  exact hj1 hJ lX1_init_33 ⟨(Nat.le_of_ble_eq_true rfl), (Nat.le_of_ble_eq_true rfl), h hK⟩
theorem k_X5_23 (hd : 2 ≤ d) (hK : KS 24 I R) (h : KS 24 (u2 (u2 I 23 1 16) 23 2 0) (u2 R 23 0 (some 11)) → P (.inl none) 24 (mk (u2 (u2 I 23 1 16) 23 2 0) (u2 R 23 0 (some 11)))) : CallOK d 0 0 yX5_init (Cond.code yX5_init cX5_init 2 none) [.ref 23, .ref 11] 24 (mk I R) P := by
  obtain ⟨d, rfl⟩ : ∃ e, d = e + 1 := ⟨d - 1, by omega⟩
  refine iX5_init (Nat.le_of_ble_eq_true rfl) (fun J hJ => ?_)
  have hJ : HJ _ J := hJ
  refine q_sup hJ lX5_init_0 lX5_init_1 (lvk_2 (n := 24) (by decide) (by decide)) (Nat.le_of_ble_eq_true rfl) (Nat.le_of_ble_eq_true rfl) (fun P h => k_X8 (by omega) h) ?_
  refine q_puti2 hJ lX5_init_4 lX5_init_5 lX5_init_7 (lvk_2 (n := 24) (by decide) (by decide)) hK (by decide) (fun hK => ?_)
  refine q_puti2 hJ lX5_init_10 lX5_init_11 lX5_init_12 (lvk_2 (n := 24) (by decide) (by decide)) hK (by decide) (fun hK => ?_)
  refine q_putr2 (e := 11) hJ lX5_init_15 lX5_init_16 lX5_init_17 rfl (by decide) (lvk_2 (n := 24) (by decide) (by decide)) hK (by decide) (fun hK => ?_)
  exact hj1 hJ lX5_init_20 ⟨(Nat.le_of_ble_eq_true rfl), (Nat.le_of_ble_eq_true rfl), h hK⟩
theorem k_X5_44 (hd : 2 ≤ d) (hK : KS 45 I R) (h : KS 45 (u2 (u2 I 44 1 16) 44 2 0) (u2 R 44 0 (some 11)) → P (.inl none) 45 (mk (u2 (u2 I 44 1 16) 44 2 0) (u2 R 44 0 (some 11)))) : CallOK d 0 0 yX5_init (Cond.code yX5_init cX5_init 2 none) [.ref 44, .ref 11] 45 (mk I R) P := by
  obtain ⟨d, rfl⟩ : ∃ e, d = e + 1 := ⟨d - 1, by omega⟩
  refine iX5_init (Nat.le_of_ble_eq_true rfl) (fun J hJ => ?_)
  have hJ : HJ _ J := hJ
  refine q_sup hJ lX5_init_0 lX5_init_1 (lvk_2 (n := 45) (by decide) (by decide)) (Nat.le_of_ble_eq_true rfl) (Nat.le_of_ble_eq_true rfl) (fun P h => k_X8 (by omega) h) ?_
  refine q_puti2 hJ lX5_init_4 lX5_init_5 lX5_init_7 (lvk_2 (n := 45) (by decide) (by decide)) hK (by decide) (fun hK => ?_)
  refine q_puti2 hJ lX5_init_10 lX5_init_11 lX5_init_12 (lvk_2 (n := 45) (by decide) (by decide)) hK (by decide) (fun hK => ?_)
  refine q_putr2 (e := 11) hJ lX5_init_15 lX5_init_16 lX5_init_17 rfl (by decide) (lvk_2 (n := 45) (by decide) (by decide)) hK (by decide) (fun hK => ?_)
  exact hj1 hJ lX5_init_20 ⟨(Nat.le_of_ble_eq_true rfl), (Nat.le_of_ble_eq_true rfl), h hK⟩
theorem k_X4_23 (hd : 3 ≤ d) (hK : KS 24 I R) (h : KS 44 (u2 (u2 I 23 1 16) 23 2 0) (u2 (u2 (gR (u2 R 23 0 (some 11)) 24 18) 23 3 (some 24)) 23 4 (some 43)) → P (.inl none) 44 (mk (u2 (u2 I 23 1 16) 23 2 0) (u2 (u2 (gR (u2 R 23 0 (some 11)) 24 18) 23 3 (some 24)) 23 4 (some 43)))) : CallOK d 20 362 yX4_init (Cond.code yX4_init cX4_init 2 none) [.ref 23, .ref 11] 24 (mk I R) P := by
  obtain ⟨d, rfl⟩ : ∃ e, d = e + 1 := ⟨d - 1, by omega⟩
  refine iX4_init (Nat.le_of_ble_eq_true rfl) (fun J hJ => ?_)
  have hJ : HJ _ J := hJ
  refine q_sup1 (e := 11) (I' := (u2 (u2 I 23 1 16) 23 2 0)) (R' := (u2 R 23 0 (some 11))) hJ lX4_init_0 lX4_init_1 lX4_init_2 (lvk_2 (n := 24) (by decide) (by decide)) rfl (Nat.le_of_ble_eq_true rfl) (Nat.le_of_ble_eq_true rfl) (fun P h => k_X5_23 (by omega) hK (fun _ => h)) ?_
  replace hK : KS 24 (u2 (u2 I 23 1 16) 23 2 0) (u2 R 23 0 (some 11)) := ks_R (ks_I (ks_I hK (by decide)) (by decide)) (by decide) (fun q e => by cases e; decide)
  refine q_newG (x := 18) (y := 8) hJ lX4_init_5 lX4_init_6 lX4_init_8 lX4_init_10 lX4_init_14 (lvk_2 (n := 24) (by decide) (by decide)) hK rfl sh_24 (by decide) (by decide) (by decide) (by decide) (Nat.le_of_ble_eq_true rfl) (Nat.le_of_ble_eq_true rfl) (fun hK => ?_)
  refine q_newA (N := 200) hJ lX4_init_17 lX4_init_18 lX4_init_21 lX4_init_23 (lvk_2 (n := 43) (by decide) (by decide)) hK rfl sh_43 (by decide) (by decide) (Nat.le_of_ble_eq_true rfl) (Nat.le_of_ble_eq_true rfl) (fun hK => ?_)
  exact hj1 hJ lX4_init_26 ⟨(Nat.le_of_ble_eq_true rfl), (Nat.le_of_ble_eq_true rfl), h hK⟩
theorem k_X2_44 (hd : 3 ≤ d) (hK : KS 45 I R) (h : KS 65 (u2 (u2 I 44 1 16) 44 2 0) (u2 (u2 (gR (u2 R 44 0 (some 11)) 45 18) 44 3 (some 45)) 44 4 (some 64)) → P (.inl none) 65 (mk (u2 (u2 I 44 1 16) 44 2 0) (u2 (u2 (gR (u2 R 44 0 (some 11)) 45 18) 44 3 (some 45)) 44 4 (some 64)))) : CallOK d 20 362 yX2_init (Cond.code yX2_init cX2_init 2 none) [.ref 44, .ref 11] 45 (mk I R) P := by
  obtain ⟨d, rfl⟩ : ∃ e, d = e + 1 := ⟨d - 1, by omega⟩
  refine iX2_init (Nat.le_of_ble_eq_true rfl) (fun J hJ => ?_)
  have hJ : HJ _ J := hJ
  refine q_sup1 (e := 11) (I' := (u2 (u2 I 44 1 16) 44 2 0)) (R' := (u2 R 44 0 (some 11))) hJ lX2_init_0 lX2_init_1 lX2_init_2 (lvk_2 (n := 45) (by decide) (by decide)) rfl (Nat.le_of_ble_eq_true rfl) (Nat.le_of_ble_eq_true rfl) (fun P h => k_X5_44 (by omega) hK (fun _ => h)) ?_
  replace hK : KS 45 (u2 (u2 I 44 1 16) 44 2 0) (u2 R 44 0 (some 11)) := ks_R (ks_I (ks_I hK (by decide)) (by decide)) (by decide) (fun q e => by cases e; decide)
  refine q_newG (x := 18) (y := 8) hJ lX2_init_5 lX2_init_6 lX2_init_8 lX2_init_10 lX2_init_14 (lvk_2 (n := 45) (by decide) (by decide)) hK rfl sh_45 (by decide) (by decide) (by decide) (by decide) (Nat.le_of_ble_eq_true rfl) (Nat.le_of_ble_eq_true rfl) (fun hK => ?_)
  refine q_newA (N := 200) hJ lX2_init_17 lX2_init_18 lX2_init_21 lX2_init_23 (lvk_2 (n := 64) (by decide) (by decide)) hK rfl sh_64 (by decide) (by decide) (Nat.le_of_ble_eq_true rfl) (Nat.le_of_ble_eq_true rfl) (fun hK => ?_)
  exact hj1 hJ lX2_init_26 ⟨(Nat.le_of_ble_eq_true rfl), (Nat.le_of_ble_eq_true rfl), h hK⟩
end
