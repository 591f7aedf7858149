/-! ===== the two constructors that the law calls ===== -/
theorem CPR_cg {I I' : Nat → Nat → Int32} {b : Nat} {E : EX} {S : ST} (h : CPR I b E S) (g : ∀ a, b ≤ a → a < b + 20 → I' a = I a) : CPR I' b E S := by
  obtain ⟨h1, h2, h3, h4⟩ := h
  have g0 := g b (by omega) (by omega)
  have g1 := g (b + 1) (by omega) (by omega)
  have g2 := g (b + 2) (by omega) (by omega)
  have g3 := g (b + 3) (by omega) (by omega)
  have g13 := g (b + 13) (by omega) (by omega)
  have g15 := g (b + 15) (by omega) (by omega)
  have g16 := g (b + 16) (by omega) (by omega)
  have g17 := g (b + 17) (by omega) (by omega)
  have g18 := g (b + 18) (by omega) (by omega)
  have g19 := g (b + 19) (by omega) (by omega)
  refine ⟨?_, ?_, ?_, ?_⟩
  · unfold CP1 at h1 ⊢
    rw [g0, g1, g2, g3]; exact h1
  · unfold CP2 at h2 ⊢
    rw [g0]; exact h2
  · unfold CP3 at h3 ⊢
    intro v hv
    rw [g13, g15, g (b + 5 + v) (by omega) (by omega)]; exact h3 v hv
  · unfold CP4 CMk CKn at h4 ⊢
    rw [g0, g16, g17, g18, g19]; exact h4
def BR (f : Nat → Nat → Option Nat) : Prop := ∀ a k, (150 ≤ a ∨ 40 ≤ k) → f a k = none
theorem br_0 : BR (fun _ _ => none) := fun _ _ _ => rfl
theorem br_u2 {f : Nat → Nat → Option Nat} (h : BR f) {a k : Nat} {v : Option Nat} (ha : a < 150) (hk : k < 40) : BR (u2 f a k v) := by
  intro b j hb
  unfold u2
  by_cases e : b = a
  · rw [if_pos e, if_neg (by omega)]; exact h b j hb
  · rw [if_neg e]; exact h b j hb
theorem br_gR {f : Nat → Nat → Option Nat} (h : BR f) {n k : Nat} (hn : n < 150) (hk : k ≤ 40) : BR (gR f n k) := by
  intro b j hb
  unfold gR r2
  by_cases e : b = n
  · rw [if_pos e]
    simp only
    rw [if_neg (by omega)]
  · rw [if_neg e]; exact h b j hb
theorem br_ext {f g : Nat → Nat → Option Nat} (hf : BR f) (hg : BR g) (h : ∀ a, a < 150 → ∀ k, k < 40 → f a k = g a k) : f = g := by
  funext a k
  by_cases e : 150 ≤ a ∨ 40 ≤ k
  · rw [hf a k e, hg a k e]
  · exact h a (by omega) k (by omega)
theorem rt_len : ∀ a, a < 150 → (RT.getD a []).length ≤ 40 := by decide +kernel
theorem rt_all : RT.length ≤ 150 := by decide +kernel
theorem rt_none {a k : Nat} (h : 150 ≤ a ∨ 40 ≤ k) : (RT.getD a []).getD k none = none := by
  by_cases e : a < 150
  · have := rt_len a e
    rw [List.getD_eq_getElem?_getD, List.getElem?_eq_none (by omega)]; rfl
  · have := rt_all
    have e1 : RT.getD a [] = [] := by rw [List.getD_eq_getElem?_getD, List.getElem?_eq_none (by omega)]; rfl
    rw [e1]; rfl
theorem br_RR : BR (RR 65 none) := by
  intro a k h
  unfold RR
  by_cases e : a = 0
  · rw [if_pos e]
    by_cases e8 : k = 8
    · omega
    · rw [if_neg e8]
      by_cases e9 : k = 9
      · rw [if_pos e9]
      · rw [if_neg e9]; exact rt_none h
  · rw [if_neg e]; exact rt_none h
def R9 : Nat → Nat → Option Nat := fun a k => if a < 125 then RR 65 none a k else none
theorem br_R9 : BR R9 := by
  intro a k h
  unfold R9
  split
  · exact br_RR a k h
  · rfl
theorem q_slot {d mc ms n cs ss s n' : Nat} {P : PO} {J : KT} {lv : LV} {I : Nat → Nat → Int32} {R R' : Nat → Nat → Option Nat} (hJ : HJ (tX9_init d mc ms P) J) (hl : LVK n 0 lv) (l1 : lv 1 = some (.int (nI s))) (hs : s < 3) (hK : KS n I R) (h3 : R 0 3 = some 10) (hn0 : 10 < n) (sn : shp n = (6, 0)) (hn : n < 1000) (h1 : cs + 1 + 19 ≤ mc) (h2 : ss + 16 + 1972 ≤ ms) (e : n' = n + 20)
    (hc : ∀ Q : PO, (∀ I', KS n' I' R' → (∀ a, (a < n ∨ n' ≤ a) → I' a = I a) → CPR I' n E0 [] → Q (.inl none) n' (mk I' R')) → CallOK d 19 1972 yX6_init (Cond.code yX6_init cX6_init 2 none) [.ref n] (n + 1) (mk I R) Q)
    (h : ∀ I', KS n' I' (u2 R' 10 s (some n)) → (∀ a, (a < n ∨ n' ≤ a) → I' a = I a) → CPR I' n E0 [] → J 124 (lset lv 1 (.int (nI (s + 1)))) [] (n', cs + 1 + 19, ss + 16 + 1972) (mk I' (u2 R' 10 s (some n)))) : J 124 lv [] (n, cs, ss) (mk I R) := by
  have cv := nI_clamp (n := s) (by omega)
  have iv := vp_in_nI (n := s) (N := 3) (by omega) (by decide)
  refine hj1 hJ lX9_init_124 ?_
  unfold oIld
  rw [l1]
  refine hj1 hJ lX9_init_125 (hj1 hJ lX9_init_126 ?_)
  refine ⟨fun w => absurd w (nI_ge (b := 3) (by omega) (by omega)), fun _ => ?_⟩
  refine hj1 hJ lX9_init_129 ?_
  unfold oAld
  rw [hl.1]
  refine hj1 hJ lX9_init_130 ⟨rfl, hl.2.1, ?_⟩
  show J 133 lv (va_rf (R 0 3) :: []) (n, cs, ss) (mk I R)
  rw [h3]
  refine hj1 hJ lX9_init_133 ?_
  unfold oIld
  rw [l1]
  show J 134 lv [.int (nI s), .ref 10] (n, cs, ss) (mk I R)
  refine hj1 hJ lX9_init_134 ⟨⟨sn, by show n + 1 < 1000000; omega, by show cs + 1 ≤ mc; omega, by show ss + 16 ≤ ms; omega, ks_cl hK, hl.2.2, fun v hv => ?_⟩, ?_⟩
  · have hv : v = .int (nI s) ∨ v = .ref 10 := by simpa using hv
    rcases hv with rfl | rfl
    · trivial
    · exact Or.inl hn0
  show J 137 lv [.ref n, .int (nI s), .ref 10] (n + 1, cs + 1, ss + 16) (zM (mk I R) n)
  rw [ks_zM hK]
  refine hj1 hJ lX9_init_137 ⟨rfl, ?_⟩
  show J 138 lv [.ref n, .ref n, .int (nI s), .ref 10] (n + 1, cs + 1, ss + 16) (mk I R)
  refine hj1 hJ lX9_init_138 ⟨⟨Nat.le_of_ble_eq_true rfl, Nat.le_of_ble_eq_true rfl, h1, h2, (hl.up (Nat.le_succ n)).2.2, fun v hv => ?_, n, [], rfl⟩, hc _ (fun I' k1 f1 c1 => ?_)⟩
  · have hv : v = .ref n ∨ v = .int (nI s) ∨ v = .ref 10 := by simpa using hv
    rcases hv with rfl | rfl | rfl
    · exact Or.inl (Nat.lt_succ_self n)
    · trivial
    · exact Or.inl (Nat.lt_succ_of_lt hn0)
  show J 141 lv [.ref n, .int (nI s), .ref 10] (n', cs + 1 + 19, ss + 16 + 1972) (mk I' R')
  refine hj1 hJ lX9_init_141 ⟨rfl, by show 10 < n'; omega, by rw [sn], by show n < n'; omega, iv, ?_⟩
  show J 142 lv [] (n', cs + 1 + 19, ss + 16 + 1972) (mk I' (u2 R' 10 (nI s).toNatClampNeg (some n)))
  rw [cv]
  refine hj1 hJ lX9_init_142 ?_
  unfold oInc
  rw [l1]
  refine hj1 hJ lX9_init_145 ?_
  show J 124 (lset lv 1 (.int (nI s + 1))) [] (n', cs + 1 + 19, ss + 16 + 1972) (mk I' (u2 R' 10 s (some n)))
  rw [nI_1]
  exact h I' (ks_R k1 (by omega) (fun q e9 => by cases e9; omega)) f1 c1
theorem lvk_set {n c : Nat} {lv : LV} {x : Int32} (h : LVK n c lv) : LVK n c (lset lv 1 (.int x)) := by
  refine ⟨?_, h.2.1, fun j v hv => ?_⟩
  · unfold lset
    rw [if_neg (by decide), if_pos rfl, h.1]
    rfl
  · unfold lset at hv
    by_cases e : j = 1
    · rw [if_pos e] at hv; cases hv; trivial
    · rw [if_neg e] at hv
      by_cases e2 : j + 1 = 1
      · rw [if_pos e2] at hv
        cases hj : lv j with
        | none => rw [hj] at hv; cases hv
        | some w =>
          rw [hj] at hv
          simp only at hv
          split at hv
          · cases hv
          · cases hv; exact h.2.2 j _ hj
      · rw [if_neg e2] at hv; exact h.2.2 j v hv
theorem zu {f : Nat → Nat → Int32} {a b k : Nat} {v : Int32} (h : ∀ j, f a j = 0) (e : a ≠ b ∨ v = 0) : ∀ j, u2 f b k v a j = 0 := by
  intro j
  unfold u2
  split
  · split
    · rcases e with e | e
      · exact absurd (by assumption) e
      · exact e
    · exact h j
  · exact h j
def Z9 (I : Nat → Nat → Int32) : Prop := I 0 10 = -1 ∧ I 0 11 = -1 ∧ I 0 12 = 0 ∧ I 0 13 = -1 ∧ I 1 1 = 0 ∧ (∀ a, 11 ≤ a → a < 23 → ∀ j, I a j = 0) ∧ CPR I 65 E0 []
section
variable {d : Nat} {P : PO} {I : Nat → Nat → Int32}
def RC9 : Nat → Nat → Option Nat := (u2 (u2 (u2 (u2 (gR (u2 (u2 (u2 (u2 (gR (u2 (u2 (u2 (u2 (gR (u2 (u2 (u2 (gR (u2 (u2 (u2 (u2 (u2 (u2 (u2 (u2 (u2 (u2 (fun _ _ => none) 1 0 (some 2)) 1 3 (some 3)) 1 5 (some 4)) 1 6 (some 5)) 0 0 (some 1)) 6 0 (some 7)) 0 1 (some 6)) 8 0 (some 9)) 0 2 (some 8)) 0 3 (some 10)) 12 3) 11 2 (some 12)) 11 3 (some 16)) 0 4 (some 11)) 18 3) 17 2 (some 18)) 17 3 (some 22)) 0 5 (some 17)) 23 0 (some 11)) 24 18) 23 3 (some 24)) 23 4 (some 43)) 0 6 (some 23)) 44 0 (some 11)) 45 18) 44 3 (some 45)) 44 4 (some 64)) 0 7 (some 44)) 0 9 none)
def RD0 : Nat → Nat → Option Nat := (u2 (u2 (u2 (u2 (u2 (u2 (u2 (u2 (gR (u2 (u2 (u2 RC9 65 0 (some 66)) 65 1 (some 67)) 65 2 (some 68)) 69 8) 65 6 (some 69)) 65 7 (some 78)) 65 8 (some 79)) 65 9 (some 80)) 65 10 (some 81)) 65 11 (some 82)) 65 12 (some 83)) 65 13 (some 84))
def RE0 : Nat → Nat → Option Nat := u2 RD0 10 0 (some 65)
def RD1 : Nat → Nat → Option Nat := (u2 (u2 (u2 (u2 (u2 (u2 (u2 (u2 (gR (u2 (u2 (u2 RE0 85 0 (some 86)) 85 1 (some 87)) 85 2 (some 88)) 89 8) 85 6 (some 89)) 85 7 (some 98)) 85 8 (some 99)) 85 9 (some 100)) 85 10 (some 101)) 85 11 (some 102)) 85 12 (some 103)) 85 13 (some 104))
def RE1 : Nat → Nat → Option Nat := u2 RD1 10 1 (some 85)
def RD2 : Nat → Nat → Option Nat := (u2 (u2 (u2 (u2 (u2 (u2 (u2 (u2 (gR (u2 (u2 (u2 RE1 105 0 (some 106)) 105 1 (some 107)) 105 2 (some 108)) 109 8) 105 6 (some 109)) 105 7 (some 118)) 105 8 (some 119)) 105 9 (some 120)) 105 10 (some 121)) 105 11 (some 122)) 105 12 (some 123)) 105 13 (some 124))
def RE2 : Nat → Nat → Option Nat := u2 RD2 10 2 (some 105)
set_option maxRecDepth 20000 in
theorem re_R9 : u2 RE2 0 8 (some 65) = R9 := by
  refine br_ext ?_ br_R9 (by decide +kernel)
  unfold RE2 RD2 RE1 RD1 RE0 RD0 RC9
  repeat first | exact br_0 | refine br_u2 ?_ (by decide) (by decide) | refine br_gR ?_ (by decide) (by decide)
def IC9 : Nat → Nat → Int32 := (u2 (u2 (u2 (u2 (u2 (u2 (u2 (u2 (u2 (u2 (u2 (u2 (u2 (u2 (u2 (u2 (u2 (u2 (fun _ _ => 0) 1 1 0) 1 2 0) 1 4 0) 1 7 0) 8 1 100) 8 2 300) 11 0 0) 11 1 0) 17 0 0) 17 1 0) 23 1 16) 23 2 0) 44 1 16) 44 2 0) 0 10 (-1)) 0 11 (-1)) 0 12 0) 0 13 (-1))
theorem k_X9 (hd : 5 ≤ d) (h : ∀ I', KS 125 I' R9 → Z9 I' → P (.inl none) 125 (mk I' R9)) : CallOK d 124 7639 yX9_init (Cond.code yX9_init cX9_init 2 none) [.ref 0] 1 (mk (fun _ _ => 0) (fun _ _ => none)) P := by
  obtain ⟨d, rfl⟩ : ∃ e, d = e + 1 := ⟨d - 1, by omega⟩
  refine iX9_init (Nat.le_of_ble_eq_true rfl) (fun J hJ => ?_)
  have hJ : HJ _ J := hJ
  have hK : KS 1 (fun _ _ => 0) (fun _ _ => none) := ⟨fun _ _ => rfl, fun _ _ => rfl, fun _ _ _ _ h => by cases h⟩
  refine q_obj hJ lX9_init_0 lX9_init_1 (lvk_1 (n := 1) (by decide)) ?_
  refine q_newO (n' := 6) (kk := 4) (I' := (u2 (u2 (u2 (u2 (fun _ _ => 0) 1 1 0) 1 2 0) 1 4 0) 1 7 0)) (R' := (u2 (u2 (u2 (u2 (fun _ _ => none) 1 0 (some 2)) 1 3 (some 3)) 1 5 (some 4)) 1 6 (some 5))) hJ lX9_init_4 lX9_init_5 lX9_init_8 lX9_init_9 lX9_init_12 (lvk_1 (n := 1) (by decide)) hK rfl sh_1 (by decide) (Nat.le_of_ble_eq_true rfl) (Nat.le_of_ble_eq_true rfl) rfl (fun P h => k_X7_1 (by omega) (ks_up hK (by decide)) h) (fun hK => ?_)
  refine q_newO (n' := 8) (kk := 1) (I' := (u2 (u2 (u2 (u2 (fun _ _ => 0) 1 1 0) 1 2 0) 1 4 0) 1 7 0)) (R' := (u2 (u2 (u2 (u2 (u2 (u2 (fun _ _ => none) 1 0 (some 2)) 1 3 (some 3)) 1 5 (some 4)) 1 6 (some 5)) 0 0 (some 1)) 6 0 (some 7))) hJ lX9_init_15 lX9_init_16 lX9_init_19 lX9_init_20 lX9_init_23 (lvk_1 (n := 6) (by decide)) hK rfl sh_6 (by decide) (Nat.le_of_ble_eq_true rfl) (Nat.le_of_ble_eq_true rfl) rfl (fun P h => k_X3_6 (by omega) (ks_up hK (by decide)) h) (fun hK => ?_)
  refine q_newO (n' := 10) (kk := 1) (I' := (u2 (u2 (u2 (u2 (u2 (u2 (fun _ _ => 0) 1 1 0) 1 2 0) 1 4 0) 1 7 0) 8 1 100) 8 2 300)) (R' := (u2 (u2 (u2 (u2 (u2 (u2 (u2 (u2 (fun _ _ => none) 1 0 (some 2)) 1 3 (some 3)) 1 5 (some 4)) 1 6 (some 5)) 0 0 (some 1)) 6 0 (some 7)) 0 1 (some 6)) 8 0 (some 9))) hJ lX9_init_26 lX9_init_27 lX9_init_30 lX9_init_31 lX9_init_34 (lvk_1 (n := 8) (by decide)) hK rfl sh_8 (by decide) (Nat.le_of_ble_eq_true rfl) (Nat.le_of_ble_eq_true rfl) rfl (fun P h => k_X0_8 (by omega) (ks_up hK (by decide)) h) (fun hK => ?_)
  refine q_newA (N := 3) hJ lX9_init_37 lX9_init_38 lX9_init_39 lX9_init_42 (lvk_1 (n := 10) (by decide)) hK rfl sh_10 (by decide) (by decide) (Nat.le_of_ble_eq_true rfl) (Nat.le_of_ble_eq_true rfl) (fun hK => ?_)
  refine q_newO (n' := 17) (kk := 5) (I' := (u2 (u2 (u2 (u2 (u2 (u2 (u2 (u2 (fun _ _ => 0) 1 1 0) 1 2 0) 1 4 0) 1 7 0) 8 1 100) 8 2 300) 11 0 0) 11 1 0)) (R' := (u2 (u2 (gR (u2 (u2 (u2 (u2 (u2 (u2 (u2 (u2 (u2 (u2 (fun _ _ => none) 1 0 (some 2)) 1 3 (some 3)) 1 5 (some 4)) 1 6 (some 5)) 0 0 (some 1)) 6 0 (some 7)) 0 1 (some 6)) 8 0 (some 9)) 0 2 (some 8)) 0 3 (some 10)) 12 3) 11 2 (some 12)) 11 3 (some 16))) hJ lX9_init_45 lX9_init_46 lX9_init_49 lX9_init_50 lX9_init_53 (lvk_1 (n := 11) (by decide)) hK rfl sh_11 (by decide) (Nat.le_of_ble_eq_true rfl) (Nat.le_of_ble_eq_true rfl) rfl (fun P h => k_X1_11 (by omega) (ks_up hK (by decide)) h) (fun hK => ?_)
  refine q_newO (n' := 23) (kk := 5) (I' := (u2 (u2 (u2 (u2 (u2 (u2 (u2 (u2 (u2 (u2 (fun _ _ => 0) 1 1 0) 1 2 0) 1 4 0) 1 7 0) 8 1 100) 8 2 300) 11 0 0) 11 1 0) 17 0 0) 17 1 0)) (R' := (u2 (u2 (gR (u2 (u2 (u2 (gR (u2 (u2 (u2 (u2 (u2 (u2 (u2 (u2 (u2 (u2 (fun _ _ => none) 1 0 (some 2)) 1 3 (some 3)) 1 5 (some 4)) 1 6 (some 5)) 0 0 (some 1)) 6 0 (some 7)) 0 1 (some 6)) 8 0 (some 9)) 0 2 (some 8)) 0 3 (some 10)) 12 3) 11 2 (some 12)) 11 3 (some 16)) 0 4 (some 11)) 18 3) 17 2 (some 18)) 17 3 (some 22))) hJ lX9_init_56 lX9_init_57 lX9_init_60 lX9_init_61 lX9_init_64 (lvk_1 (n := 17) (by decide)) hK rfl sh_17 (by decide) (Nat.le_of_ble_eq_true rfl) (Nat.le_of_ble_eq_true rfl) rfl (fun P h => k_X1_17 (by omega) (ks_up hK (by decide)) h) (fun hK => ?_)
  refine q_newO1 (n' := 44) (kk := 20) (z := 11) (I' := (u2 (u2 (u2 (u2 (u2 (u2 (u2 (u2 (u2 (u2 (u2 (u2 (fun _ _ => 0) 1 1 0) 1 2 0) 1 4 0) 1 7 0) 8 1 100) 8 2 300) 11 0 0) 11 1 0) 17 0 0) 17 1 0) 23 1 16) 23 2 0)) (R' := (u2 (u2 (gR (u2 (u2 (u2 (u2 (gR (u2 (u2 (u2 (gR (u2 (u2 (u2 (u2 (u2 (u2 (u2 (u2 (u2 (u2 (fun _ _ => none) 1 0 (some 2)) 1 3 (some 3)) 1 5 (some 4)) 1 6 (some 5)) 0 0 (some 1)) 6 0 (some 7)) 0 1 (some 6)) 8 0 (some 9)) 0 2 (some 8)) 0 3 (some 10)) 12 3) 11 2 (some 12)) 11 3 (some 16)) 0 4 (some 11)) 18 3) 17 2 (some 18)) 17 3 (some 22)) 0 5 (some 17)) 23 0 (some 11)) 24 18) 23 3 (some 24)) 23 4 (some 43))) hJ lX9_init_67 lX9_init_68 lX9_init_71 lX9_init_72 lX9_init_73 lX9_init_76 lX9_init_79 (lvk_1 (n := 23) (by decide)) hK rfl (by decide +kernel) sh_23 (by decide) (Nat.le_of_ble_eq_true rfl) (Nat.le_of_ble_eq_true rfl) rfl (fun P h => k_X4_23 (by omega) (ks_up hK (by decide)) h) (fun hK => ?_)
  refine q_newO1 (n' := 65) (kk := 20) (z := 11) (I' := (u2 (u2 (u2 (u2 (u2 (u2 (u2 (u2 (u2 (u2 (u2 (u2 (u2 (u2 (fun _ _ => 0) 1 1 0) 1 2 0) 1 4 0) 1 7 0) 8 1 100) 8 2 300) 11 0 0) 11 1 0) 17 0 0) 17 1 0) 23 1 16) 23 2 0) 44 1 16) 44 2 0)) (R' := (u2 (u2 (gR (u2 (u2 (u2 (u2 (gR (u2 (u2 (u2 (u2 (gR (u2 (u2 (u2 (gR (u2 (u2 (u2 (u2 (u2 (u2 (u2 (u2 (u2 (u2 (fun _ _ => none) 1 0 (some 2)) 1 3 (some 3)) 1 5 (some 4)) 1 6 (some 5)) 0 0 (some 1)) 6 0 (some 7)) 0 1 (some 6)) 8 0 (some 9)) 0 2 (some 8)) 0 3 (some 10)) 12 3) 11 2 (some 12)) 11 3 (some 16)) 0 4 (some 11)) 18 3) 17 2 (some 18)) 17 3 (some 22)) 0 5 (some 17)) 23 0 (some 11)) 24 18) 23 3 (some 24)) 23 4 (some 43)) 0 6 (some 23)) 44 0 (some 11)) 45 18) 44 3 (some 45)) 44 4 (some 64))) hJ lX9_init_82 lX9_init_83 lX9_init_86 lX9_init_87 lX9_init_88 lX9_init_91 lX9_init_94 (lvk_1 (n := 44) (by decide)) hK rfl (by decide +kernel) sh_44 (by decide) (Nat.le_of_ble_eq_true rfl) (Nat.le_of_ble_eq_true rfl) rfl (fun P h => k_X2_44 (by omega) (ks_up hK (by decide)) h) (fun hK => ?_)
  refine q_putn hJ lX9_init_97 lX9_init_98 lX9_init_99 (lvk_1 (n := 65) (by decide)) hK rfl (fun hK => ?_)
  refine q_puti hJ lX9_init_102 lX9_init_103 lX9_init_104 (lvk_1 (n := 65) (by decide)) hK rfl (fun hK => ?_)
  refine q_puti hJ lX9_init_107 lX9_init_108 lX9_init_109 (lvk_1 (n := 65) (by decide)) hK rfl (fun hK => ?_)
  refine q_puti hJ lX9_init_112 lX9_init_113 lX9_init_114 (lvk_1 (n := 65) (by decide)) hK rfl (fun hK => ?_)
  refine q_puti hJ lX9_init_117 lX9_init_118 lX9_init_119 (lvk_1 (n := 65) (by decide)) hK rfl (fun hK => ?_)
  replace hK : KS 65 IC9 RC9 := hK
  show J 122 _ [] (65, 64, 1675) (mk IC9 RC9)
  refine hj1 hJ lX9_init_122 (hj1 hJ lX9_init_123 ?_)
  show J 124 (lset (entA 0 [.ref 0]) 1 (.int (nI 0))) [] (65, 64, 1675) (mk IC9 RC9)
  refine q_slot (s := 0) (n' := 85) (R' := RD0) hJ (lvk_set (lvk_1 (by decide))) rfl (by decide) hK (by decide +kernel) (by decide) sh_65 (by decide) (Nat.le_of_ble_eq_true rfl) (Nat.le_of_ble_eq_true rfl) rfl (fun Q hq => k_X6_65 (by omega) (ks_up hK (by decide)) hq) (fun I0 hK f0 c0 => ?_)
  replace hK : KS 85 I0 RE0 := hK
  show J 124 (lset (lset (entA 0 [.ref 0]) 1 (.int (nI 0))) 1 (.int (nI 1))) [] (85, 84, 3663) (mk I0 RE0)
  refine q_slot (s := 1) (n' := 105) (R' := RD1) hJ (lvk_set (lvk_set (lvk_1 (by decide)))) rfl (by decide) hK (by decide +kernel) (by decide) sh_85 (by decide) (Nat.le_of_ble_eq_true rfl) (Nat.le_of_ble_eq_true rfl) rfl (fun Q hq => k_X6_85 (by omega) (ks_up hK (by decide)) hq) (fun I1 hK f1 c1 => ?_)
  replace hK : KS 105 I1 RE1 := hK
  show J 124 (lset (lset (lset (entA 0 [.ref 0]) 1 (.int (nI 0))) 1 (.int (nI 1))) 1 (.int (nI 2))) [] (105, 104, 5651) (mk I1 RE1)
  refine q_slot (s := 2) (n' := 125) (R' := RD2) hJ (lvk_set (lvk_set (lvk_set (lvk_1 (by decide))))) rfl (by decide) hK (by decide +kernel) (by decide) sh_105 (by decide) (Nat.le_of_ble_eq_true rfl) (Nat.le_of_ble_eq_true rfl) rfl (fun Q hq => k_X6_105 (by omega) (ks_up hK (by decide)) hq) (fun I2 hK f2 c2 => ?_)
  replace hK : KS 125 I2 RE2 := hK
  show J 124 (lset (lset (lset (lset (entA 0 [.ref 0]) 1 (.int (nI 0))) 1 (.int (nI 1))) 1 (.int (nI 2))) 1 (.int (nI 3))) [] (125, 124, 7639) (mk I2 RE2)
  refine hj1 hJ lX9_init_124 (hj1 hJ lX9_init_125 (hj1 hJ lX9_init_126 ⟨fun _ => ?_, fun w => absurd (nI_le (a := 3) (b := 3) (by omega) (by omega)) w⟩))
  refine hj1 hJ lX9_init_148 (hj1 hJ lX9_init_149 (hj1 hJ lX9_init_150 ⟨rfl, by decide, ?_⟩))
  have r3 : RE2 0 3 = some 10 := by decide +kernel
  have r0 : RE2 10 0 = some 65 := by decide +kernel
  show J 153 _ (va_rf (RE2 0 3) :: [.ref 0]) (125, 124, 7639) (mk I2 RE2)
  rw [r3]
  refine hj1 hJ lX9_init_153 (hj1 hJ lX9_init_154 ⟨rfl, by decide, vp_in_nI (n := 0) (N := 3) (by decide) (by decide), ?_⟩)
  show J 155 _ (va_rf (RE2 10 0) :: [.ref 0]) (125, 124, 7639) (mk I2 RE2)
  rw [r0]
  refine hj1 hJ lX9_init_155 ⟨rfl, by decide, ?_⟩
  show J 158 _ [] (125, 124, 7639) (mk I2 (u2 RE2 0 8 (some 65)))
  refine hj1 hJ lX9_init_158 ⟨(Nat.le_of_ble_eq_true rfl), (Nat.le_of_ble_eq_true rfl), ?_⟩
  show P (.inl none) 125 (mk I2 (u2 RE2 0 8 (some 65)))
  have hK9 := ks_R (c := 0) (k := 8) (r := some 65) hK (by decide) (fun q e => by cases e; decide)
  rw [re_R9] at hK9 ⊢
  have lo : ∀ a, a < 65 → I2 a = IC9 a := fun a ha => (f2 a (Or.inl (by omega))).trans ((f1 a (Or.inl (by omega))).trans (f0 a (Or.inl ha)))
  refine h I2 hK9 ⟨?_, ?_, ?_, ?_, ?_, fun a h1 h2 j => ?_, CPR_cg c0 (fun a h1 h2 => (f2 a (Or.inl (by omega))).trans (f1 a (Or.inl (by omega))))⟩
  · rw [lo 0 (by decide)]; decide +kernel
  · rw [lo 0 (by decide)]; decide +kernel
  · rw [lo 0 (by decide)]; decide +kernel
  · rw [lo 0 (by decide)]; decide +kernel
  · rw [lo 1 (by decide)]; decide +kernel
  · rw [lo a (by omega)]
    revert j
    unfold IC9
    repeat first | exact fun _ => rfl | refine zu ?_ (Or.inr rfl) | refine zu ?_ (Or.inl (by omega))
end
