/-! ===== the reference's expression, at every depth ===== -/
theorem pp_0 (ch : Nat → Int32) (pos : Nat) : pp ch 0 pos = pfac ch (fun p => (false, p, [])) false pos := rfl
theorem pp_fac (ch : Nat → Int32) (k pos : Nat) : pp ch (4 * k + 4) pos = pfac ch (pp ch (4 * k + 3)) true pos := by
  show (if (4 * k + 3 + 1) % 4 = 0 then pfac ch (pp ch (4 * k + 3)) true pos else plev ch (3 - (4 * k + 3 + 1) % 4) (pp ch (4 * k + 3)) pos) = _
  rw [if_pos (by omega)]
theorem pp_lev (ch : Nat → Int32) (k j pos : Nat) (hj : j < 3) : pp ch (4 * k + j + 1) pos = plev ch (2 - j) (pp ch (4 * k + j)) pos := by
  show (if (4 * k + j + 1) % 4 = 0 then pfac ch (pp ch (4 * k + j)) true pos else plev ch (3 - (4 * k + j + 1) % 4) (pp ch (4 * k + j)) pos) = _
  rw [if_neg (by omega), show 3 - (4 * k + j + 1) % 4 = 2 - j by omega]
theorem mc_levels {ch : Nat → Int32} {len dep k d0 : Nat} (hF : MC ch len d0 yX10_factor (Cond.code yX10_factor cX10_factor 3 (some .int)) (pp ch (4 * k)) dep) (h0 : 8 ≤ d0) : MC ch len (d0 + 12) yX10_expression (Cond.code yX10_expression cX10_expression 3 (some .int)) (pp ch (4 * k + 3)) dep := by
  have hP : MC ch len (d0 + 8) yX10_product (Cond.code yX10_product cX10_product 2 (some .int)) (pp ch (4 * k + 1)) dep := fun d P I F L D pr sv p mk hd hs hm h => m_product (d0 := d0) (by omega) (by omega) hF hs hm (fun I' x mk' q => h I' x mk' (by rw [pp_lev ch k 0 p (by omega)]; exact q))
  have hS : MC ch len (d0 + 10) yX10_sum (Cond.code yX10_sum cX10_sum 3 (some .int)) (pp ch (4 * k + 2)) dep := fun d P I F L D pr sv p mk hd hs hm h => m_sum (d0 := d0 + 8) (by omega) (by omega) hP hs hm (fun I' x mk' q => h I' x mk' (by rw [pp_lev ch k 1 p (by omega)]; exact q))
  exact fun d P I F L D pr sv p mk hd hs hm h => m_expression (d0 := d0 + 10) (by omega) (by omega) hS hs hm (fun I' x mk' q => h I' x mk' (by rw [pp_lev ch k 2 p (by omega)]; exact q))
theorem mc_expr (ch : Nat → Int32) (len : Nat) : ∀ k, k ≤ 4 → MC ch len (20 + 14 * k) yX10_expression (Cond.code yX10_expression cX10_expression 3 (some .int)) (pp ch (4 * k + 3)) (4 - k) := by
  intro k
  induction k with
  | zero =>
    intro _
    exact mc_levels (k := 0) (d0 := 8) (fun d P I F L D pr sv p mk hd hs hm h => m_factor (dep := 4) (d0 := 0) (rec := fun p => (false, p, [])) (by omega) (by omega) (fun w => absurd w (by omega)) (by omega) hs hm h) (by omega)
  | succ k ih =>
    intro hk
    have hE := ih (by omega)
    have e : 4 - k = (4 - (k + 1)) + 1 := by omega
    rw [e] at hE
    have q := mc_levels (dep := 4 - (k + 1)) (k := k + 1) (d0 := 22 + 14 * k) (fun d P I F L D pr sv p mk hd hs hm h => m_factor (dep := 4 - (k + 1)) (d0 := 20 + 14 * k) (rec := pp ch (4 * k + 3)) (by omega) (by omega) (fun _ => hE) (by omega) hs hm (fun I' x mk' q => h I' x mk' (by
      have e9 : ((4 - (k + 1)) != 4) = true := by simp; omega
      rw [e9] at q
      rw [show 4 * (k + 1) = 4 * k + 4 from rfl, pp_fac ch k p]
      exact q))) (by omega)
    have e2 : 20 + 14 * (k + 1) = 22 + 14 * k + 12 := by omega
    rw [e2]
    exact q
theorem mc_top (ch : Nat → Int32) (len : Nat) : MC ch len 76 yX10_expression (Cond.code yX10_expression cX10_expression 3 (some .int)) (pp ch 19) 0 := mc_expr ch len 4 (by omega)
/-! ===== writes: a tree's codes into readCode ===== -/
def wr (f : Nat → Int32) (w : Nat) (A : List Int32) : Nat → Int32 := fun j => if w ≤ j ∧ j < w + A.length then A.getD (j - w) 0 else f j
theorem wr_nil (f : Nat → Int32) (w : Nat) : wr f w [] = f := by funext j; simp only [wr, List.length_nil]; rw [if_neg (by omega)]
theorem wr_app (f : Nat → Int32) (w : Nat) (A B : List Int32) : wr (wr f w A) (w + A.length) B = wr f w (A ++ B) := by
  funext j
  simp only [wr, List.length_append]
  by_cases h1 : w + A.length ≤ j ∧ j < w + A.length + B.length
  · rw [if_pos h1, if_pos (by omega)]
    rw [List.getD_eq_getElem?_getD, List.getD_eq_getElem?_getD, List.getElem?_append_right (by omega)]
    congr 2
    omega
  · rw [if_neg h1]
    by_cases h2 : w ≤ j ∧ j < w + A.length
    · rw [if_pos h2, if_pos (by omega)]
      rw [List.getD_eq_getElem?_getD, List.getD_eq_getElem?_getD, List.getElem?_append_left (by omega)]
    · rw [if_neg h2, if_neg (by omega)]
theorem wr_one (f : Nat → Int32) (w : Nat) (c : Int32) : (fun j => if j = w then c else f j) = wr f w [c] := by
  funext j
  simp only [wr, List.length_cons, List.length_nil]
  by_cases h : j = w
  · subst h; simp
  · rw [if_neg h, if_neg (by omega)]
theorem Tr.congr {I I' : Nat → Nat → Int32} {r : Nat} {A : List Int32} (h : Tr I r A) (h0 : I' 130 = I 130) (h1 : I' 131 = I 131) (h2 : I' 132 = I 132) (h3 : I' 133 = I 133) : Tr I' r A := by
  intro Q q1 q2 q3
  rw [h0] at q1
  rw [h0, h1, h2] at q2
  rw [h0, h1, h2, h3] at q3
  exact h Q q1 q2 q3
def WrC (I0 : Nat → Nat → Int32) (r : Nat) (A : List Int32) : Prop := 0 < A.length ∧ ∀ (d : Nat) (P : PO) (I : Nat → Nat → Int32) (F : Nat → Nat → UInt32) (L : Nat → Nat → Int64) (D : Nat → Nat → UInt64) (pr : Nat) (sv : Option Nat) (w : Nat), A.length + 1 ≤ d → r < 200 → I 130 = I0 130 → I 131 = I0 131 → I 132 = I0 132 → I 133 = I0 133 → I 125 19 = nI w → w + A.length ≤ 200 → P (.inl none) 150 (u2 (r2 I 136 (wr (I 136) w A)) 125 19 (nI (w + A.length)), F, RR pr sv, L, D) → CallOK d 0 0 yX10_writes (Cond.code yX10_writes cX10_writes 3 none) [.ref 125, .int (nI r)] 150 (I, F, RR pr sv, L, D) P
