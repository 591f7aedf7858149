/-! ===== the rows of the law ===== -/
theorem lk_lt {B : List (Nat × OP)} {m pc : Nat} (hp : m ≤ pc) : ∀ {A : List (Nat × OP)}, A.all (fun q => Nat.blt q.1 m) = true → lk (A ++ B) pc = lk B pc
  | [], _ => rfl
  | (q, o) :: t, h => by
    have h1 : Nat.blt q m = true ∧ t.all (fun q => Nat.blt q.1 m) = true := by simpa [List.all_cons] using h
    have h2 : q < m := Nat.le_of_ble_eq_true h1.1
    have h3 : Nat.beq q pc = false := by
      cases e : Nat.beq q pc with
      | false => rfl
      | true => have := Nat.eq_of_beq_eq_true e; omega
    show (bif Nat.beq q pc then o else lk (t ++ B) pc) = _
    rw [h3]
    exact lk_lt hp h1.2
theorem lk_no {m pc : Nat} (hp : pc < m) : ∀ {B : List (Nat × OP)}, B.all (fun q => Nat.ble m q.1) = true → lk B pc = lk [] pc
  | [], _ => rfl
  | (q, o) :: t, h => by
    have h1 : Nat.ble m q = true ∧ t.all (fun q => Nat.ble m q.1) = true := by simpa [List.all_cons] using h
    have h2 : m ≤ q := Nat.le_of_ble_eq_true h1.1
    have h3 : Nat.beq q pc = false := by
      cases e : Nat.beq q pc with
      | false => rfl
      | true => have := Nat.eq_of_beq_eq_true e; omega
    show (bif Nat.beq q pc then o else lk t pc) = _
    rw [h3]
    exact lk_no hp h1.2
theorem lk_ge {B : List (Nat × OP)} {m pc : Nat} (hp : pc < m) (hB : B.all (fun q => Nat.ble m q.1) = true) : ∀ {A : List (Nat × OP)}, lk (A ++ B) pc = lk A pc
  | [] => lk_no hp hB
  | (q, o) :: t => by
    show (bif Nat.beq q pc then o else lk (t ++ B) pc) = (bif Nat.beq q pc then o else lk t pc)
    rw [lk_ge hp hB]
section
variable {b L : Nat} {xs : Nat → Int32}
set_option maxRecDepth 20000 in
theorem lkc_0 {pc : Nat} (h1 : 0 ≤ pc) (h2 : pc < 227) : lk (tL_law b L xs) pc = lk (tL0 b L xs) pc := by
  unfold tL_law
  exact lk_ge h2 (by rfl)
set_option maxRecDepth 20000 in
theorem lkc_1 {pc : Nat} (h1 : 227 ≤ pc) (h2 : pc < 328) : lk (tL_law b L xs) pc = lk (tL1 b L xs) pc := by
  unfold tL_law
  rw [lk_lt (m := 227) (Nat.le_trans (Nat.le_of_ble_eq_true rfl) h1) (by rfl)]
  exact lk_ge h2 (by rfl)
set_option maxRecDepth 20000 in
theorem lkc_2 {pc : Nat} (h1 : 328 ≤ pc) (h2 : pc < 424) : lk (tL_law b L xs) pc = lk (tL2 b L xs) pc := by
  unfold tL_law
  rw [lk_lt (m := 227) (Nat.le_trans (Nat.le_of_ble_eq_true rfl) h1) (by rfl), lk_lt (m := 328) (Nat.le_trans (Nat.le_of_ble_eq_true rfl) h1) (by rfl)]
  exact lk_ge h2 (by rfl)
set_option maxRecDepth 20000 in
theorem lkc_3 {pc : Nat} (h1 : 424 ≤ pc) (h2 : pc < 511) : lk (tL_law b L xs) pc = lk (tL3 b L xs) pc := by
  unfold tL_law
  rw [lk_lt (m := 227) (Nat.le_trans (Nat.le_of_ble_eq_true rfl) h1) (by rfl), lk_lt (m := 328) (Nat.le_trans (Nat.le_of_ble_eq_true rfl) h1) (by rfl), lk_lt (m := 424) (Nat.le_trans (Nat.le_of_ble_eq_true rfl) h1) (by rfl)]
  exact lk_ge h2 (by rfl)
set_option maxRecDepth 20000 in
theorem lkc_4 {pc : Nat} (h1 : 511 ≤ pc) (h2 : pc < 600) : lk (tL_law b L xs) pc = lk (tL4 b L xs) pc := by
  unfold tL_law
  rw [lk_lt (m := 227) (Nat.le_trans (Nat.le_of_ble_eq_true rfl) h1) (by rfl), lk_lt (m := 328) (Nat.le_trans (Nat.le_of_ble_eq_true rfl) h1) (by rfl), lk_lt (m := 424) (Nat.le_trans (Nat.le_of_ble_eq_true rfl) h1) (by rfl), lk_lt (m := 511) (Nat.le_trans (Nat.le_of_ble_eq_true rfl) h1) (by rfl)]
  exact lk_ge h2 (by rfl)
set_option maxRecDepth 20000 in
theorem lkc_5 {pc : Nat} (h1 : 600 ≤ pc) (h2 : pc < 694) : lk (tL_law b L xs) pc = lk (tL5 b L xs) pc := by
  unfold tL_law
  rw [lk_lt (m := 227) (Nat.le_trans (Nat.le_of_ble_eq_true rfl) h1) (by rfl), lk_lt (m := 328) (Nat.le_trans (Nat.le_of_ble_eq_true rfl) h1) (by rfl), lk_lt (m := 424) (Nat.le_trans (Nat.le_of_ble_eq_true rfl) h1) (by rfl), lk_lt (m := 511) (Nat.le_trans (Nat.le_of_ble_eq_true rfl) h1) (by rfl), lk_lt (m := 600) (Nat.le_trans (Nat.le_of_ble_eq_true rfl) h1) (by rfl)]
  exact lk_ge h2 (by rfl)
set_option maxRecDepth 20000 in
theorem lkc_6 {pc : Nat} (h1 : 694 ≤ pc) (h2 : pc < 790) : lk (tL_law b L xs) pc = lk (tL6 b L xs) pc := by
  unfold tL_law
  rw [lk_lt (m := 227) (Nat.le_trans (Nat.le_of_ble_eq_true rfl) h1) (by rfl), lk_lt (m := 328) (Nat.le_trans (Nat.le_of_ble_eq_true rfl) h1) (by rfl), lk_lt (m := 424) (Nat.le_trans (Nat.le_of_ble_eq_true rfl) h1) (by rfl), lk_lt (m := 511) (Nat.le_trans (Nat.le_of_ble_eq_true rfl) h1) (by rfl), lk_lt (m := 600) (Nat.le_trans (Nat.le_of_ble_eq_true rfl) h1) (by rfl), lk_lt (m := 694) (Nat.le_trans (Nat.le_of_ble_eq_true rfl) h1) (by rfl)]
  exact lk_ge h2 (by rfl)
set_option maxRecDepth 20000 in
theorem lkc_7 {pc : Nat} (h1 : 790 ≤ pc) (h2 : pc < 884) : lk (tL_law b L xs) pc = lk (tL7 b L xs) pc := by
  unfold tL_law
  rw [lk_lt (m := 227) (Nat.le_trans (Nat.le_of_ble_eq_true rfl) h1) (by rfl), lk_lt (m := 328) (Nat.le_trans (Nat.le_of_ble_eq_true rfl) h1) (by rfl), lk_lt (m := 424) (Nat.le_trans (Nat.le_of_ble_eq_true rfl) h1) (by rfl), lk_lt (m := 511) (Nat.le_trans (Nat.le_of_ble_eq_true rfl) h1) (by rfl), lk_lt (m := 600) (Nat.le_trans (Nat.le_of_ble_eq_true rfl) h1) (by rfl), lk_lt (m := 694) (Nat.le_trans (Nat.le_of_ble_eq_true rfl) h1) (by rfl), lk_lt (m := 790) (Nat.le_trans (Nat.le_of_ble_eq_true rfl) h1) (by rfl)]
  exact lk_ge h2 (by rfl)
set_option maxRecDepth 20000 in
theorem lkc_8 {pc : Nat} (h1 : 884 ≤ pc) (h2 : pc < 982) : lk (tL_law b L xs) pc = lk (tL8 b L xs) pc := by
  unfold tL_law
  rw [lk_lt (m := 227) (Nat.le_trans (Nat.le_of_ble_eq_true rfl) h1) (by rfl), lk_lt (m := 328) (Nat.le_trans (Nat.le_of_ble_eq_true rfl) h1) (by rfl), lk_lt (m := 424) (Nat.le_trans (Nat.le_of_ble_eq_true rfl) h1) (by rfl), lk_lt (m := 511) (Nat.le_trans (Nat.le_of_ble_eq_true rfl) h1) (by rfl), lk_lt (m := 600) (Nat.le_trans (Nat.le_of_ble_eq_true rfl) h1) (by rfl), lk_lt (m := 694) (Nat.le_trans (Nat.le_of_ble_eq_true rfl) h1) (by rfl), lk_lt (m := 790) (Nat.le_trans (Nat.le_of_ble_eq_true rfl) h1) (by rfl), lk_lt (m := 884) (Nat.le_trans (Nat.le_of_ble_eq_true rfl) h1) (by rfl)]
  exact lk_ge h2 (by rfl)
set_option maxRecDepth 20000 in
theorem lkc_9 {pc : Nat} (h1 : 982 ≤ pc) (h2 : pc < 1078) : lk (tL_law b L xs) pc = lk (tL9 b L xs) pc := by
  unfold tL_law
  rw [lk_lt (m := 227) (Nat.le_trans (Nat.le_of_ble_eq_true rfl) h1) (by rfl), lk_lt (m := 328) (Nat.le_trans (Nat.le_of_ble_eq_true rfl) h1) (by rfl), lk_lt (m := 424) (Nat.le_trans (Nat.le_of_ble_eq_true rfl) h1) (by rfl), lk_lt (m := 511) (Nat.le_trans (Nat.le_of_ble_eq_true rfl) h1) (by rfl), lk_lt (m := 600) (Nat.le_trans (Nat.le_of_ble_eq_true rfl) h1) (by rfl), lk_lt (m := 694) (Nat.le_trans (Nat.le_of_ble_eq_true rfl) h1) (by rfl), lk_lt (m := 790) (Nat.le_trans (Nat.le_of_ble_eq_true rfl) h1) (by rfl), lk_lt (m := 884) (Nat.le_trans (Nat.le_of_ble_eq_true rfl) h1) (by rfl), lk_lt (m := 982) (Nat.le_trans (Nat.le_of_ble_eq_true rfl) h1) (by rfl)]
  exact lk_ge h2 (by rfl)
set_option maxRecDepth 20000 in
theorem lkc_10 {pc : Nat} (h1 : 1078 ≤ pc) (h2 : pc < 1185) : lk (tL_law b L xs) pc = lk (tL10 b L xs) pc := by
  unfold tL_law
  rw [lk_lt (m := 227) (Nat.le_trans (Nat.le_of_ble_eq_true rfl) h1) (by rfl), lk_lt (m := 328) (Nat.le_trans (Nat.le_of_ble_eq_true rfl) h1) (by rfl), lk_lt (m := 424) (Nat.le_trans (Nat.le_of_ble_eq_true rfl) h1) (by rfl), lk_lt (m := 511) (Nat.le_trans (Nat.le_of_ble_eq_true rfl) h1) (by rfl), lk_lt (m := 600) (Nat.le_trans (Nat.le_of_ble_eq_true rfl) h1) (by rfl), lk_lt (m := 694) (Nat.le_trans (Nat.le_of_ble_eq_true rfl) h1) (by rfl), lk_lt (m := 790) (Nat.le_trans (Nat.le_of_ble_eq_true rfl) h1) (by rfl), lk_lt (m := 884) (Nat.le_trans (Nat.le_of_ble_eq_true rfl) h1) (by rfl), lk_lt (m := 982) (Nat.le_trans (Nat.le_of_ble_eq_true rfl) h1) (by rfl), lk_lt (m := 1078) (Nat.le_trans (Nat.le_of_ble_eq_true rfl) h1) (by rfl)]
  exact lk_ge h2 (by rfl)
set_option maxRecDepth 20000 in
theorem lkc_11 {pc : Nat} (h1 : 1185 ≤ pc) (h2 : pc < 1281) : lk (tL_law b L xs) pc = lk (tL11 b L xs) pc := by
  unfold tL_law
  rw [lk_lt (m := 227) (Nat.le_trans (Nat.le_of_ble_eq_true rfl) h1) (by rfl), lk_lt (m := 328) (Nat.le_trans (Nat.le_of_ble_eq_true rfl) h1) (by rfl), lk_lt (m := 424) (Nat.le_trans (Nat.le_of_ble_eq_true rfl) h1) (by rfl), lk_lt (m := 511) (Nat.le_trans (Nat.le_of_ble_eq_true rfl) h1) (by rfl), lk_lt (m := 600) (Nat.le_trans (Nat.le_of_ble_eq_true rfl) h1) (by rfl), lk_lt (m := 694) (Nat.le_trans (Nat.le_of_ble_eq_true rfl) h1) (by rfl), lk_lt (m := 790) (Nat.le_trans (Nat.le_of_ble_eq_true rfl) h1) (by rfl), lk_lt (m := 884) (Nat.le_trans (Nat.le_of_ble_eq_true rfl) h1) (by rfl), lk_lt (m := 982) (Nat.le_trans (Nat.le_of_ble_eq_true rfl) h1) (by rfl), lk_lt (m := 1078) (Nat.le_trans (Nat.le_of_ble_eq_true rfl) h1) (by rfl), lk_lt (m := 1185) (Nat.le_trans (Nat.le_of_ble_eq_true rfl) h1) (by rfl)]
  exact lk_ge h2 (by rfl)
set_option maxRecDepth 20000 in
theorem lkc_12 {pc : Nat} (h1 : 1281 ≤ pc) (h2 : pc < 1376) : lk (tL_law b L xs) pc = lk (tL12 b L xs) pc := by
  unfold tL_law
  rw [lk_lt (m := 227) (Nat.le_trans (Nat.le_of_ble_eq_true rfl) h1) (by rfl), lk_lt (m := 328) (Nat.le_trans (Nat.le_of_ble_eq_true rfl) h1) (by rfl), lk_lt (m := 424) (Nat.le_trans (Nat.le_of_ble_eq_true rfl) h1) (by rfl), lk_lt (m := 511) (Nat.le_trans (Nat.le_of_ble_eq_true rfl) h1) (by rfl), lk_lt (m := 600) (Nat.le_trans (Nat.le_of_ble_eq_true rfl) h1) (by rfl), lk_lt (m := 694) (Nat.le_trans (Nat.le_of_ble_eq_true rfl) h1) (by rfl), lk_lt (m := 790) (Nat.le_trans (Nat.le_of_ble_eq_true rfl) h1) (by rfl), lk_lt (m := 884) (Nat.le_trans (Nat.le_of_ble_eq_true rfl) h1) (by rfl), lk_lt (m := 982) (Nat.le_trans (Nat.le_of_ble_eq_true rfl) h1) (by rfl), lk_lt (m := 1078) (Nat.le_trans (Nat.le_of_ble_eq_true rfl) h1) (by rfl), lk_lt (m := 1185) (Nat.le_trans (Nat.le_of_ble_eq_true rfl) h1) (by rfl), lk_lt (m := 1281) (Nat.le_trans (Nat.le_of_ble_eq_true rfl) h1) (by rfl)]
  exact lk_ge h2 (by rfl)
set_option maxRecDepth 20000 in
theorem lkc_13 {pc : Nat} (h1 : 1376 ≤ pc) (h2 : pc < 1475) : lk (tL_law b L xs) pc = lk (tL13 b L xs) pc := by
  unfold tL_law
  rw [lk_lt (m := 227) (Nat.le_trans (Nat.le_of_ble_eq_true rfl) h1) (by rfl), lk_lt (m := 328) (Nat.le_trans (Nat.le_of_ble_eq_true rfl) h1) (by rfl), lk_lt (m := 424) (Nat.le_trans (Nat.le_of_ble_eq_true rfl) h1) (by rfl), lk_lt (m := 511) (Nat.le_trans (Nat.le_of_ble_eq_true rfl) h1) (by rfl), lk_lt (m := 600) (Nat.le_trans (Nat.le_of_ble_eq_true rfl) h1) (by rfl), lk_lt (m := 694) (Nat.le_trans (Nat.le_of_ble_eq_true rfl) h1) (by rfl), lk_lt (m := 790) (Nat.le_trans (Nat.le_of_ble_eq_true rfl) h1) (by rfl), lk_lt (m := 884) (Nat.le_trans (Nat.le_of_ble_eq_true rfl) h1) (by rfl), lk_lt (m := 982) (Nat.le_trans (Nat.le_of_ble_eq_true rfl) h1) (by rfl), lk_lt (m := 1078) (Nat.le_trans (Nat.le_of_ble_eq_true rfl) h1) (by rfl), lk_lt (m := 1185) (Nat.le_trans (Nat.le_of_ble_eq_true rfl) h1) (by rfl), lk_lt (m := 1281) (Nat.le_trans (Nat.le_of_ble_eq_true rfl) h1) (by rfl), lk_lt (m := 1376) (Nat.le_trans (Nat.le_of_ble_eq_true rfl) h1) (by rfl)]
  exact lk_ge h2 (by rfl)
set_option maxRecDepth 20000 in
theorem lkc_14 {pc : Nat} (h1 : 1475 ≤ pc) (h2 : pc < 1569) : lk (tL_law b L xs) pc = lk (tL14 b L xs) pc := by
  unfold tL_law
  rw [lk_lt (m := 227) (Nat.le_trans (Nat.le_of_ble_eq_true rfl) h1) (by rfl), lk_lt (m := 328) (Nat.le_trans (Nat.le_of_ble_eq_true rfl) h1) (by rfl), lk_lt (m := 424) (Nat.le_trans (Nat.le_of_ble_eq_true rfl) h1) (by rfl), lk_lt (m := 511) (Nat.le_trans (Nat.le_of_ble_eq_true rfl) h1) (by rfl), lk_lt (m := 600) (Nat.le_trans (Nat.le_of_ble_eq_true rfl) h1) (by rfl), lk_lt (m := 694) (Nat.le_trans (Nat.le_of_ble_eq_true rfl) h1) (by rfl), lk_lt (m := 790) (Nat.le_trans (Nat.le_of_ble_eq_true rfl) h1) (by rfl), lk_lt (m := 884) (Nat.le_trans (Nat.le_of_ble_eq_true rfl) h1) (by rfl), lk_lt (m := 982) (Nat.le_trans (Nat.le_of_ble_eq_true rfl) h1) (by rfl), lk_lt (m := 1078) (Nat.le_trans (Nat.le_of_ble_eq_true rfl) h1) (by rfl), lk_lt (m := 1185) (Nat.le_trans (Nat.le_of_ble_eq_true rfl) h1) (by rfl), lk_lt (m := 1281) (Nat.le_trans (Nat.le_of_ble_eq_true rfl) h1) (by rfl), lk_lt (m := 1376) (Nat.le_trans (Nat.le_of_ble_eq_true rfl) h1) (by rfl), lk_lt (m := 1475) (Nat.le_trans (Nat.le_of_ble_eq_true rfl) h1) (by rfl)]
  exact lk_ge h2 (by rfl)
set_option maxRecDepth 20000 in
theorem lkc_15 {pc : Nat} (h1 : 1569 ≤ pc) : lk (tL_law b L xs) pc = lk (tL15 b L xs) pc := by
  unfold tL_law
  rw [lk_lt (m := 227) (Nat.le_trans (Nat.le_of_ble_eq_true rfl) h1) (by rfl), lk_lt (m := 328) (Nat.le_trans (Nat.le_of_ble_eq_true rfl) h1) (by rfl), lk_lt (m := 424) (Nat.le_trans (Nat.le_of_ble_eq_true rfl) h1) (by rfl), lk_lt (m := 511) (Nat.le_trans (Nat.le_of_ble_eq_true rfl) h1) (by rfl), lk_lt (m := 600) (Nat.le_trans (Nat.le_of_ble_eq_true rfl) h1) (by rfl), lk_lt (m := 694) (Nat.le_trans (Nat.le_of_ble_eq_true rfl) h1) (by rfl), lk_lt (m := 790) (Nat.le_trans (Nat.le_of_ble_eq_true rfl) h1) (by rfl), lk_lt (m := 884) (Nat.le_trans (Nat.le_of_ble_eq_true rfl) h1) (by rfl), lk_lt (m := 982) (Nat.le_trans (Nat.le_of_ble_eq_true rfl) h1) (by rfl), lk_lt (m := 1078) (Nat.le_trans (Nat.le_of_ble_eq_true rfl) h1) (by rfl), lk_lt (m := 1185) (Nat.le_trans (Nat.le_of_ble_eq_true rfl) h1) (by rfl), lk_lt (m := 1281) (Nat.le_trans (Nat.le_of_ble_eq_true rfl) h1) (by rfl), lk_lt (m := 1376) (Nat.le_trans (Nat.le_of_ble_eq_true rfl) h1) (by rfl), lk_lt (m := 1475) (Nat.le_trans (Nat.le_of_ble_eq_true rfl) h1) (by rfl), lk_lt (m := 1569) (Nat.le_trans (Nat.le_of_ble_eq_true rfl) h1) (by rfl)]
set_option maxRecDepth 20000 in
theorem lL_law_0 : lk (tL_law b L xs) 0 = oNew 601024 7293034 9 14 3 := (lkc_0 (Nat.le_of_ble_eq_true rfl) (Nat.le_of_ble_eq_true rfl)).trans rfl
set_option maxRecDepth 20000 in
theorem lL_law_3 : lk (tL_law b L xs) 3 = oDup 4 := (lkc_0 (Nat.le_of_ble_eq_true rfl) (Nat.le_of_ble_eq_true rfl)).trans rfl
set_option maxRecDepth 20000 in
theorem lL_law_4 : lk (tL_law b L xs) 4 = oCallI 2000 601024 7293034 124 7639 yX9_init (Cond.code yX9_init cX9_init 2 none) 0 7 := (lkc_0 (Nat.le_of_ble_eq_true rfl) (Nat.le_of_ble_eq_true rfl)).trans rfl
set_option maxRecDepth 20000 in
theorem lL_law_7 : lk (tL_law b L xs) 7 = oAst 1 8 := (lkc_0 (Nat.le_of_ble_eq_true rfl) (Nat.le_of_ble_eq_true rfl)).trans rfl
set_option maxRecDepth 20000 in
theorem lL_law_8 : lk (tL_law b L xs) 8 = oNew 601024 7293034 10 36 11 := (lkc_0 (Nat.le_of_ble_eq_true rfl) (Nat.le_of_ble_eq_true rfl)).trans rfl
set_option maxRecDepth 20000 in
theorem lL_law_11 : lk (tL_law b L xs) 11 = oDup 12 := (lkc_0 (Nat.le_of_ble_eq_true rfl) (Nat.le_of_ble_eq_true rfl)).trans rfl
set_option maxRecDepth 20000 in
theorem lL_law_12 : lk (tL_law b L xs) 12 = oCallI 2000 601024 7293034 22 5813 yX10_init (Cond.code yX10_init cX10_init 1 none) 0 15 := (lkc_0 (Nat.le_of_ble_eq_true rfl) (Nat.le_of_ble_eq_true rfl)).trans rfl
set_option maxRecDepth 20000 in
theorem lL_law_15 : lk (tL_law b L xs) 15 = oAst 2 16 := (lkc_0 (Nat.le_of_ble_eq_true rfl) (Nat.le_of_ble_eq_true rfl)).trans rfl
set_option maxRecDepth 20000 in
theorem lL_law_16 : lk (tL_law b L xs) 16 = oPush (.int 1) 17 := (lkc_0 (Nat.le_of_ble_eq_true rfl) (Nat.le_of_ble_eq_true rfl)).trans rfl
set_option maxRecDepth 20000 in
theorem lL_law_17 : lk (tL_law b L xs) 17 = oNewA 601024 7293034 101 19 := (lkc_0 (Nat.le_of_ble_eq_true rfl) (Nat.le_of_ble_eq_true rfl)).trans rfl
set_option maxRecDepth 20000 in
theorem lL_law_19 : lk (tL_law b L xs) 19 = oAst 3 20 := (lkc_0 (Nat.le_of_ble_eq_true rfl) (Nat.le_of_ble_eq_true rfl)).trans rfl
set_option maxRecDepth 20000 in
theorem lL_law_20 : lk (tL_law b L xs) 20 = oPush (.int 1) 21 := (lkc_0 (Nat.le_of_ble_eq_true rfl) (Nat.le_of_ble_eq_true rfl)).trans rfl
set_option maxRecDepth 20000 in
theorem lL_law_21 : lk (tL_law b L xs) 21 = oNewA 601024 7293034 105 23 := (lkc_0 (Nat.le_of_ble_eq_true rfl) (Nat.le_of_ble_eq_true rfl)).trans rfl
set_option maxRecDepth 20000 in
theorem lL_law_23 : lk (tL_law b L xs) 23 = oAst 4 25 := (lkc_0 (Nat.le_of_ble_eq_true rfl) (Nat.le_of_ble_eq_true rfl)).trans rfl
set_option maxRecDepth 20000 in
theorem lL_law_25 : lk (tL_law b L xs) 25 = oPush (.int 0) 26 := (lkc_0 (Nat.le_of_ble_eq_true rfl) (Nat.le_of_ble_eq_true rfl)).trans rfl
set_option maxRecDepth 20000 in
theorem lL_law_26 : lk (tL_law b L xs) 26 = oIst 5 28 := (lkc_0 (Nat.le_of_ble_eq_true rfl) (Nat.le_of_ble_eq_true rfl)).trans rfl
set_option maxRecDepth 20000 in
theorem lL_law_28 : lk (tL_law b L xs) 28 = oIld 5 30 := (lkc_0 (Nat.le_of_ble_eq_true rfl) (Nat.le_of_ble_eq_true rfl)).trans rfl
set_option maxRecDepth 20000 in
theorem lL_law_30 : lk (tL_law b L xs) 30 = oAld 0 31 := (lkc_0 (Nat.le_of_ble_eq_true rfl) (Nat.le_of_ble_eq_true rfl)).trans rfl
set_option maxRecDepth 20000 in
theorem lL_law_31 : lk (tL_law b L xs) 31 = oSlen b L 32 := (lkc_0 (Nat.le_of_ble_eq_true rfl) (Nat.le_of_ble_eq_true rfl)).trans rfl
set_option maxRecDepth 20000 in
theorem lL_law_32 : lk (tL_law b L xs) 32 = oPush (.int 4) 33 := (lkc_0 (Nat.le_of_ble_eq_true rfl) (Nat.le_of_ble_eq_true rfl)).trans rfl
set_option maxRecDepth 20000 in
theorem lL_law_33 : lk (tL_law b L xs) 33 = oI2 (fun x y => x - y) 34 := (lkc_0 (Nat.le_of_ble_eq_true rfl) (Nat.le_of_ble_eq_true rfl)).trans rfl
set_option maxRecDepth 20000 in
theorem lL_law_34 : lk (tL_law b L xs) 34 = oIc (fun x y => y < x) 1662 37 := (lkc_0 (Nat.le_of_ble_eq_true rfl) (Nat.le_of_ble_eq_true rfl)).trans rfl
set_option maxRecDepth 20000 in
theorem lL_law_37 : lk (tL_law b L xs) 37 = oAld 0 38 := (lkc_0 (Nat.le_of_ble_eq_true rfl) (Nat.le_of_ble_eq_true rfl)).trans rfl
set_option maxRecDepth 20000 in
theorem lL_law_38 : lk (tL_law b L xs) 38 = oIld 5 40 := (lkc_0 (Nat.le_of_ble_eq_true rfl) (Nat.le_of_ble_eq_true rfl)).trans rfl
set_option maxRecDepth 20000 in
theorem lL_law_40 : lk (tL_law b L xs) 40 = oSld b L xs 41 := (lkc_0 (Nat.le_of_ble_eq_true rfl) (Nat.le_of_ble_eq_true rfl)).trans rfl
set_option maxRecDepth 20000 in
theorem lL_law_41 : lk (tL_law b L xs) 41 = oPush (.int 31) 43 := (lkc_0 (Nat.le_of_ble_eq_true rfl) (Nat.le_of_ble_eq_true rfl)).trans rfl
set_option maxRecDepth 20000 in
theorem lL_law_43 : lk (tL_law b L xs) 43 = oI2 (fun x y => x &&& y) 44 := (lkc_0 (Nat.le_of_ble_eq_true rfl) (Nat.le_of_ble_eq_true rfl)).trans rfl
set_option maxRecDepth 20000 in
theorem lL_law_44 : lk (tL_law b L xs) 44 = oSw [(0, 176), (1, 232), (2, 276), (3, 289), (4, 302), (5, 358), (6, 414), (7, 494), (8, 562), (9, 630), (10, 698), (11, 754), (12, 810), (13, 866), (14, 922), (15, 978), (16, 1034), (17, 1090), (18, 1141), (19, 1185), (20, 1198), (21, 1261), (22, 1329), (23, 1385), (24, 1463), (25, 1540), (26, 1608), (27, 1621), (28, 1632)] 1656 := (lkc_0 (Nat.le_of_ble_eq_true rfl) (Nat.le_of_ble_eq_true rfl)).trans rfl
set_option maxRecDepth 20000 in
theorem lL_law_176 : lk (tL_law b L xs) 176 = oAld 1 177 := (lkc_0 (Nat.le_of_ble_eq_true rfl) (Nat.le_of_ble_eq_true rfl)).trans rfl
set_option maxRecDepth 20000 in
theorem lL_law_177 : lk (tL_law b L xs) 177 = oAld 0 178 := (lkc_0 (Nat.le_of_ble_eq_true rfl) (Nat.le_of_ble_eq_true rfl)).trans rfl
set_option maxRecDepth 20000 in
theorem lL_law_178 : lk (tL_law b L xs) 178 = oIld 5 180 := (lkc_0 (Nat.le_of_ble_eq_true rfl) (Nat.le_of_ble_eq_true rfl)).trans rfl
set_option maxRecDepth 20000 in
theorem lL_law_180 : lk (tL_law b L xs) 180 = oPush (.int 1) 181 := (lkc_0 (Nat.le_of_ble_eq_true rfl) (Nat.le_of_ble_eq_true rfl)).trans rfl
set_option maxRecDepth 20000 in
theorem lL_law_181 : lk (tL_law b L xs) 181 = oI2 (fun x y => x + y) 182 := (lkc_0 (Nat.le_of_ble_eq_true rfl) (Nat.le_of_ble_eq_true rfl)).trans rfl
set_option maxRecDepth 20000 in
theorem lL_law_182 : lk (tL_law b L xs) 182 = oSld b L xs 183 := (lkc_0 (Nat.le_of_ble_eq_true rfl) (Nat.le_of_ble_eq_true rfl)).trans rfl
set_option maxRecDepth 20000 in
theorem lL_law_183 : lk (tL_law b L xs) 183 = oAld 3 184 := (lkc_0 (Nat.le_of_ble_eq_true rfl) (Nat.le_of_ble_eq_true rfl)).trans rfl
set_option maxRecDepth 20000 in
theorem lL_law_184 : lk (tL_law b L xs) 184 = oCallG 2000 601024 7293034 1 6 yL_append (Cond.codeWith yL_append cL_append 4 (some .int) [(0, 9, 12, 13), (0, 9, 15, 15)]) 3 187 := (lkc_0 (Nat.le_of_ble_eq_true rfl) (Nat.le_of_ble_eq_true rfl)).trans rfl
set_option maxRecDepth 20000 in
theorem lL_law_187 : lk (tL_law b L xs) 187 = oIst 6 189 := (lkc_0 (Nat.le_of_ble_eq_true rfl) (Nat.le_of_ble_eq_true rfl)).trans rfl
set_option maxRecDepth 20000 in
theorem lL_law_189 : lk (tL_law b L xs) 189 = oAld 2 190 := (lkc_0 (Nat.le_of_ble_eq_true rfl) (Nat.le_of_ble_eq_true rfl)).trans rfl
set_option maxRecDepth 20000 in
theorem lL_law_190 : lk (tL_law b L xs) 190 = oAld 0 191 := (lkc_0 (Nat.le_of_ble_eq_true rfl) (Nat.le_of_ble_eq_true rfl)).trans rfl
set_option maxRecDepth 20000 in
theorem lL_law_191 : lk (tL_law b L xs) 191 = oIld 5 193 := (lkc_0 (Nat.le_of_ble_eq_true rfl) (Nat.le_of_ble_eq_true rfl)).trans rfl
set_option maxRecDepth 20000 in
theorem lL_law_193 : lk (tL_law b L xs) 193 = oPush (.int 1) 194 := (lkc_0 (Nat.le_of_ble_eq_true rfl) (Nat.le_of_ble_eq_true rfl)).trans rfl
set_option maxRecDepth 20000 in
theorem lL_law_194 : lk (tL_law b L xs) 194 = oI2 (fun x y => x + y) 195 := (lkc_0 (Nat.le_of_ble_eq_true rfl) (Nat.le_of_ble_eq_true rfl)).trans rfl
set_option maxRecDepth 20000 in
theorem lL_law_195 : lk (tL_law b L xs) 195 = oSld b L xs 196 := (lkc_0 (Nat.le_of_ble_eq_true rfl) (Nat.le_of_ble_eq_true rfl)).trans rfl
set_option maxRecDepth 20000 in
theorem lL_law_196 : lk (tL_law b L xs) 196 = oCallGV 2000 601024 7293034 0 0 yX10_append (Cond.code yX10_append cX10_append 5 (some .int)) 1 10 199 := (lkc_0 (Nat.le_of_ble_eq_true rfl) (Nat.le_of_ble_eq_true rfl)).trans rfl
set_option maxRecDepth 20000 in
theorem lL_law_199 : lk (tL_law b L xs) 199 = oIst 7 201 := (lkc_0 (Nat.le_of_ble_eq_true rfl) (Nat.le_of_ble_eq_true rfl)).trans rfl
set_option maxRecDepth 20000 in
theorem lL_law_201 : lk (tL_law b L xs) 201 = oAld 2 202 := (lkc_0 (Nat.le_of_ble_eq_true rfl) (Nat.le_of_ble_eq_true rfl)).trans rfl
set_option maxRecDepth 20000 in
theorem lL_law_202 : lk (tL_law b L xs) 202 = oCallGV 2000 601024 7293034 0 0 yX10_thrown (Cond.code yX10_thrown cX10_thrown 1 (some .int)) 0 10 205 := (lkc_0 (Nat.le_of_ble_eq_true rfl) (Nat.le_of_ble_eq_true rfl)).trans rfl
set_option maxRecDepth 20000 in
theorem lL_law_205 : lk (tL_law b L xs) 205 = oIld 6 207 := (lkc_0 (Nat.le_of_ble_eq_true rfl) (Nat.le_of_ble_eq_true rfl)).trans rfl
set_option maxRecDepth 20000 in
theorem lL_law_207 : lk (tL_law b L xs) 207 = oIc (fun x y => x = y) 212 210 := (lkc_0 (Nat.le_of_ble_eq_true rfl) (Nat.le_of_ble_eq_true rfl)).trans rfl
set_option maxRecDepth 20000 in
theorem lL_law_210 : lk (tL_law b L xs) 210 = oPush (.int 0) 211 := (lkc_0 (Nat.le_of_ble_eq_true rfl) (Nat.le_of_ble_eq_true rfl)).trans rfl
set_option maxRecDepth 20000 in
theorem lL_law_211 : lk (tL_law b L xs) 211 = oLret := (lkc_0 (Nat.le_of_ble_eq_true rfl) (Nat.le_of_ble_eq_true rfl)).trans rfl
set_option maxRecDepth 20000 in
theorem lL_law_212 : lk (tL_law b L xs) 212 = oIld 6 214 := (lkc_0 (Nat.le_of_ble_eq_true rfl) (Nat.le_of_ble_eq_true rfl)).trans rfl
set_option maxRecDepth 20000 in
theorem lL_law_214 : lk (tL_law b L xs) 214 = oIf (fun x => x = 0) 217 229 := (lkc_0 (Nat.le_of_ble_eq_true rfl) (Nat.le_of_ble_eq_true rfl)).trans rfl
set_option maxRecDepth 20000 in
theorem lL_law_217 : lk (tL_law b L xs) 217 = oAld 3 218 := (lkc_0 (Nat.le_of_ble_eq_true rfl) (Nat.le_of_ble_eq_true rfl)).trans rfl
set_option maxRecDepth 20000 in
theorem lL_law_218 : lk (tL_law b L xs) 218 = oPush (.int 0) 219 := (lkc_0 (Nat.le_of_ble_eq_true rfl) (Nat.le_of_ble_eq_true rfl)).trans rfl
set_option maxRecDepth 20000 in
theorem lL_law_219 : lk (tL_law b L xs) 219 = oAl 220 := (lkc_0 (Nat.le_of_ble_eq_true rfl) (Nat.le_of_ble_eq_true rfl)).trans rfl
set_option maxRecDepth 20000 in
theorem lL_law_220 : lk (tL_law b L xs) 220 = oIld 7 222 := (lkc_0 (Nat.le_of_ble_eq_true rfl) (Nat.le_of_ble_eq_true rfl)).trans rfl
set_option maxRecDepth 20000 in
theorem lL_law_222 : lk (tL_law b L xs) 222 = oIcv (fun x => .long x.toInt64) 223 := (lkc_0 (Nat.le_of_ble_eq_true rfl) (Nat.le_of_ble_eq_true rfl)).trans rfl
set_option maxRecDepth 20000 in
theorem lL_law_223 : lk (tL_law b L xs) 223 = oLcmp 224 := (lkc_0 (Nat.le_of_ble_eq_true rfl) (Nat.le_of_ble_eq_true rfl)).trans rfl
set_option maxRecDepth 20000 in
theorem lL_law_224 : lk (tL_law b L xs) 224 = oIf (fun x => x = 0) 229 227 := (lkc_0 (Nat.le_of_ble_eq_true rfl) (Nat.le_of_ble_eq_true rfl)).trans rfl
set_option maxRecDepth 20000 in
theorem lL_law_227 : lk (tL_law b L xs) 227 = oPush (.int 0) 228 := (lkc_1 (Nat.le_of_ble_eq_true rfl) (Nat.le_of_ble_eq_true rfl)).trans rfl
set_option maxRecDepth 20000 in
theorem lL_law_228 : lk (tL_law b L xs) 228 = oLret := (lkc_1 (Nat.le_of_ble_eq_true rfl) (Nat.le_of_ble_eq_true rfl)).trans rfl
set_option maxRecDepth 20000 in
theorem lL_law_229 : lk (tL_law b L xs) 229 = oGoto 1656 := (lkc_1 (Nat.le_of_ble_eq_true rfl) (Nat.le_of_ble_eq_true rfl)).trans rfl
set_option maxRecDepth 20000 in
theorem lL_law_232 : lk (tL_law b L xs) 232 = oAld 1 233 := (lkc_1 (Nat.le_of_ble_eq_true rfl) (Nat.le_of_ble_eq_true rfl)).trans rfl
set_option maxRecDepth 20000 in
theorem lL_law_233 : lk (tL_law b L xs) 233 = oAld 3 234 := (lkc_1 (Nat.le_of_ble_eq_true rfl) (Nat.le_of_ble_eq_true rfl)).trans rfl
set_option maxRecDepth 20000 in
theorem lL_law_234 : lk (tL_law b L xs) 234 = oCallG 2000 601024 7293034 1 6 yL_load (Cond.codeWith yL_load cL_load 3 (some .int) [(0, 8, 11, 13), (0, 8, 14, 15)]) 2 237 := (lkc_1 (Nat.le_of_ble_eq_true rfl) (Nat.le_of_ble_eq_true rfl)).trans rfl
set_option maxRecDepth 20000 in
theorem lL_law_237 : lk (tL_law b L xs) 237 = oIst 6 239 := (lkc_1 (Nat.le_of_ble_eq_true rfl) (Nat.le_of_ble_eq_true rfl)).trans rfl
set_option maxRecDepth 20000 in
theorem lL_law_239 : lk (tL_law b L xs) 239 = oAld 2 240 := (lkc_1 (Nat.le_of_ble_eq_true rfl) (Nat.le_of_ble_eq_true rfl)).trans rfl
set_option maxRecDepth 20000 in
theorem lL_law_240 : lk (tL_law b L xs) 240 = oCallGV 2000 601024 7293034 0 0 yX10_load (Cond.code yX10_load cX10_load 5 (some .int)) 0 10 243 := (lkc_1 (Nat.le_of_ble_eq_true rfl) (Nat.le_of_ble_eq_true rfl)).trans rfl
set_option maxRecDepth 20000 in
theorem lL_law_243 : lk (tL_law b L xs) 243 = oIst 7 245 := (lkc_1 (Nat.le_of_ble_eq_true rfl) (Nat.le_of_ble_eq_true rfl)).trans rfl
set_option maxRecDepth 20000 in
theorem lL_law_245 : lk (tL_law b L xs) 245 = oAld 2 246 := (lkc_1 (Nat.le_of_ble_eq_true rfl) (Nat.le_of_ble_eq_true rfl)).trans rfl
set_option maxRecDepth 20000 in
theorem lL_law_246 : lk (tL_law b L xs) 246 = oCallGV 2000 601024 7293034 0 0 yX10_thrown (Cond.code yX10_thrown cX10_thrown 1 (some .int)) 0 10 249 := (lkc_1 (Nat.le_of_ble_eq_true rfl) (Nat.le_of_ble_eq_true rfl)).trans rfl
set_option maxRecDepth 20000 in
theorem lL_law_249 : lk (tL_law b L xs) 249 = oIld 6 251 := (lkc_1 (Nat.le_of_ble_eq_true rfl) (Nat.le_of_ble_eq_true rfl)).trans rfl
set_option maxRecDepth 20000 in
theorem lL_law_251 : lk (tL_law b L xs) 251 = oIc (fun x y => x = y) 256 254 := (lkc_1 (Nat.le_of_ble_eq_true rfl) (Nat.le_of_ble_eq_true rfl)).trans rfl
set_option maxRecDepth 20000 in
theorem lL_law_254 : lk (tL_law b L xs) 254 = oPush (.int 0) 255 := (lkc_1 (Nat.le_of_ble_eq_true rfl) (Nat.le_of_ble_eq_true rfl)).trans rfl
set_option maxRecDepth 20000 in
theorem lL_law_255 : lk (tL_law b L xs) 255 = oLret := (lkc_1 (Nat.le_of_ble_eq_true rfl) (Nat.le_of_ble_eq_true rfl)).trans rfl
set_option maxRecDepth 20000 in
theorem lL_law_256 : lk (tL_law b L xs) 256 = oIld 6 258 := (lkc_1 (Nat.le_of_ble_eq_true rfl) (Nat.le_of_ble_eq_true rfl)).trans rfl
set_option maxRecDepth 20000 in
theorem lL_law_258 : lk (tL_law b L xs) 258 = oIf (fun x => x = 0) 261 273 := (lkc_1 (Nat.le_of_ble_eq_true rfl) (Nat.le_of_ble_eq_true rfl)).trans rfl
set_option maxRecDepth 20000 in
theorem lL_law_261 : lk (tL_law b L xs) 261 = oAld 3 262 := (lkc_1 (Nat.le_of_ble_eq_true rfl) (Nat.le_of_ble_eq_true rfl)).trans rfl
set_option maxRecDepth 20000 in
theorem lL_law_262 : lk (tL_law b L xs) 262 = oPush (.int 0) 263 := (lkc_1 (Nat.le_of_ble_eq_true rfl) (Nat.le_of_ble_eq_true rfl)).trans rfl
set_option maxRecDepth 20000 in
theorem lL_law_263 : lk (tL_law b L xs) 263 = oAl 264 := (lkc_1 (Nat.le_of_ble_eq_true rfl) (Nat.le_of_ble_eq_true rfl)).trans rfl
set_option maxRecDepth 20000 in
theorem lL_law_264 : lk (tL_law b L xs) 264 = oIld 7 266 := (lkc_1 (Nat.le_of_ble_eq_true rfl) (Nat.le_of_ble_eq_true rfl)).trans rfl
set_option maxRecDepth 20000 in
theorem lL_law_266 : lk (tL_law b L xs) 266 = oIcv (fun x => .long x.toInt64) 267 := (lkc_1 (Nat.le_of_ble_eq_true rfl) (Nat.le_of_ble_eq_true rfl)).trans rfl
set_option maxRecDepth 20000 in
theorem lL_law_267 : lk (tL_law b L xs) 267 = oLcmp 268 := (lkc_1 (Nat.le_of_ble_eq_true rfl) (Nat.le_of_ble_eq_true rfl)).trans rfl
set_option maxRecDepth 20000 in
theorem lL_law_268 : lk (tL_law b L xs) 268 = oIf (fun x => x = 0) 273 271 := (lkc_1 (Nat.le_of_ble_eq_true rfl) (Nat.le_of_ble_eq_true rfl)).trans rfl
set_option maxRecDepth 20000 in
theorem lL_law_271 : lk (tL_law b L xs) 271 = oPush (.int 0) 272 := (lkc_1 (Nat.le_of_ble_eq_true rfl) (Nat.le_of_ble_eq_true rfl)).trans rfl
set_option maxRecDepth 20000 in
theorem lL_law_272 : lk (tL_law b L xs) 272 = oLret := (lkc_1 (Nat.le_of_ble_eq_true rfl) (Nat.le_of_ble_eq_true rfl)).trans rfl
set_option maxRecDepth 20000 in
theorem lL_law_273 : lk (tL_law b L xs) 273 = oGoto 1656 := (lkc_1 (Nat.le_of_ble_eq_true rfl) (Nat.le_of_ble_eq_true rfl)).trans rfl
set_option maxRecDepth 20000 in
theorem lL_law_276 : lk (tL_law b L xs) 276 = oAld 1 277 := (lkc_1 (Nat.le_of_ble_eq_true rfl) (Nat.le_of_ble_eq_true rfl)).trans rfl
set_option maxRecDepth 20000 in
theorem lL_law_277 : lk (tL_law b L xs) 277 = oCallGV 2000 601024 7293034 0 0 yX9_faultPosition (Cond.code yX9_faultPosition cX9_faultPosition 1 (some .int)) 0 9 280 := (lkc_1 (Nat.le_of_ble_eq_true rfl) (Nat.le_of_ble_eq_true rfl)).trans rfl
set_option maxRecDepth 20000 in
theorem lL_law_280 : lk (tL_law b L xs) 280 = oAld 2 281 := (lkc_1 (Nat.le_of_ble_eq_true rfl) (Nat.le_of_ble_eq_true rfl)).trans rfl
set_option maxRecDepth 20000 in
theorem lL_law_281 : lk (tL_law b L xs) 281 = oCallGV 2000 601024 7293034 0 0 yX10_faultPosition (Cond.code yX10_faultPosition cX10_faultPosition 1 (some .int)) 0 10 284 := (lkc_1 (Nat.le_of_ble_eq_true rfl) (Nat.le_of_ble_eq_true rfl)).trans rfl
set_option maxRecDepth 20000 in
theorem lL_law_284 : lk (tL_law b L xs) 284 = oIc (fun x y => x = y) 1656 287 := (lkc_1 (Nat.le_of_ble_eq_true rfl) (Nat.le_of_ble_eq_true rfl)).trans rfl
set_option maxRecDepth 20000 in
theorem lL_law_287 : lk (tL_law b L xs) 287 = oPush (.int 0) 288 := (lkc_1 (Nat.le_of_ble_eq_true rfl) (Nat.le_of_ble_eq_true rfl)).trans rfl
set_option maxRecDepth 20000 in
theorem lL_law_288 : lk (tL_law b L xs) 288 = oLret := (lkc_1 (Nat.le_of_ble_eq_true rfl) (Nat.le_of_ble_eq_true rfl)).trans rfl
set_option maxRecDepth 20000 in
theorem lL_law_289 : lk (tL_law b L xs) 289 = oAld 1 290 := (lkc_1 (Nat.le_of_ble_eq_true rfl) (Nat.le_of_ble_eq_true rfl)).trans rfl
set_option maxRecDepth 20000 in
theorem lL_law_290 : lk (tL_law b L xs) 290 = oCallGV 2000 601024 7293034 0 0 yX9_statements (Cond.code yX9_statements cX9_statements 1 (some .int)) 0 9 293 := (lkc_1 (Nat.le_of_ble_eq_true rfl) (Nat.le_of_ble_eq_true rfl)).trans rfl
set_option maxRecDepth 20000 in
theorem lL_law_293 : lk (tL_law b L xs) 293 = oAld 2 294 := (lkc_1 (Nat.le_of_ble_eq_true rfl) (Nat.le_of_ble_eq_true rfl)).trans rfl
set_option maxRecDepth 20000 in
theorem lL_law_294 : lk (tL_law b L xs) 294 = oCallGV 2000 601024 7293034 0 0 yX10_statements (Cond.code yX10_statements cX10_statements 1 (some .int)) 0 10 297 := (lkc_1 (Nat.le_of_ble_eq_true rfl) (Nat.le_of_ble_eq_true rfl)).trans rfl
set_option maxRecDepth 20000 in
theorem lL_law_297 : lk (tL_law b L xs) 297 = oIc (fun x y => x = y) 1656 300 := (lkc_1 (Nat.le_of_ble_eq_true rfl) (Nat.le_of_ble_eq_true rfl)).trans rfl
set_option maxRecDepth 20000 in
theorem lL_law_300 : lk (tL_law b L xs) 300 = oPush (.int 0) 301 := (lkc_1 (Nat.le_of_ble_eq_true rfl) (Nat.le_of_ble_eq_true rfl)).trans rfl
set_option maxRecDepth 20000 in
theorem lL_law_301 : lk (tL_law b L xs) 301 = oLret := (lkc_1 (Nat.le_of_ble_eq_true rfl) (Nat.le_of_ble_eq_true rfl)).trans rfl
set_option maxRecDepth 20000 in
theorem lL_law_302 : lk (tL_law b L xs) 302 = oAld 1 303 := (lkc_1 (Nat.le_of_ble_eq_true rfl) (Nat.le_of_ble_eq_true rfl)).trans rfl
set_option maxRecDepth 20000 in
theorem lL_law_303 : lk (tL_law b L xs) 303 = oAld 0 304 := (lkc_1 (Nat.le_of_ble_eq_true rfl) (Nat.le_of_ble_eq_true rfl)).trans rfl
set_option maxRecDepth 20000 in
theorem lL_law_304 : lk (tL_law b L xs) 304 = oIld 5 306 := (lkc_1 (Nat.le_of_ble_eq_true rfl) (Nat.le_of_ble_eq_true rfl)).trans rfl
set_option maxRecDepth 20000 in
theorem lL_law_306 : lk (tL_law b L xs) 306 = oPush (.int 1) 307 := (lkc_1 (Nat.le_of_ble_eq_true rfl) (Nat.le_of_ble_eq_true rfl)).trans rfl
set_option maxRecDepth 20000 in
theorem lL_law_307 : lk (tL_law b L xs) 307 = oI2 (fun x y => x + y) 308 := (lkc_1 (Nat.le_of_ble_eq_true rfl) (Nat.le_of_ble_eq_true rfl)).trans rfl
set_option maxRecDepth 20000 in
theorem lL_law_308 : lk (tL_law b L xs) 308 = oSld b L xs 309 := (lkc_1 (Nat.le_of_ble_eq_true rfl) (Nat.le_of_ble_eq_true rfl)).trans rfl
set_option maxRecDepth 20000 in
theorem lL_law_309 : lk (tL_law b L xs) 309 = oAld 3 310 := (lkc_1 (Nat.le_of_ble_eq_true rfl) (Nat.le_of_ble_eq_true rfl)).trans rfl
set_option maxRecDepth 20000 in
theorem lL_law_310 : lk (tL_law b L xs) 310 = oCallG 2000 601024 7293034 1 6 yL_setMode (Cond.codeWith yL_setMode cL_setMode 4 (some .int) [(0, 9, 12, 13)]) 3 313 := (lkc_1 (Nat.le_of_ble_eq_true rfl) (Nat.le_of_ble_eq_true rfl)).trans rfl
set_option maxRecDepth 20000 in
theorem lL_law_313 : lk (tL_law b L xs) 313 = oIst 6 315 := (lkc_1 (Nat.le_of_ble_eq_true rfl) (Nat.le_of_ble_eq_true rfl)).trans rfl
set_option maxRecDepth 20000 in
theorem lL_law_315 : lk (tL_law b L xs) 315 = oAld 2 316 := (lkc_1 (Nat.le_of_ble_eq_true rfl) (Nat.le_of_ble_eq_true rfl)).trans rfl
set_option maxRecDepth 20000 in
theorem lL_law_316 : lk (tL_law b L xs) 316 = oAld 0 317 := (lkc_1 (Nat.le_of_ble_eq_true rfl) (Nat.le_of_ble_eq_true rfl)).trans rfl
set_option maxRecDepth 20000 in
theorem lL_law_317 : lk (tL_law b L xs) 317 = oIld 5 319 := (lkc_1 (Nat.le_of_ble_eq_true rfl) (Nat.le_of_ble_eq_true rfl)).trans rfl
set_option maxRecDepth 20000 in
theorem lL_law_319 : lk (tL_law b L xs) 319 = oPush (.int 1) 320 := (lkc_1 (Nat.le_of_ble_eq_true rfl) (Nat.le_of_ble_eq_true rfl)).trans rfl
set_option maxRecDepth 20000 in
theorem lL_law_320 : lk (tL_law b L xs) 320 = oI2 (fun x y => x + y) 321 := (lkc_1 (Nat.le_of_ble_eq_true rfl) (Nat.le_of_ble_eq_true rfl)).trans rfl
set_option maxRecDepth 20000 in
theorem lL_law_321 : lk (tL_law b L xs) 321 = oSld b L xs 322 := (lkc_1 (Nat.le_of_ble_eq_true rfl) (Nat.le_of_ble_eq_true rfl)).trans rfl
set_option maxRecDepth 20000 in
theorem lL_law_322 : lk (tL_law b L xs) 322 = oCallGV 2000 601024 7293034 0 0 yX10_setMode (Cond.code yX10_setMode cX10_setMode 3 (some .int)) 1 10 325 := (lkc_1 (Nat.le_of_ble_eq_true rfl) (Nat.le_of_ble_eq_true rfl)).trans rfl
set_option maxRecDepth 20000 in
theorem lL_law_325 : lk (tL_law b L xs) 325 = oIst 7 327 := (lkc_1 (Nat.le_of_ble_eq_true rfl) (Nat.le_of_ble_eq_true rfl)).trans rfl
set_option maxRecDepth 20000 in
theorem lL_law_327 : lk (tL_law b L xs) 327 = oAld 2 328 := (lkc_1 (Nat.le_of_ble_eq_true rfl) (Nat.le_of_ble_eq_true rfl)).trans rfl
set_option maxRecDepth 20000 in
theorem lL_law_328 : lk (tL_law b L xs) 328 = oCallGV 2000 601024 7293034 0 0 yX10_thrown (Cond.code yX10_thrown cX10_thrown 1 (some .int)) 0 10 331 := (lkc_2 (Nat.le_of_ble_eq_true rfl) (Nat.le_of_ble_eq_true rfl)).trans rfl
set_option maxRecDepth 20000 in
theorem lL_law_331 : lk (tL_law b L xs) 331 = oIld 6 333 := (lkc_2 (Nat.le_of_ble_eq_true rfl) (Nat.le_of_ble_eq_true rfl)).trans rfl
set_option maxRecDepth 20000 in
theorem lL_law_333 : lk (tL_law b L xs) 333 = oIc (fun x y => x = y) 338 336 := (lkc_2 (Nat.le_of_ble_eq_true rfl) (Nat.le_of_ble_eq_true rfl)).trans rfl
set_option maxRecDepth 20000 in
theorem lL_law_336 : lk (tL_law b L xs) 336 = oPush (.int 0) 337 := (lkc_2 (Nat.le_of_ble_eq_true rfl) (Nat.le_of_ble_eq_true rfl)).trans rfl
set_option maxRecDepth 20000 in
theorem lL_law_337 : lk (tL_law b L xs) 337 = oLret := (lkc_2 (Nat.le_of_ble_eq_true rfl) (Nat.le_of_ble_eq_true rfl)).trans rfl
set_option maxRecDepth 20000 in
theorem lL_law_338 : lk (tL_law b L xs) 338 = oIld 6 340 := (lkc_2 (Nat.le_of_ble_eq_true rfl) (Nat.le_of_ble_eq_true rfl)).trans rfl
set_option maxRecDepth 20000 in
theorem lL_law_340 : lk (tL_law b L xs) 340 = oIf (fun x => x = 0) 343 355 := (lkc_2 (Nat.le_of_ble_eq_true rfl) (Nat.le_of_ble_eq_true rfl)).trans rfl
set_option maxRecDepth 20000 in
theorem lL_law_343 : lk (tL_law b L xs) 343 = oAld 3 344 := (lkc_2 (Nat.le_of_ble_eq_true rfl) (Nat.le_of_ble_eq_true rfl)).trans rfl
set_option maxRecDepth 20000 in
theorem lL_law_344 : lk (tL_law b L xs) 344 = oPush (.int 0) 345 := (lkc_2 (Nat.le_of_ble_eq_true rfl) (Nat.le_of_ble_eq_true rfl)).trans rfl
set_option maxRecDepth 20000 in
theorem lL_law_345 : lk (tL_law b L xs) 345 = oAl 346 := (lkc_2 (Nat.le_of_ble_eq_true rfl) (Nat.le_of_ble_eq_true rfl)).trans rfl
set_option maxRecDepth 20000 in
theorem lL_law_346 : lk (tL_law b L xs) 346 = oIld 7 348 := (lkc_2 (Nat.le_of_ble_eq_true rfl) (Nat.le_of_ble_eq_true rfl)).trans rfl
set_option maxRecDepth 20000 in
theorem lL_law_348 : lk (tL_law b L xs) 348 = oIcv (fun x => .long x.toInt64) 349 := (lkc_2 (Nat.le_of_ble_eq_true rfl) (Nat.le_of_ble_eq_true rfl)).trans rfl
set_option maxRecDepth 20000 in
theorem lL_law_349 : lk (tL_law b L xs) 349 = oLcmp 350 := (lkc_2 (Nat.le_of_ble_eq_true rfl) (Nat.le_of_ble_eq_true rfl)).trans rfl
set_option maxRecDepth 20000 in
theorem lL_law_350 : lk (tL_law b L xs) 350 = oIf (fun x => x = 0) 355 353 := (lkc_2 (Nat.le_of_ble_eq_true rfl) (Nat.le_of_ble_eq_true rfl)).trans rfl
set_option maxRecDepth 20000 in
theorem lL_law_353 : lk (tL_law b L xs) 353 = oPush (.int 0) 354 := (lkc_2 (Nat.le_of_ble_eq_true rfl) (Nat.le_of_ble_eq_true rfl)).trans rfl
set_option maxRecDepth 20000 in
theorem lL_law_354 : lk (tL_law b L xs) 354 = oLret := (lkc_2 (Nat.le_of_ble_eq_true rfl) (Nat.le_of_ble_eq_true rfl)).trans rfl
set_option maxRecDepth 20000 in
theorem lL_law_355 : lk (tL_law b L xs) 355 = oGoto 1656 := (lkc_2 (Nat.le_of_ble_eq_true rfl) (Nat.le_of_ble_eq_true rfl)).trans rfl
set_option maxRecDepth 20000 in
theorem lL_law_358 : lk (tL_law b L xs) 358 = oAld 1 359 := (lkc_2 (Nat.le_of_ble_eq_true rfl) (Nat.le_of_ble_eq_true rfl)).trans rfl
set_option maxRecDepth 20000 in
theorem lL_law_359 : lk (tL_law b L xs) 359 = oAld 0 360 := (lkc_2 (Nat.le_of_ble_eq_true rfl) (Nat.le_of_ble_eq_true rfl)).trans rfl
set_option maxRecDepth 20000 in
theorem lL_law_360 : lk (tL_law b L xs) 360 = oIld 5 362 := (lkc_2 (Nat.le_of_ble_eq_true rfl) (Nat.le_of_ble_eq_true rfl)).trans rfl
set_option maxRecDepth 20000 in
theorem lL_law_362 : lk (tL_law b L xs) 362 = oPush (.int 1) 363 := (lkc_2 (Nat.le_of_ble_eq_true rfl) (Nat.le_of_ble_eq_true rfl)).trans rfl
set_option maxRecDepth 20000 in
theorem lL_law_363 : lk (tL_law b L xs) 363 = oI2 (fun x y => x + y) 364 := (lkc_2 (Nat.le_of_ble_eq_true rfl) (Nat.le_of_ble_eq_true rfl)).trans rfl
set_option maxRecDepth 20000 in
theorem lL_law_364 : lk (tL_law b L xs) 364 = oSld b L xs 365 := (lkc_2 (Nat.le_of_ble_eq_true rfl) (Nat.le_of_ble_eq_true rfl)).trans rfl
set_option maxRecDepth 20000 in
theorem lL_law_365 : lk (tL_law b L xs) 365 = oAld 3 366 := (lkc_2 (Nat.le_of_ble_eq_true rfl) (Nat.le_of_ble_eq_true rfl)).trans rfl
set_option maxRecDepth 20000 in
theorem lL_law_366 : lk (tL_law b L xs) 366 = oCallG 2000 601024 7293034 1 6 yL_setCount (Cond.codeWith yL_setCount cL_setCount 4 (some .int) [(0, 9, 12, 13)]) 3 369 := (lkc_2 (Nat.le_of_ble_eq_true rfl) (Nat.le_of_ble_eq_true rfl)).trans rfl
set_option maxRecDepth 20000 in
theorem lL_law_369 : lk (tL_law b L xs) 369 = oIst 6 371 := (lkc_2 (Nat.le_of_ble_eq_true rfl) (Nat.le_of_ble_eq_true rfl)).trans rfl
set_option maxRecDepth 20000 in
theorem lL_law_371 : lk (tL_law b L xs) 371 = oAld 2 372 := (lkc_2 (Nat.le_of_ble_eq_true rfl) (Nat.le_of_ble_eq_true rfl)).trans rfl
set_option maxRecDepth 20000 in
theorem lL_law_372 : lk (tL_law b L xs) 372 = oAld 0 373 := (lkc_2 (Nat.le_of_ble_eq_true rfl) (Nat.le_of_ble_eq_true rfl)).trans rfl
set_option maxRecDepth 20000 in
theorem lL_law_373 : lk (tL_law b L xs) 373 = oIld 5 375 := (lkc_2 (Nat.le_of_ble_eq_true rfl) (Nat.le_of_ble_eq_true rfl)).trans rfl
set_option maxRecDepth 20000 in
theorem lL_law_375 : lk (tL_law b L xs) 375 = oPush (.int 1) 376 := (lkc_2 (Nat.le_of_ble_eq_true rfl) (Nat.le_of_ble_eq_true rfl)).trans rfl
set_option maxRecDepth 20000 in
theorem lL_law_376 : lk (tL_law b L xs) 376 = oI2 (fun x y => x + y) 377 := (lkc_2 (Nat.le_of_ble_eq_true rfl) (Nat.le_of_ble_eq_true rfl)).trans rfl
set_option maxRecDepth 20000 in
theorem lL_law_377 : lk (tL_law b L xs) 377 = oSld b L xs 378 := (lkc_2 (Nat.le_of_ble_eq_true rfl) (Nat.le_of_ble_eq_true rfl)).trans rfl
set_option maxRecDepth 20000 in
theorem lL_law_378 : lk (tL_law b L xs) 378 = oCallGV 2000 601024 7293034 0 0 yX10_setCount (Cond.code yX10_setCount cX10_setCount 3 (some .int)) 1 10 381 := (lkc_2 (Nat.le_of_ble_eq_true rfl) (Nat.le_of_ble_eq_true rfl)).trans rfl
set_option maxRecDepth 20000 in
theorem lL_law_381 : lk (tL_law b L xs) 381 = oIst 7 383 := (lkc_2 (Nat.le_of_ble_eq_true rfl) (Nat.le_of_ble_eq_true rfl)).trans rfl
set_option maxRecDepth 20000 in
theorem lL_law_383 : lk (tL_law b L xs) 383 = oAld 2 384 := (lkc_2 (Nat.le_of_ble_eq_true rfl) (Nat.le_of_ble_eq_true rfl)).trans rfl
set_option maxRecDepth 20000 in
theorem lL_law_384 : lk (tL_law b L xs) 384 = oCallGV 2000 601024 7293034 0 0 yX10_thrown (Cond.code yX10_thrown cX10_thrown 1 (some .int)) 0 10 387 := (lkc_2 (Nat.le_of_ble_eq_true rfl) (Nat.le_of_ble_eq_true rfl)).trans rfl
set_option maxRecDepth 20000 in
theorem lL_law_387 : lk (tL_law b L xs) 387 = oIld 6 389 := (lkc_2 (Nat.le_of_ble_eq_true rfl) (Nat.le_of_ble_eq_true rfl)).trans rfl
set_option maxRecDepth 20000 in
theorem lL_law_389 : lk (tL_law b L xs) 389 = oIc (fun x y => x = y) 394 392 := (lkc_2 (Nat.le_of_ble_eq_true rfl) (Nat.le_of_ble_eq_true rfl)).trans rfl
set_option maxRecDepth 20000 in
theorem lL_law_392 : lk (tL_law b L xs) 392 = oPush (.int 0) 393 := (lkc_2 (Nat.le_of_ble_eq_true rfl) (Nat.le_of_ble_eq_true rfl)).trans rfl
set_option maxRecDepth 20000 in
theorem lL_law_393 : lk (tL_law b L xs) 393 = oLret := (lkc_2 (Nat.le_of_ble_eq_true rfl) (Nat.le_of_ble_eq_true rfl)).trans rfl
set_option maxRecDepth 20000 in
theorem lL_law_394 : lk (tL_law b L xs) 394 = oIld 6 396 := (lkc_2 (Nat.le_of_ble_eq_true rfl) (Nat.le_of_ble_eq_true rfl)).trans rfl
set_option maxRecDepth 20000 in
theorem lL_law_396 : lk (tL_law b L xs) 396 = oIf (fun x => x = 0) 399 411 := (lkc_2 (Nat.le_of_ble_eq_true rfl) (Nat.le_of_ble_eq_true rfl)).trans rfl
set_option maxRecDepth 20000 in
theorem lL_law_399 : lk (tL_law b L xs) 399 = oAld 3 400 := (lkc_2 (Nat.le_of_ble_eq_true rfl) (Nat.le_of_ble_eq_true rfl)).trans rfl
set_option maxRecDepth 20000 in
theorem lL_law_400 : lk (tL_law b L xs) 400 = oPush (.int 0) 401 := (lkc_2 (Nat.le_of_ble_eq_true rfl) (Nat.le_of_ble_eq_true rfl)).trans rfl
set_option maxRecDepth 20000 in
theorem lL_law_401 : lk (tL_law b L xs) 401 = oAl 402 := (lkc_2 (Nat.le_of_ble_eq_true rfl) (Nat.le_of_ble_eq_true rfl)).trans rfl
set_option maxRecDepth 20000 in
theorem lL_law_402 : lk (tL_law b L xs) 402 = oIld 7 404 := (lkc_2 (Nat.le_of_ble_eq_true rfl) (Nat.le_of_ble_eq_true rfl)).trans rfl
set_option maxRecDepth 20000 in
theorem lL_law_404 : lk (tL_law b L xs) 404 = oIcv (fun x => .long x.toInt64) 405 := (lkc_2 (Nat.le_of_ble_eq_true rfl) (Nat.le_of_ble_eq_true rfl)).trans rfl
set_option maxRecDepth 20000 in
theorem lL_law_405 : lk (tL_law b L xs) 405 = oLcmp 406 := (lkc_2 (Nat.le_of_ble_eq_true rfl) (Nat.le_of_ble_eq_true rfl)).trans rfl
set_option maxRecDepth 20000 in
theorem lL_law_406 : lk (tL_law b L xs) 406 = oIf (fun x => x = 0) 411 409 := (lkc_2 (Nat.le_of_ble_eq_true rfl) (Nat.le_of_ble_eq_true rfl)).trans rfl
set_option maxRecDepth 20000 in
theorem lL_law_409 : lk (tL_law b L xs) 409 = oPush (.int 0) 410 := (lkc_2 (Nat.le_of_ble_eq_true rfl) (Nat.le_of_ble_eq_true rfl)).trans rfl
set_option maxRecDepth 20000 in
theorem lL_law_410 : lk (tL_law b L xs) 410 = oLret := (lkc_2 (Nat.le_of_ble_eq_true rfl) (Nat.le_of_ble_eq_true rfl)).trans rfl
set_option maxRecDepth 20000 in
theorem lL_law_411 : lk (tL_law b L xs) 411 = oGoto 1656 := (lkc_2 (Nat.le_of_ble_eq_true rfl) (Nat.le_of_ble_eq_true rfl)).trans rfl
set_option maxRecDepth 20000 in
theorem lL_law_414 : lk (tL_law b L xs) 414 = oAld 1 415 := (lkc_2 (Nat.le_of_ble_eq_true rfl) (Nat.le_of_ble_eq_true rfl)).trans rfl
set_option maxRecDepth 20000 in
theorem lL_law_415 : lk (tL_law b L xs) 415 = oAld 0 416 := (lkc_2 (Nat.le_of_ble_eq_true rfl) (Nat.le_of_ble_eq_true rfl)).trans rfl
set_option maxRecDepth 20000 in
theorem lL_law_416 : lk (tL_law b L xs) 416 = oIld 5 418 := (lkc_2 (Nat.le_of_ble_eq_true rfl) (Nat.le_of_ble_eq_true rfl)).trans rfl
set_option maxRecDepth 20000 in
theorem lL_law_418 : lk (tL_law b L xs) 418 = oPush (.int 1) 419 := (lkc_2 (Nat.le_of_ble_eq_true rfl) (Nat.le_of_ble_eq_true rfl)).trans rfl
set_option maxRecDepth 20000 in
theorem lL_law_419 : lk (tL_law b L xs) 419 = oI2 (fun x y => x + y) 420 := (lkc_2 (Nat.le_of_ble_eq_true rfl) (Nat.le_of_ble_eq_true rfl)).trans rfl
set_option maxRecDepth 20000 in
theorem lL_law_420 : lk (tL_law b L xs) 420 = oSld b L xs 421 := (lkc_2 (Nat.le_of_ble_eq_true rfl) (Nat.le_of_ble_eq_true rfl)).trans rfl
set_option maxRecDepth 20000 in
theorem lL_law_421 : lk (tL_law b L xs) 421 = oAld 0 422 := (lkc_2 (Nat.le_of_ble_eq_true rfl) (Nat.le_of_ble_eq_true rfl)).trans rfl
set_option maxRecDepth 20000 in
theorem lL_law_422 : lk (tL_law b L xs) 422 = oIld 5 424 := (lkc_2 (Nat.le_of_ble_eq_true rfl) (Nat.le_of_ble_eq_true rfl)).trans rfl
set_option maxRecDepth 20000 in
theorem lL_law_424 : lk (tL_law b L xs) 424 = oPush (.int 2) 425 := (lkc_3 (Nat.le_of_ble_eq_true rfl) (Nat.le_of_ble_eq_true rfl)).trans rfl
set_option maxRecDepth 20000 in
theorem lL_law_425 : lk (tL_law b L xs) 425 = oI2 (fun x y => x + y) 426 := (lkc_3 (Nat.le_of_ble_eq_true rfl) (Nat.le_of_ble_eq_true rfl)).trans rfl
set_option maxRecDepth 20000 in
theorem lL_law_426 : lk (tL_law b L xs) 426 = oSld b L xs 427 := (lkc_3 (Nat.le_of_ble_eq_true rfl) (Nat.le_of_ble_eq_true rfl)).trans rfl
set_option maxRecDepth 20000 in
theorem lL_law_427 : lk (tL_law b L xs) 427 = oAld 0 428 := (lkc_3 (Nat.le_of_ble_eq_true rfl) (Nat.le_of_ble_eq_true rfl)).trans rfl
set_option maxRecDepth 20000 in
theorem lL_law_428 : lk (tL_law b L xs) 428 = oIld 5 430 := (lkc_3 (Nat.le_of_ble_eq_true rfl) (Nat.le_of_ble_eq_true rfl)).trans rfl
set_option maxRecDepth 20000 in
theorem lL_law_430 : lk (tL_law b L xs) 430 = oPush (.int 3) 431 := (lkc_3 (Nat.le_of_ble_eq_true rfl) (Nat.le_of_ble_eq_true rfl)).trans rfl
set_option maxRecDepth 20000 in
theorem lL_law_431 : lk (tL_law b L xs) 431 = oI2 (fun x y => x + y) 432 := (lkc_3 (Nat.le_of_ble_eq_true rfl) (Nat.le_of_ble_eq_true rfl)).trans rfl
set_option maxRecDepth 20000 in
theorem lL_law_432 : lk (tL_law b L xs) 432 = oSld b L xs 433 := (lkc_3 (Nat.le_of_ble_eq_true rfl) (Nat.le_of_ble_eq_true rfl)).trans rfl
set_option maxRecDepth 20000 in
theorem lL_law_433 : lk (tL_law b L xs) 433 = oAld 3 434 := (lkc_3 (Nat.le_of_ble_eq_true rfl) (Nat.le_of_ble_eq_true rfl)).trans rfl
set_option maxRecDepth 20000 in
theorem lL_law_434 : lk (tL_law b L xs) 434 = oCallG 2000 601024 7293034 2 12 yL_setElement (Cond.codeWith yL_setElement cL_setElement 6 (some .int) [(0, 12, 15, 31), (0, 12, 19, 13)]) 5 437 := (lkc_3 (Nat.le_of_ble_eq_true rfl) (Nat.le_of_ble_eq_true rfl)).trans rfl
set_option maxRecDepth 20000 in
theorem lL_law_437 : lk (tL_law b L xs) 437 = oIst 6 439 := (lkc_3 (Nat.le_of_ble_eq_true rfl) (Nat.le_of_ble_eq_true rfl)).trans rfl
set_option maxRecDepth 20000 in
theorem lL_law_439 : lk (tL_law b L xs) 439 = oAld 2 440 := (lkc_3 (Nat.le_of_ble_eq_true rfl) (Nat.le_of_ble_eq_true rfl)).trans rfl
set_option maxRecDepth 20000 in
theorem lL_law_440 : lk (tL_law b L xs) 440 = oAld 0 441 := (lkc_3 (Nat.le_of_ble_eq_true rfl) (Nat.le_of_ble_eq_true rfl)).trans rfl
set_option maxRecDepth 20000 in
theorem lL_law_441 : lk (tL_law b L xs) 441 = oIld 5 443 := (lkc_3 (Nat.le_of_ble_eq_true rfl) (Nat.le_of_ble_eq_true rfl)).trans rfl
set_option maxRecDepth 20000 in
theorem lL_law_443 : lk (tL_law b L xs) 443 = oPush (.int 1) 444 := (lkc_3 (Nat.le_of_ble_eq_true rfl) (Nat.le_of_ble_eq_true rfl)).trans rfl
set_option maxRecDepth 20000 in
theorem lL_law_444 : lk (tL_law b L xs) 444 = oI2 (fun x y => x + y) 445 := (lkc_3 (Nat.le_of_ble_eq_true rfl) (Nat.le_of_ble_eq_true rfl)).trans rfl
set_option maxRecDepth 20000 in
theorem lL_law_445 : lk (tL_law b L xs) 445 = oSld b L xs 446 := (lkc_3 (Nat.le_of_ble_eq_true rfl) (Nat.le_of_ble_eq_true rfl)).trans rfl
set_option maxRecDepth 20000 in
theorem lL_law_446 : lk (tL_law b L xs) 446 = oAld 0 447 := (lkc_3 (Nat.le_of_ble_eq_true rfl) (Nat.le_of_ble_eq_true rfl)).trans rfl
set_option maxRecDepth 20000 in
theorem lL_law_447 : lk (tL_law b L xs) 447 = oIld 5 449 := (lkc_3 (Nat.le_of_ble_eq_true rfl) (Nat.le_of_ble_eq_true rfl)).trans rfl
set_option maxRecDepth 20000 in
theorem lL_law_449 : lk (tL_law b L xs) 449 = oPush (.int 2) 450 := (lkc_3 (Nat.le_of_ble_eq_true rfl) (Nat.le_of_ble_eq_true rfl)).trans rfl
set_option maxRecDepth 20000 in
theorem lL_law_450 : lk (tL_law b L xs) 450 = oI2 (fun x y => x + y) 451 := (lkc_3 (Nat.le_of_ble_eq_true rfl) (Nat.le_of_ble_eq_true rfl)).trans rfl
set_option maxRecDepth 20000 in
theorem lL_law_451 : lk (tL_law b L xs) 451 = oSld b L xs 452 := (lkc_3 (Nat.le_of_ble_eq_true rfl) (Nat.le_of_ble_eq_true rfl)).trans rfl
set_option maxRecDepth 20000 in
theorem lL_law_452 : lk (tL_law b L xs) 452 = oAld 0 453 := (lkc_3 (Nat.le_of_ble_eq_true rfl) (Nat.le_of_ble_eq_true rfl)).trans rfl
set_option maxRecDepth 20000 in
theorem lL_law_453 : lk (tL_law b L xs) 453 = oIld 5 455 := (lkc_3 (Nat.le_of_ble_eq_true rfl) (Nat.le_of_ble_eq_true rfl)).trans rfl
set_option maxRecDepth 20000 in
theorem lL_law_455 : lk (tL_law b L xs) 455 = oPush (.int 3) 456 := (lkc_3 (Nat.le_of_ble_eq_true rfl) (Nat.le_of_ble_eq_true rfl)).trans rfl
set_option maxRecDepth 20000 in
theorem lL_law_456 : lk (tL_law b L xs) 456 = oI2 (fun x y => x + y) 457 := (lkc_3 (Nat.le_of_ble_eq_true rfl) (Nat.le_of_ble_eq_true rfl)).trans rfl
set_option maxRecDepth 20000 in
theorem lL_law_457 : lk (tL_law b L xs) 457 = oSld b L xs 458 := (lkc_3 (Nat.le_of_ble_eq_true rfl) (Nat.le_of_ble_eq_true rfl)).trans rfl
set_option maxRecDepth 20000 in
theorem lL_law_458 : lk (tL_law b L xs) 458 = oCallGV 2000 601024 7293034 0 0 yX10_setElement (Cond.code yX10_setElement cX10_setElement 5 (some .int)) 3 10 461 := (lkc_3 (Nat.le_of_ble_eq_true rfl) (Nat.le_of_ble_eq_true rfl)).trans rfl
set_option maxRecDepth 20000 in
theorem lL_law_461 : lk (tL_law b L xs) 461 = oIst 7 463 := (lkc_3 (Nat.le_of_ble_eq_true rfl) (Nat.le_of_ble_eq_true rfl)).trans rfl
set_option maxRecDepth 20000 in
theorem lL_law_463 : lk (tL_law b L xs) 463 = oAld 2 464 := (lkc_3 (Nat.le_of_ble_eq_true rfl) (Nat.le_of_ble_eq_true rfl)).trans rfl
set_option maxRecDepth 20000 in
theorem lL_law_464 : lk (tL_law b L xs) 464 = oCallGV 2000 601024 7293034 0 0 yX10_thrown (Cond.code yX10_thrown cX10_thrown 1 (some .int)) 0 10 467 := (lkc_3 (Nat.le_of_ble_eq_true rfl) (Nat.le_of_ble_eq_true rfl)).trans rfl
set_option maxRecDepth 20000 in
theorem lL_law_467 : lk (tL_law b L xs) 467 = oIld 6 469 := (lkc_3 (Nat.le_of_ble_eq_true rfl) (Nat.le_of_ble_eq_true rfl)).trans rfl
set_option maxRecDepth 20000 in
theorem lL_law_469 : lk (tL_law b L xs) 469 = oIc (fun x y => x = y) 474 472 := (lkc_3 (Nat.le_of_ble_eq_true rfl) (Nat.le_of_ble_eq_true rfl)).trans rfl
set_option maxRecDepth 20000 in
theorem lL_law_472 : lk (tL_law b L xs) 472 = oPush (.int 0) 473 := (lkc_3 (Nat.le_of_ble_eq_true rfl) (Nat.le_of_ble_eq_true rfl)).trans rfl
set_option maxRecDepth 20000 in
theorem lL_law_473 : lk (tL_law b L xs) 473 = oLret := (lkc_3 (Nat.le_of_ble_eq_true rfl) (Nat.le_of_ble_eq_true rfl)).trans rfl
set_option maxRecDepth 20000 in
theorem lL_law_474 : lk (tL_law b L xs) 474 = oIld 6 476 := (lkc_3 (Nat.le_of_ble_eq_true rfl) (Nat.le_of_ble_eq_true rfl)).trans rfl
set_option maxRecDepth 20000 in
theorem lL_law_476 : lk (tL_law b L xs) 476 = oIf (fun x => x = 0) 479 491 := (lkc_3 (Nat.le_of_ble_eq_true rfl) (Nat.le_of_ble_eq_true rfl)).trans rfl
set_option maxRecDepth 20000 in
theorem lL_law_479 : lk (tL_law b L xs) 479 = oAld 3 480 := (lkc_3 (Nat.le_of_ble_eq_true rfl) (Nat.le_of_ble_eq_true rfl)).trans rfl
set_option maxRecDepth 20000 in
theorem lL_law_480 : lk (tL_law b L xs) 480 = oPush (.int 0) 481 := (lkc_3 (Nat.le_of_ble_eq_true rfl) (Nat.le_of_ble_eq_true rfl)).trans rfl
set_option maxRecDepth 20000 in
theorem lL_law_481 : lk (tL_law b L xs) 481 = oAl 482 := (lkc_3 (Nat.le_of_ble_eq_true rfl) (Nat.le_of_ble_eq_true rfl)).trans rfl
set_option maxRecDepth 20000 in
theorem lL_law_482 : lk (tL_law b L xs) 482 = oIld 7 484 := (lkc_3 (Nat.le_of_ble_eq_true rfl) (Nat.le_of_ble_eq_true rfl)).trans rfl
set_option maxRecDepth 20000 in
theorem lL_law_484 : lk (tL_law b L xs) 484 = oIcv (fun x => .long x.toInt64) 485 := (lkc_3 (Nat.le_of_ble_eq_true rfl) (Nat.le_of_ble_eq_true rfl)).trans rfl
set_option maxRecDepth 20000 in
theorem lL_law_485 : lk (tL_law b L xs) 485 = oLcmp 486 := (lkc_3 (Nat.le_of_ble_eq_true rfl) (Nat.le_of_ble_eq_true rfl)).trans rfl
set_option maxRecDepth 20000 in
theorem lL_law_486 : lk (tL_law b L xs) 486 = oIf (fun x => x = 0) 491 489 := (lkc_3 (Nat.le_of_ble_eq_true rfl) (Nat.le_of_ble_eq_true rfl)).trans rfl
set_option maxRecDepth 20000 in
theorem lL_law_489 : lk (tL_law b L xs) 489 = oPush (.int 0) 490 := (lkc_3 (Nat.le_of_ble_eq_true rfl) (Nat.le_of_ble_eq_true rfl)).trans rfl
set_option maxRecDepth 20000 in
theorem lL_law_490 : lk (tL_law b L xs) 490 = oLret := (lkc_3 (Nat.le_of_ble_eq_true rfl) (Nat.le_of_ble_eq_true rfl)).trans rfl
set_option maxRecDepth 20000 in
theorem lL_law_491 : lk (tL_law b L xs) 491 = oGoto 1656 := (lkc_3 (Nat.le_of_ble_eq_true rfl) (Nat.le_of_ble_eq_true rfl)).trans rfl
set_option maxRecDepth 20000 in
theorem lL_law_494 : lk (tL_law b L xs) 494 = oAld 1 495 := (lkc_3 (Nat.le_of_ble_eq_true rfl) (Nat.le_of_ble_eq_true rfl)).trans rfl
set_option maxRecDepth 20000 in
theorem lL_law_495 : lk (tL_law b L xs) 495 = oAld 0 496 := (lkc_3 (Nat.le_of_ble_eq_true rfl) (Nat.le_of_ble_eq_true rfl)).trans rfl
set_option maxRecDepth 20000 in
theorem lL_law_496 : lk (tL_law b L xs) 496 = oIld 5 498 := (lkc_3 (Nat.le_of_ble_eq_true rfl) (Nat.le_of_ble_eq_true rfl)).trans rfl
set_option maxRecDepth 20000 in
theorem lL_law_498 : lk (tL_law b L xs) 498 = oPush (.int 1) 499 := (lkc_3 (Nat.le_of_ble_eq_true rfl) (Nat.le_of_ble_eq_true rfl)).trans rfl
set_option maxRecDepth 20000 in
theorem lL_law_499 : lk (tL_law b L xs) 499 = oI2 (fun x y => x + y) 500 := (lkc_3 (Nat.le_of_ble_eq_true rfl) (Nat.le_of_ble_eq_true rfl)).trans rfl
set_option maxRecDepth 20000 in
theorem lL_law_500 : lk (tL_law b L xs) 500 = oSld b L xs 501 := (lkc_3 (Nat.le_of_ble_eq_true rfl) (Nat.le_of_ble_eq_true rfl)).trans rfl
set_option maxRecDepth 20000 in
theorem lL_law_501 : lk (tL_law b L xs) 501 = oAld 0 502 := (lkc_3 (Nat.le_of_ble_eq_true rfl) (Nat.le_of_ble_eq_true rfl)).trans rfl
set_option maxRecDepth 20000 in
theorem lL_law_502 : lk (tL_law b L xs) 502 = oIld 5 504 := (lkc_3 (Nat.le_of_ble_eq_true rfl) (Nat.le_of_ble_eq_true rfl)).trans rfl
set_option maxRecDepth 20000 in
theorem lL_law_504 : lk (tL_law b L xs) 504 = oPush (.int 2) 505 := (lkc_3 (Nat.le_of_ble_eq_true rfl) (Nat.le_of_ble_eq_true rfl)).trans rfl
set_option maxRecDepth 20000 in
theorem lL_law_505 : lk (tL_law b L xs) 505 = oI2 (fun x y => x + y) 506 := (lkc_3 (Nat.le_of_ble_eq_true rfl) (Nat.le_of_ble_eq_true rfl)).trans rfl
set_option maxRecDepth 20000 in
theorem lL_law_506 : lk (tL_law b L xs) 506 = oSld b L xs 507 := (lkc_3 (Nat.le_of_ble_eq_true rfl) (Nat.le_of_ble_eq_true rfl)).trans rfl
set_option maxRecDepth 20000 in
theorem lL_law_507 : lk (tL_law b L xs) 507 = oAld 3 508 := (lkc_3 (Nat.le_of_ble_eq_true rfl) (Nat.le_of_ble_eq_true rfl)).trans rfl
set_option maxRecDepth 20000 in
theorem lL_law_508 : lk (tL_law b L xs) 508 = oCallG 2000 601024 7293034 1 6 yL_fill (Cond.codeWith yL_fill cL_fill 5 (some .int) [(0, 10, 13, 31)]) 4 511 := (lkc_3 (Nat.le_of_ble_eq_true rfl) (Nat.le_of_ble_eq_true rfl)).trans rfl
set_option maxRecDepth 20000 in
theorem lL_law_511 : lk (tL_law b L xs) 511 = oIst 6 513 := (lkc_4 (Nat.le_of_ble_eq_true rfl) (Nat.le_of_ble_eq_true rfl)).trans rfl
set_option maxRecDepth 20000 in
theorem lL_law_513 : lk (tL_law b L xs) 513 = oAld 2 514 := (lkc_4 (Nat.le_of_ble_eq_true rfl) (Nat.le_of_ble_eq_true rfl)).trans rfl
set_option maxRecDepth 20000 in
theorem lL_law_514 : lk (tL_law b L xs) 514 = oAld 0 515 := (lkc_4 (Nat.le_of_ble_eq_true rfl) (Nat.le_of_ble_eq_true rfl)).trans rfl
set_option maxRecDepth 20000 in
theorem lL_law_515 : lk (tL_law b L xs) 515 = oIld 5 517 := (lkc_4 (Nat.le_of_ble_eq_true rfl) (Nat.le_of_ble_eq_true rfl)).trans rfl
set_option maxRecDepth 20000 in
theorem lL_law_517 : lk (tL_law b L xs) 517 = oPush (.int 1) 518 := (lkc_4 (Nat.le_of_ble_eq_true rfl) (Nat.le_of_ble_eq_true rfl)).trans rfl
set_option maxRecDepth 20000 in
theorem lL_law_518 : lk (tL_law b L xs) 518 = oI2 (fun x y => x + y) 519 := (lkc_4 (Nat.le_of_ble_eq_true rfl) (Nat.le_of_ble_eq_true rfl)).trans rfl
set_option maxRecDepth 20000 in
theorem lL_law_519 : lk (tL_law b L xs) 519 = oSld b L xs 520 := (lkc_4 (Nat.le_of_ble_eq_true rfl) (Nat.le_of_ble_eq_true rfl)).trans rfl
set_option maxRecDepth 20000 in
theorem lL_law_520 : lk (tL_law b L xs) 520 = oAld 0 521 := (lkc_4 (Nat.le_of_ble_eq_true rfl) (Nat.le_of_ble_eq_true rfl)).trans rfl
set_option maxRecDepth 20000 in
theorem lL_law_521 : lk (tL_law b L xs) 521 = oIld 5 523 := (lkc_4 (Nat.le_of_ble_eq_true rfl) (Nat.le_of_ble_eq_true rfl)).trans rfl
set_option maxRecDepth 20000 in
theorem lL_law_523 : lk (tL_law b L xs) 523 = oPush (.int 2) 524 := (lkc_4 (Nat.le_of_ble_eq_true rfl) (Nat.le_of_ble_eq_true rfl)).trans rfl
set_option maxRecDepth 20000 in
theorem lL_law_524 : lk (tL_law b L xs) 524 = oI2 (fun x y => x + y) 525 := (lkc_4 (Nat.le_of_ble_eq_true rfl) (Nat.le_of_ble_eq_true rfl)).trans rfl
set_option maxRecDepth 20000 in
theorem lL_law_525 : lk (tL_law b L xs) 525 = oSld b L xs 526 := (lkc_4 (Nat.le_of_ble_eq_true rfl) (Nat.le_of_ble_eq_true rfl)).trans rfl
set_option maxRecDepth 20000 in
theorem lL_law_526 : lk (tL_law b L xs) 526 = oCallGV 2000 601024 7293034 0 0 yX10_fill (Cond.code yX10_fill cX10_fill 6 (some .int)) 2 10 529 := (lkc_4 (Nat.le_of_ble_eq_true rfl) (Nat.le_of_ble_eq_true rfl)).trans rfl
set_option maxRecDepth 20000 in
theorem lL_law_529 : lk (tL_law b L xs) 529 = oIst 7 531 := (lkc_4 (Nat.le_of_ble_eq_true rfl) (Nat.le_of_ble_eq_true rfl)).trans rfl
set_option maxRecDepth 20000 in
theorem lL_law_531 : lk (tL_law b L xs) 531 = oAld 2 532 := (lkc_4 (Nat.le_of_ble_eq_true rfl) (Nat.le_of_ble_eq_true rfl)).trans rfl
set_option maxRecDepth 20000 in
theorem lL_law_532 : lk (tL_law b L xs) 532 = oCallGV 2000 601024 7293034 0 0 yX10_thrown (Cond.code yX10_thrown cX10_thrown 1 (some .int)) 0 10 535 := (lkc_4 (Nat.le_of_ble_eq_true rfl) (Nat.le_of_ble_eq_true rfl)).trans rfl
set_option maxRecDepth 20000 in
theorem lL_law_535 : lk (tL_law b L xs) 535 = oIld 6 537 := (lkc_4 (Nat.le_of_ble_eq_true rfl) (Nat.le_of_ble_eq_true rfl)).trans rfl
set_option maxRecDepth 20000 in
theorem lL_law_537 : lk (tL_law b L xs) 537 = oIc (fun x y => x = y) 542 540 := (lkc_4 (Nat.le_of_ble_eq_true rfl) (Nat.le_of_ble_eq_true rfl)).trans rfl
set_option maxRecDepth 20000 in
theorem lL_law_540 : lk (tL_law b L xs) 540 = oPush (.int 0) 541 := (lkc_4 (Nat.le_of_ble_eq_true rfl) (Nat.le_of_ble_eq_true rfl)).trans rfl
set_option maxRecDepth 20000 in
theorem lL_law_541 : lk (tL_law b L xs) 541 = oLret := (lkc_4 (Nat.le_of_ble_eq_true rfl) (Nat.le_of_ble_eq_true rfl)).trans rfl
set_option maxRecDepth 20000 in
theorem lL_law_542 : lk (tL_law b L xs) 542 = oIld 6 544 := (lkc_4 (Nat.le_of_ble_eq_true rfl) (Nat.le_of_ble_eq_true rfl)).trans rfl
set_option maxRecDepth 20000 in
theorem lL_law_544 : lk (tL_law b L xs) 544 = oIf (fun x => x = 0) 547 559 := (lkc_4 (Nat.le_of_ble_eq_true rfl) (Nat.le_of_ble_eq_true rfl)).trans rfl
set_option maxRecDepth 20000 in
theorem lL_law_547 : lk (tL_law b L xs) 547 = oAld 3 548 := (lkc_4 (Nat.le_of_ble_eq_true rfl) (Nat.le_of_ble_eq_true rfl)).trans rfl
set_option maxRecDepth 20000 in
theorem lL_law_548 : lk (tL_law b L xs) 548 = oPush (.int 0) 549 := (lkc_4 (Nat.le_of_ble_eq_true rfl) (Nat.le_of_ble_eq_true rfl)).trans rfl
set_option maxRecDepth 20000 in
theorem lL_law_549 : lk (tL_law b L xs) 549 = oAl 550 := (lkc_4 (Nat.le_of_ble_eq_true rfl) (Nat.le_of_ble_eq_true rfl)).trans rfl
set_option maxRecDepth 20000 in
theorem lL_law_550 : lk (tL_law b L xs) 550 = oIld 7 552 := (lkc_4 (Nat.le_of_ble_eq_true rfl) (Nat.le_of_ble_eq_true rfl)).trans rfl
set_option maxRecDepth 20000 in
theorem lL_law_552 : lk (tL_law b L xs) 552 = oIcv (fun x => .long x.toInt64) 553 := (lkc_4 (Nat.le_of_ble_eq_true rfl) (Nat.le_of_ble_eq_true rfl)).trans rfl
set_option maxRecDepth 20000 in
theorem lL_law_553 : lk (tL_law b L xs) 553 = oLcmp 554 := (lkc_4 (Nat.le_of_ble_eq_true rfl) (Nat.le_of_ble_eq_true rfl)).trans rfl
set_option maxRecDepth 20000 in
theorem lL_law_554 : lk (tL_law b L xs) 554 = oIf (fun x => x = 0) 559 557 := (lkc_4 (Nat.le_of_ble_eq_true rfl) (Nat.le_of_ble_eq_true rfl)).trans rfl
set_option maxRecDepth 20000 in
theorem lL_law_557 : lk (tL_law b L xs) 557 = oPush (.int 0) 558 := (lkc_4 (Nat.le_of_ble_eq_true rfl) (Nat.le_of_ble_eq_true rfl)).trans rfl
set_option maxRecDepth 20000 in
theorem lL_law_558 : lk (tL_law b L xs) 558 = oLret := (lkc_4 (Nat.le_of_ble_eq_true rfl) (Nat.le_of_ble_eq_true rfl)).trans rfl
set_option maxRecDepth 20000 in
theorem lL_law_559 : lk (tL_law b L xs) 559 = oGoto 1656 := (lkc_4 (Nat.le_of_ble_eq_true rfl) (Nat.le_of_ble_eq_true rfl)).trans rfl
set_option maxRecDepth 20000 in
theorem lL_law_562 : lk (tL_law b L xs) 562 = oAld 1 563 := (lkc_4 (Nat.le_of_ble_eq_true rfl) (Nat.le_of_ble_eq_true rfl)).trans rfl
set_option maxRecDepth 20000 in
theorem lL_law_563 : lk (tL_law b L xs) 563 = oAld 0 564 := (lkc_4 (Nat.le_of_ble_eq_true rfl) (Nat.le_of_ble_eq_true rfl)).trans rfl
set_option maxRecDepth 20000 in
theorem lL_law_564 : lk (tL_law b L xs) 564 = oIld 5 566 := (lkc_4 (Nat.le_of_ble_eq_true rfl) (Nat.le_of_ble_eq_true rfl)).trans rfl
set_option maxRecDepth 20000 in
theorem lL_law_566 : lk (tL_law b L xs) 566 = oPush (.int 1) 567 := (lkc_4 (Nat.le_of_ble_eq_true rfl) (Nat.le_of_ble_eq_true rfl)).trans rfl
set_option maxRecDepth 20000 in
theorem lL_law_567 : lk (tL_law b L xs) 567 = oI2 (fun x y => x + y) 568 := (lkc_4 (Nat.le_of_ble_eq_true rfl) (Nat.le_of_ble_eq_true rfl)).trans rfl
set_option maxRecDepth 20000 in
theorem lL_law_568 : lk (tL_law b L xs) 568 = oSld b L xs 569 := (lkc_4 (Nat.le_of_ble_eq_true rfl) (Nat.le_of_ble_eq_true rfl)).trans rfl
set_option maxRecDepth 20000 in
theorem lL_law_569 : lk (tL_law b L xs) 569 = oAld 0 570 := (lkc_4 (Nat.le_of_ble_eq_true rfl) (Nat.le_of_ble_eq_true rfl)).trans rfl
set_option maxRecDepth 20000 in
theorem lL_law_570 : lk (tL_law b L xs) 570 = oIld 5 572 := (lkc_4 (Nat.le_of_ble_eq_true rfl) (Nat.le_of_ble_eq_true rfl)).trans rfl
set_option maxRecDepth 20000 in
theorem lL_law_572 : lk (tL_law b L xs) 572 = oPush (.int 2) 573 := (lkc_4 (Nat.le_of_ble_eq_true rfl) (Nat.le_of_ble_eq_true rfl)).trans rfl
set_option maxRecDepth 20000 in
theorem lL_law_573 : lk (tL_law b L xs) 573 = oI2 (fun x y => x + y) 574 := (lkc_4 (Nat.le_of_ble_eq_true rfl) (Nat.le_of_ble_eq_true rfl)).trans rfl
set_option maxRecDepth 20000 in
theorem lL_law_574 : lk (tL_law b L xs) 574 = oSld b L xs 575 := (lkc_4 (Nat.le_of_ble_eq_true rfl) (Nat.le_of_ble_eq_true rfl)).trans rfl
set_option maxRecDepth 20000 in
theorem lL_law_575 : lk (tL_law b L xs) 575 = oAld 3 576 := (lkc_4 (Nat.le_of_ble_eq_true rfl) (Nat.le_of_ble_eq_true rfl)).trans rfl
set_option maxRecDepth 20000 in
theorem lL_law_576 : lk (tL_law b L xs) 576 = oCallG 2000 601024 7293034 1 6 yL_element (Cond.codeWith yL_element cL_element 5 (some .int) [(0, 10, 13, 31)]) 4 579 := (lkc_4 (Nat.le_of_ble_eq_true rfl) (Nat.le_of_ble_eq_true rfl)).trans rfl
set_option maxRecDepth 20000 in
theorem lL_law_579 : lk (tL_law b L xs) 579 = oIst 6 581 := (lkc_4 (Nat.le_of_ble_eq_true rfl) (Nat.le_of_ble_eq_true rfl)).trans rfl
set_option maxRecDepth 20000 in
theorem lL_law_581 : lk (tL_law b L xs) 581 = oAld 2 582 := (lkc_4 (Nat.le_of_ble_eq_true rfl) (Nat.le_of_ble_eq_true rfl)).trans rfl
set_option maxRecDepth 20000 in
theorem lL_law_582 : lk (tL_law b L xs) 582 = oAld 0 583 := (lkc_4 (Nat.le_of_ble_eq_true rfl) (Nat.le_of_ble_eq_true rfl)).trans rfl
set_option maxRecDepth 20000 in
theorem lL_law_583 : lk (tL_law b L xs) 583 = oIld 5 585 := (lkc_4 (Nat.le_of_ble_eq_true rfl) (Nat.le_of_ble_eq_true rfl)).trans rfl
set_option maxRecDepth 20000 in
theorem lL_law_585 : lk (tL_law b L xs) 585 = oPush (.int 1) 586 := (lkc_4 (Nat.le_of_ble_eq_true rfl) (Nat.le_of_ble_eq_true rfl)).trans rfl
set_option maxRecDepth 20000 in
theorem lL_law_586 : lk (tL_law b L xs) 586 = oI2 (fun x y => x + y) 587 := (lkc_4 (Nat.le_of_ble_eq_true rfl) (Nat.le_of_ble_eq_true rfl)).trans rfl
set_option maxRecDepth 20000 in
theorem lL_law_587 : lk (tL_law b L xs) 587 = oSld b L xs 588 := (lkc_4 (Nat.le_of_ble_eq_true rfl) (Nat.le_of_ble_eq_true rfl)).trans rfl
set_option maxRecDepth 20000 in
theorem lL_law_588 : lk (tL_law b L xs) 588 = oAld 0 589 := (lkc_4 (Nat.le_of_ble_eq_true rfl) (Nat.le_of_ble_eq_true rfl)).trans rfl
set_option maxRecDepth 20000 in
theorem lL_law_589 : lk (tL_law b L xs) 589 = oIld 5 591 := (lkc_4 (Nat.le_of_ble_eq_true rfl) (Nat.le_of_ble_eq_true rfl)).trans rfl
set_option maxRecDepth 20000 in
theorem lL_law_591 : lk (tL_law b L xs) 591 = oPush (.int 2) 592 := (lkc_4 (Nat.le_of_ble_eq_true rfl) (Nat.le_of_ble_eq_true rfl)).trans rfl
set_option maxRecDepth 20000 in
theorem lL_law_592 : lk (tL_law b L xs) 592 = oI2 (fun x y => x + y) 593 := (lkc_4 (Nat.le_of_ble_eq_true rfl) (Nat.le_of_ble_eq_true rfl)).trans rfl
set_option maxRecDepth 20000 in
theorem lL_law_593 : lk (tL_law b L xs) 593 = oSld b L xs 594 := (lkc_4 (Nat.le_of_ble_eq_true rfl) (Nat.le_of_ble_eq_true rfl)).trans rfl
set_option maxRecDepth 20000 in
theorem lL_law_594 : lk (tL_law b L xs) 594 = oCallGV 2000 601024 7293034 0 0 yX10_element (Cond.code yX10_element cX10_element 3 (some .int)) 2 10 597 := (lkc_4 (Nat.le_of_ble_eq_true rfl) (Nat.le_of_ble_eq_true rfl)).trans rfl
set_option maxRecDepth 20000 in
theorem lL_law_597 : lk (tL_law b L xs) 597 = oIst 7 599 := (lkc_4 (Nat.le_of_ble_eq_true rfl) (Nat.le_of_ble_eq_true rfl)).trans rfl
set_option maxRecDepth 20000 in
theorem lL_law_599 : lk (tL_law b L xs) 599 = oAld 2 600 := (lkc_4 (Nat.le_of_ble_eq_true rfl) (Nat.le_of_ble_eq_true rfl)).trans rfl
set_option maxRecDepth 20000 in
theorem lL_law_600 : lk (tL_law b L xs) 600 = oCallGV 2000 601024 7293034 0 0 yX10_thrown (Cond.code yX10_thrown cX10_thrown 1 (some .int)) 0 10 603 := (lkc_5 (Nat.le_of_ble_eq_true rfl) (Nat.le_of_ble_eq_true rfl)).trans rfl
set_option maxRecDepth 20000 in
theorem lL_law_603 : lk (tL_law b L xs) 603 = oIld 6 605 := (lkc_5 (Nat.le_of_ble_eq_true rfl) (Nat.le_of_ble_eq_true rfl)).trans rfl
set_option maxRecDepth 20000 in
theorem lL_law_605 : lk (tL_law b L xs) 605 = oIc (fun x y => x = y) 610 608 := (lkc_5 (Nat.le_of_ble_eq_true rfl) (Nat.le_of_ble_eq_true rfl)).trans rfl
set_option maxRecDepth 20000 in
theorem lL_law_608 : lk (tL_law b L xs) 608 = oPush (.int 0) 609 := (lkc_5 (Nat.le_of_ble_eq_true rfl) (Nat.le_of_ble_eq_true rfl)).trans rfl
set_option maxRecDepth 20000 in
theorem lL_law_609 : lk (tL_law b L xs) 609 = oLret := (lkc_5 (Nat.le_of_ble_eq_true rfl) (Nat.le_of_ble_eq_true rfl)).trans rfl
set_option maxRecDepth 20000 in
theorem lL_law_610 : lk (tL_law b L xs) 610 = oIld 6 612 := (lkc_5 (Nat.le_of_ble_eq_true rfl) (Nat.le_of_ble_eq_true rfl)).trans rfl
set_option maxRecDepth 20000 in
theorem lL_law_612 : lk (tL_law b L xs) 612 = oIf (fun x => x = 0) 615 627 := (lkc_5 (Nat.le_of_ble_eq_true rfl) (Nat.le_of_ble_eq_true rfl)).trans rfl
set_option maxRecDepth 20000 in
theorem lL_law_615 : lk (tL_law b L xs) 615 = oAld 3 616 := (lkc_5 (Nat.le_of_ble_eq_true rfl) (Nat.le_of_ble_eq_true rfl)).trans rfl
set_option maxRecDepth 20000 in
theorem lL_law_616 : lk (tL_law b L xs) 616 = oPush (.int 0) 617 := (lkc_5 (Nat.le_of_ble_eq_true rfl) (Nat.le_of_ble_eq_true rfl)).trans rfl
set_option maxRecDepth 20000 in
theorem lL_law_617 : lk (tL_law b L xs) 617 = oAl 618 := (lkc_5 (Nat.le_of_ble_eq_true rfl) (Nat.le_of_ble_eq_true rfl)).trans rfl
set_option maxRecDepth 20000 in
theorem lL_law_618 : lk (tL_law b L xs) 618 = oIld 7 620 := (lkc_5 (Nat.le_of_ble_eq_true rfl) (Nat.le_of_ble_eq_true rfl)).trans rfl
set_option maxRecDepth 20000 in
theorem lL_law_620 : lk (tL_law b L xs) 620 = oIcv (fun x => .long x.toInt64) 621 := (lkc_5 (Nat.le_of_ble_eq_true rfl) (Nat.le_of_ble_eq_true rfl)).trans rfl
set_option maxRecDepth 20000 in
theorem lL_law_621 : lk (tL_law b L xs) 621 = oLcmp 622 := (lkc_5 (Nat.le_of_ble_eq_true rfl) (Nat.le_of_ble_eq_true rfl)).trans rfl
set_option maxRecDepth 20000 in
theorem lL_law_622 : lk (tL_law b L xs) 622 = oIf (fun x => x = 0) 627 625 := (lkc_5 (Nat.le_of_ble_eq_true rfl) (Nat.le_of_ble_eq_true rfl)).trans rfl
set_option maxRecDepth 20000 in
theorem lL_law_625 : lk (tL_law b L xs) 625 = oPush (.int 0) 626 := (lkc_5 (Nat.le_of_ble_eq_true rfl) (Nat.le_of_ble_eq_true rfl)).trans rfl
set_option maxRecDepth 20000 in
theorem lL_law_626 : lk (tL_law b L xs) 626 = oLret := (lkc_5 (Nat.le_of_ble_eq_true rfl) (Nat.le_of_ble_eq_true rfl)).trans rfl
set_option maxRecDepth 20000 in
theorem lL_law_627 : lk (tL_law b L xs) 627 = oGoto 1656 := (lkc_5 (Nat.le_of_ble_eq_true rfl) (Nat.le_of_ble_eq_true rfl)).trans rfl
set_option maxRecDepth 20000 in
theorem lL_law_630 : lk (tL_law b L xs) 630 = oAld 1 631 := (lkc_5 (Nat.le_of_ble_eq_true rfl) (Nat.le_of_ble_eq_true rfl)).trans rfl
set_option maxRecDepth 20000 in
theorem lL_law_631 : lk (tL_law b L xs) 631 = oAld 0 632 := (lkc_5 (Nat.le_of_ble_eq_true rfl) (Nat.le_of_ble_eq_true rfl)).trans rfl
set_option maxRecDepth 20000 in
theorem lL_law_632 : lk (tL_law b L xs) 632 = oIld 5 634 := (lkc_5 (Nat.le_of_ble_eq_true rfl) (Nat.le_of_ble_eq_true rfl)).trans rfl
set_option maxRecDepth 20000 in
theorem lL_law_634 : lk (tL_law b L xs) 634 = oPush (.int 1) 635 := (lkc_5 (Nat.le_of_ble_eq_true rfl) (Nat.le_of_ble_eq_true rfl)).trans rfl
set_option maxRecDepth 20000 in
theorem lL_law_635 : lk (tL_law b L xs) 635 = oI2 (fun x y => x + y) 636 := (lkc_5 (Nat.le_of_ble_eq_true rfl) (Nat.le_of_ble_eq_true rfl)).trans rfl
set_option maxRecDepth 20000 in
theorem lL_law_636 : lk (tL_law b L xs) 636 = oSld b L xs 637 := (lkc_5 (Nat.le_of_ble_eq_true rfl) (Nat.le_of_ble_eq_true rfl)).trans rfl
set_option maxRecDepth 20000 in
theorem lL_law_637 : lk (tL_law b L xs) 637 = oAld 0 638 := (lkc_5 (Nat.le_of_ble_eq_true rfl) (Nat.le_of_ble_eq_true rfl)).trans rfl
set_option maxRecDepth 20000 in
theorem lL_law_638 : lk (tL_law b L xs) 638 = oIld 5 640 := (lkc_5 (Nat.le_of_ble_eq_true rfl) (Nat.le_of_ble_eq_true rfl)).trans rfl
set_option maxRecDepth 20000 in
theorem lL_law_640 : lk (tL_law b L xs) 640 = oPush (.int 2) 641 := (lkc_5 (Nat.le_of_ble_eq_true rfl) (Nat.le_of_ble_eq_true rfl)).trans rfl
set_option maxRecDepth 20000 in
theorem lL_law_641 : lk (tL_law b L xs) 641 = oI2 (fun x y => x + y) 642 := (lkc_5 (Nat.le_of_ble_eq_true rfl) (Nat.le_of_ble_eq_true rfl)).trans rfl
set_option maxRecDepth 20000 in
theorem lL_law_642 : lk (tL_law b L xs) 642 = oSld b L xs 643 := (lkc_5 (Nat.le_of_ble_eq_true rfl) (Nat.le_of_ble_eq_true rfl)).trans rfl
set_option maxRecDepth 20000 in
theorem lL_law_643 : lk (tL_law b L xs) 643 = oAld 3 644 := (lkc_5 (Nat.le_of_ble_eq_true rfl) (Nat.le_of_ble_eq_true rfl)).trans rfl
set_option maxRecDepth 20000 in
theorem lL_law_644 : lk (tL_law b L xs) 644 = oCallG 2000 601024 7293034 2 12 yL_setInitial (Cond.codeWith yL_setInitial cL_setInitial 5 (some .int) [(0, 10, 13, 31), (0, 10, 17, 13)]) 4 647 := (lkc_5 (Nat.le_of_ble_eq_true rfl) (Nat.le_of_ble_eq_true rfl)).trans rfl
set_option maxRecDepth 20000 in
theorem lL_law_647 : lk (tL_law b L xs) 647 = oIst 6 649 := (lkc_5 (Nat.le_of_ble_eq_true rfl) (Nat.le_of_ble_eq_true rfl)).trans rfl
set_option maxRecDepth 20000 in
theorem lL_law_649 : lk (tL_law b L xs) 649 = oAld 2 650 := (lkc_5 (Nat.le_of_ble_eq_true rfl) (Nat.le_of_ble_eq_true rfl)).trans rfl
set_option maxRecDepth 20000 in
theorem lL_law_650 : lk (tL_law b L xs) 650 = oAld 0 651 := (lkc_5 (Nat.le_of_ble_eq_true rfl) (Nat.le_of_ble_eq_true rfl)).trans rfl
set_option maxRecDepth 20000 in
theorem lL_law_651 : lk (tL_law b L xs) 651 = oIld 5 653 := (lkc_5 (Nat.le_of_ble_eq_true rfl) (Nat.le_of_ble_eq_true rfl)).trans rfl
set_option maxRecDepth 20000 in
theorem lL_law_653 : lk (tL_law b L xs) 653 = oPush (.int 1) 654 := (lkc_5 (Nat.le_of_ble_eq_true rfl) (Nat.le_of_ble_eq_true rfl)).trans rfl
set_option maxRecDepth 20000 in
theorem lL_law_654 : lk (tL_law b L xs) 654 = oI2 (fun x y => x + y) 655 := (lkc_5 (Nat.le_of_ble_eq_true rfl) (Nat.le_of_ble_eq_true rfl)).trans rfl
set_option maxRecDepth 20000 in
theorem lL_law_655 : lk (tL_law b L xs) 655 = oSld b L xs 656 := (lkc_5 (Nat.le_of_ble_eq_true rfl) (Nat.le_of_ble_eq_true rfl)).trans rfl
set_option maxRecDepth 20000 in
theorem lL_law_656 : lk (tL_law b L xs) 656 = oAld 0 657 := (lkc_5 (Nat.le_of_ble_eq_true rfl) (Nat.le_of_ble_eq_true rfl)).trans rfl
set_option maxRecDepth 20000 in
theorem lL_law_657 : lk (tL_law b L xs) 657 = oIld 5 659 := (lkc_5 (Nat.le_of_ble_eq_true rfl) (Nat.le_of_ble_eq_true rfl)).trans rfl
set_option maxRecDepth 20000 in
theorem lL_law_659 : lk (tL_law b L xs) 659 = oPush (.int 2) 660 := (lkc_5 (Nat.le_of_ble_eq_true rfl) (Nat.le_of_ble_eq_true rfl)).trans rfl
set_option maxRecDepth 20000 in
theorem lL_law_660 : lk (tL_law b L xs) 660 = oI2 (fun x y => x + y) 661 := (lkc_5 (Nat.le_of_ble_eq_true rfl) (Nat.le_of_ble_eq_true rfl)).trans rfl
set_option maxRecDepth 20000 in
theorem lL_law_661 : lk (tL_law b L xs) 661 = oSld b L xs 662 := (lkc_5 (Nat.le_of_ble_eq_true rfl) (Nat.le_of_ble_eq_true rfl)).trans rfl
set_option maxRecDepth 20000 in
theorem lL_law_662 : lk (tL_law b L xs) 662 = oCallGV 2000 601024 7293034 0 0 yX10_setInitial (Cond.code yX10_setInitial cX10_setInitial 4 (some .int)) 2 10 665 := (lkc_5 (Nat.le_of_ble_eq_true rfl) (Nat.le_of_ble_eq_true rfl)).trans rfl
set_option maxRecDepth 20000 in
theorem lL_law_665 : lk (tL_law b L xs) 665 = oIst 7 667 := (lkc_5 (Nat.le_of_ble_eq_true rfl) (Nat.le_of_ble_eq_true rfl)).trans rfl
set_option maxRecDepth 20000 in
theorem lL_law_667 : lk (tL_law b L xs) 667 = oAld 2 668 := (lkc_5 (Nat.le_of_ble_eq_true rfl) (Nat.le_of_ble_eq_true rfl)).trans rfl
set_option maxRecDepth 20000 in
theorem lL_law_668 : lk (tL_law b L xs) 668 = oCallGV 2000 601024 7293034 0 0 yX10_thrown (Cond.code yX10_thrown cX10_thrown 1 (some .int)) 0 10 671 := (lkc_5 (Nat.le_of_ble_eq_true rfl) (Nat.le_of_ble_eq_true rfl)).trans rfl
set_option maxRecDepth 20000 in
theorem lL_law_671 : lk (tL_law b L xs) 671 = oIld 6 673 := (lkc_5 (Nat.le_of_ble_eq_true rfl) (Nat.le_of_ble_eq_true rfl)).trans rfl
set_option maxRecDepth 20000 in
theorem lL_law_673 : lk (tL_law b L xs) 673 = oIc (fun x y => x = y) 678 676 := (lkc_5 (Nat.le_of_ble_eq_true rfl) (Nat.le_of_ble_eq_true rfl)).trans rfl
set_option maxRecDepth 20000 in
theorem lL_law_676 : lk (tL_law b L xs) 676 = oPush (.int 0) 677 := (lkc_5 (Nat.le_of_ble_eq_true rfl) (Nat.le_of_ble_eq_true rfl)).trans rfl
set_option maxRecDepth 20000 in
theorem lL_law_677 : lk (tL_law b L xs) 677 = oLret := (lkc_5 (Nat.le_of_ble_eq_true rfl) (Nat.le_of_ble_eq_true rfl)).trans rfl
set_option maxRecDepth 20000 in
theorem lL_law_678 : lk (tL_law b L xs) 678 = oIld 6 680 := (lkc_5 (Nat.le_of_ble_eq_true rfl) (Nat.le_of_ble_eq_true rfl)).trans rfl
set_option maxRecDepth 20000 in
theorem lL_law_680 : lk (tL_law b L xs) 680 = oIf (fun x => x = 0) 683 695 := (lkc_5 (Nat.le_of_ble_eq_true rfl) (Nat.le_of_ble_eq_true rfl)).trans rfl
set_option maxRecDepth 20000 in
theorem lL_law_683 : lk (tL_law b L xs) 683 = oAld 3 684 := (lkc_5 (Nat.le_of_ble_eq_true rfl) (Nat.le_of_ble_eq_true rfl)).trans rfl
set_option maxRecDepth 20000 in
theorem lL_law_684 : lk (tL_law b L xs) 684 = oPush (.int 0) 685 := (lkc_5 (Nat.le_of_ble_eq_true rfl) (Nat.le_of_ble_eq_true rfl)).trans rfl
set_option maxRecDepth 20000 in
theorem lL_law_685 : lk (tL_law b L xs) 685 = oAl 686 := (lkc_5 (Nat.le_of_ble_eq_true rfl) (Nat.le_of_ble_eq_true rfl)).trans rfl
set_option maxRecDepth 20000 in
theorem lL_law_686 : lk (tL_law b L xs) 686 = oIld 7 688 := (lkc_5 (Nat.le_of_ble_eq_true rfl) (Nat.le_of_ble_eq_true rfl)).trans rfl
set_option maxRecDepth 20000 in
theorem lL_law_688 : lk (tL_law b L xs) 688 = oIcv (fun x => .long x.toInt64) 689 := (lkc_5 (Nat.le_of_ble_eq_true rfl) (Nat.le_of_ble_eq_true rfl)).trans rfl
set_option maxRecDepth 20000 in
theorem lL_law_689 : lk (tL_law b L xs) 689 = oLcmp 690 := (lkc_5 (Nat.le_of_ble_eq_true rfl) (Nat.le_of_ble_eq_true rfl)).trans rfl
set_option maxRecDepth 20000 in
theorem lL_law_690 : lk (tL_law b L xs) 690 = oIf (fun x => x = 0) 695 693 := (lkc_5 (Nat.le_of_ble_eq_true rfl) (Nat.le_of_ble_eq_true rfl)).trans rfl
set_option maxRecDepth 20000 in
theorem lL_law_693 : lk (tL_law b L xs) 693 = oPush (.int 0) 694 := (lkc_5 (Nat.le_of_ble_eq_true rfl) (Nat.le_of_ble_eq_true rfl)).trans rfl
set_option maxRecDepth 20000 in
theorem lL_law_694 : lk (tL_law b L xs) 694 = oLret := (lkc_6 (Nat.le_of_ble_eq_true rfl) (Nat.le_of_ble_eq_true rfl)).trans rfl
set_option maxRecDepth 20000 in
theorem lL_law_695 : lk (tL_law b L xs) 695 = oGoto 1656 := (lkc_6 (Nat.le_of_ble_eq_true rfl) (Nat.le_of_ble_eq_true rfl)).trans rfl
set_option maxRecDepth 20000 in
theorem lL_law_698 : lk (tL_law b L xs) 698 = oAld 1 699 := (lkc_6 (Nat.le_of_ble_eq_true rfl) (Nat.le_of_ble_eq_true rfl)).trans rfl
set_option maxRecDepth 20000 in
theorem lL_law_699 : lk (tL_law b L xs) 699 = oAld 0 700 := (lkc_6 (Nat.le_of_ble_eq_true rfl) (Nat.le_of_ble_eq_true rfl)).trans rfl
set_option maxRecDepth 20000 in
theorem lL_law_700 : lk (tL_law b L xs) 700 = oIld 5 702 := (lkc_6 (Nat.le_of_ble_eq_true rfl) (Nat.le_of_ble_eq_true rfl)).trans rfl
set_option maxRecDepth 20000 in
theorem lL_law_702 : lk (tL_law b L xs) 702 = oPush (.int 1) 703 := (lkc_6 (Nat.le_of_ble_eq_true rfl) (Nat.le_of_ble_eq_true rfl)).trans rfl
set_option maxRecDepth 20000 in
theorem lL_law_703 : lk (tL_law b L xs) 703 = oI2 (fun x y => x + y) 704 := (lkc_6 (Nat.le_of_ble_eq_true rfl) (Nat.le_of_ble_eq_true rfl)).trans rfl
set_option maxRecDepth 20000 in
theorem lL_law_704 : lk (tL_law b L xs) 704 = oSld b L xs 705 := (lkc_6 (Nat.le_of_ble_eq_true rfl) (Nat.le_of_ble_eq_true rfl)).trans rfl
set_option maxRecDepth 20000 in
theorem lL_law_705 : lk (tL_law b L xs) 705 = oAld 3 706 := (lkc_6 (Nat.le_of_ble_eq_true rfl) (Nat.le_of_ble_eq_true rfl)).trans rfl
set_option maxRecDepth 20000 in
theorem lL_law_706 : lk (tL_law b L xs) 706 = oCallG 2000 601024 7293034 1 6 yL_kind (Cond.codeWith yL_kind cL_kind 4 (some .int) [(0, 9, 12, 31)]) 3 709 := (lkc_6 (Nat.le_of_ble_eq_true rfl) (Nat.le_of_ble_eq_true rfl)).trans rfl
set_option maxRecDepth 20000 in
theorem lL_law_709 : lk (tL_law b L xs) 709 = oIst 6 711 := (lkc_6 (Nat.le_of_ble_eq_true rfl) (Nat.le_of_ble_eq_true rfl)).trans rfl
set_option maxRecDepth 20000 in
theorem lL_law_711 : lk (tL_law b L xs) 711 = oAld 2 712 := (lkc_6 (Nat.le_of_ble_eq_true rfl) (Nat.le_of_ble_eq_true rfl)).trans rfl
set_option maxRecDepth 20000 in
theorem lL_law_712 : lk (tL_law b L xs) 712 = oAld 0 713 := (lkc_6 (Nat.le_of_ble_eq_true rfl) (Nat.le_of_ble_eq_true rfl)).trans rfl
set_option maxRecDepth 20000 in
theorem lL_law_713 : lk (tL_law b L xs) 713 = oIld 5 715 := (lkc_6 (Nat.le_of_ble_eq_true rfl) (Nat.le_of_ble_eq_true rfl)).trans rfl
set_option maxRecDepth 20000 in
theorem lL_law_715 : lk (tL_law b L xs) 715 = oPush (.int 1) 716 := (lkc_6 (Nat.le_of_ble_eq_true rfl) (Nat.le_of_ble_eq_true rfl)).trans rfl
set_option maxRecDepth 20000 in
theorem lL_law_716 : lk (tL_law b L xs) 716 = oI2 (fun x y => x + y) 717 := (lkc_6 (Nat.le_of_ble_eq_true rfl) (Nat.le_of_ble_eq_true rfl)).trans rfl
set_option maxRecDepth 20000 in
theorem lL_law_717 : lk (tL_law b L xs) 717 = oSld b L xs 718 := (lkc_6 (Nat.le_of_ble_eq_true rfl) (Nat.le_of_ble_eq_true rfl)).trans rfl
set_option maxRecDepth 20000 in
theorem lL_law_718 : lk (tL_law b L xs) 718 = oCallGV 2000 601024 7293034 0 0 yX10_kind (Cond.code yX10_kind cX10_kind 2 (some .int)) 1 10 721 := (lkc_6 (Nat.le_of_ble_eq_true rfl) (Nat.le_of_ble_eq_true rfl)).trans rfl
set_option maxRecDepth 20000 in
theorem lL_law_721 : lk (tL_law b L xs) 721 = oIst 7 723 := (lkc_6 (Nat.le_of_ble_eq_true rfl) (Nat.le_of_ble_eq_true rfl)).trans rfl
set_option maxRecDepth 20000 in
theorem lL_law_723 : lk (tL_law b L xs) 723 = oAld 2 724 := (lkc_6 (Nat.le_of_ble_eq_true rfl) (Nat.le_of_ble_eq_true rfl)).trans rfl
set_option maxRecDepth 20000 in
theorem lL_law_724 : lk (tL_law b L xs) 724 = oCallGV 2000 601024 7293034 0 0 yX10_thrown (Cond.code yX10_thrown cX10_thrown 1 (some .int)) 0 10 727 := (lkc_6 (Nat.le_of_ble_eq_true rfl) (Nat.le_of_ble_eq_true rfl)).trans rfl
set_option maxRecDepth 20000 in
theorem lL_law_727 : lk (tL_law b L xs) 727 = oIld 6 729 := (lkc_6 (Nat.le_of_ble_eq_true rfl) (Nat.le_of_ble_eq_true rfl)).trans rfl
set_option maxRecDepth 20000 in
theorem lL_law_729 : lk (tL_law b L xs) 729 = oIc (fun x y => x = y) 734 732 := (lkc_6 (Nat.le_of_ble_eq_true rfl) (Nat.le_of_ble_eq_true rfl)).trans rfl
set_option maxRecDepth 20000 in
theorem lL_law_732 : lk (tL_law b L xs) 732 = oPush (.int 0) 733 := (lkc_6 (Nat.le_of_ble_eq_true rfl) (Nat.le_of_ble_eq_true rfl)).trans rfl
set_option maxRecDepth 20000 in
theorem lL_law_733 : lk (tL_law b L xs) 733 = oLret := (lkc_6 (Nat.le_of_ble_eq_true rfl) (Nat.le_of_ble_eq_true rfl)).trans rfl
set_option maxRecDepth 20000 in
theorem lL_law_734 : lk (tL_law b L xs) 734 = oIld 6 736 := (lkc_6 (Nat.le_of_ble_eq_true rfl) (Nat.le_of_ble_eq_true rfl)).trans rfl
set_option maxRecDepth 20000 in
theorem lL_law_736 : lk (tL_law b L xs) 736 = oIf (fun x => x = 0) 739 751 := (lkc_6 (Nat.le_of_ble_eq_true rfl) (Nat.le_of_ble_eq_true rfl)).trans rfl
set_option maxRecDepth 20000 in
theorem lL_law_739 : lk (tL_law b L xs) 739 = oAld 3 740 := (lkc_6 (Nat.le_of_ble_eq_true rfl) (Nat.le_of_ble_eq_true rfl)).trans rfl
set_option maxRecDepth 20000 in
theorem lL_law_740 : lk (tL_law b L xs) 740 = oPush (.int 0) 741 := (lkc_6 (Nat.le_of_ble_eq_true rfl) (Nat.le_of_ble_eq_true rfl)).trans rfl
set_option maxRecDepth 20000 in
theorem lL_law_741 : lk (tL_law b L xs) 741 = oAl 742 := (lkc_6 (Nat.le_of_ble_eq_true rfl) (Nat.le_of_ble_eq_true rfl)).trans rfl
set_option maxRecDepth 20000 in
theorem lL_law_742 : lk (tL_law b L xs) 742 = oIld 7 744 := (lkc_6 (Nat.le_of_ble_eq_true rfl) (Nat.le_of_ble_eq_true rfl)).trans rfl
set_option maxRecDepth 20000 in
theorem lL_law_744 : lk (tL_law b L xs) 744 = oIcv (fun x => .long x.toInt64) 745 := (lkc_6 (Nat.le_of_ble_eq_true rfl) (Nat.le_of_ble_eq_true rfl)).trans rfl
set_option maxRecDepth 20000 in
theorem lL_law_745 : lk (tL_law b L xs) 745 = oLcmp 746 := (lkc_6 (Nat.le_of_ble_eq_true rfl) (Nat.le_of_ble_eq_true rfl)).trans rfl
set_option maxRecDepth 20000 in
theorem lL_law_746 : lk (tL_law b L xs) 746 = oIf (fun x => x = 0) 751 749 := (lkc_6 (Nat.le_of_ble_eq_true rfl) (Nat.le_of_ble_eq_true rfl)).trans rfl
set_option maxRecDepth 20000 in
theorem lL_law_749 : lk (tL_law b L xs) 749 = oPush (.int 0) 750 := (lkc_6 (Nat.le_of_ble_eq_true rfl) (Nat.le_of_ble_eq_true rfl)).trans rfl
set_option maxRecDepth 20000 in
theorem lL_law_750 : lk (tL_law b L xs) 750 = oLret := (lkc_6 (Nat.le_of_ble_eq_true rfl) (Nat.le_of_ble_eq_true rfl)).trans rfl
set_option maxRecDepth 20000 in
theorem lL_law_751 : lk (tL_law b L xs) 751 = oGoto 1656 := (lkc_6 (Nat.le_of_ble_eq_true rfl) (Nat.le_of_ble_eq_true rfl)).trans rfl
set_option maxRecDepth 20000 in
theorem lL_law_754 : lk (tL_law b L xs) 754 = oAld 1 755 := (lkc_6 (Nat.le_of_ble_eq_true rfl) (Nat.le_of_ble_eq_true rfl)).trans rfl
set_option maxRecDepth 20000 in
theorem lL_law_755 : lk (tL_law b L xs) 755 = oAld 0 756 := (lkc_6 (Nat.le_of_ble_eq_true rfl) (Nat.le_of_ble_eq_true rfl)).trans rfl
set_option maxRecDepth 20000 in
theorem lL_law_756 : lk (tL_law b L xs) 756 = oIld 5 758 := (lkc_6 (Nat.le_of_ble_eq_true rfl) (Nat.le_of_ble_eq_true rfl)).trans rfl
set_option maxRecDepth 20000 in
theorem lL_law_758 : lk (tL_law b L xs) 758 = oPush (.int 1) 759 := (lkc_6 (Nat.le_of_ble_eq_true rfl) (Nat.le_of_ble_eq_true rfl)).trans rfl
set_option maxRecDepth 20000 in
theorem lL_law_759 : lk (tL_law b L xs) 759 = oI2 (fun x y => x + y) 760 := (lkc_6 (Nat.le_of_ble_eq_true rfl) (Nat.le_of_ble_eq_true rfl)).trans rfl
set_option maxRecDepth 20000 in
theorem lL_law_760 : lk (tL_law b L xs) 760 = oSld b L xs 761 := (lkc_6 (Nat.le_of_ble_eq_true rfl) (Nat.le_of_ble_eq_true rfl)).trans rfl
set_option maxRecDepth 20000 in
theorem lL_law_761 : lk (tL_law b L xs) 761 = oAld 3 762 := (lkc_6 (Nat.le_of_ble_eq_true rfl) (Nat.le_of_ble_eq_true rfl)).trans rfl
set_option maxRecDepth 20000 in
theorem lL_law_762 : lk (tL_law b L xs) 762 = oCallG 2000 601024 7293034 2 12 yL_operator (Cond.codeWith yL_operator cL_operator 4 (some .int) [(0, 9, 12, 31), (0, 9, 15, 49)]) 3 765 := (lkc_6 (Nat.le_of_ble_eq_true rfl) (Nat.le_of_ble_eq_true rfl)).trans rfl
set_option maxRecDepth 20000 in
theorem lL_law_765 : lk (tL_law b L xs) 765 = oIst 6 767 := (lkc_6 (Nat.le_of_ble_eq_true rfl) (Nat.le_of_ble_eq_true rfl)).trans rfl
set_option maxRecDepth 20000 in
theorem lL_law_767 : lk (tL_law b L xs) 767 = oAld 2 768 := (lkc_6 (Nat.le_of_ble_eq_true rfl) (Nat.le_of_ble_eq_true rfl)).trans rfl
set_option maxRecDepth 20000 in
theorem lL_law_768 : lk (tL_law b L xs) 768 = oAld 0 769 := (lkc_6 (Nat.le_of_ble_eq_true rfl) (Nat.le_of_ble_eq_true rfl)).trans rfl
set_option maxRecDepth 20000 in
theorem lL_law_769 : lk (tL_law b L xs) 769 = oIld 5 771 := (lkc_6 (Nat.le_of_ble_eq_true rfl) (Nat.le_of_ble_eq_true rfl)).trans rfl
set_option maxRecDepth 20000 in
theorem lL_law_771 : lk (tL_law b L xs) 771 = oPush (.int 1) 772 := (lkc_6 (Nat.le_of_ble_eq_true rfl) (Nat.le_of_ble_eq_true rfl)).trans rfl
set_option maxRecDepth 20000 in
theorem lL_law_772 : lk (tL_law b L xs) 772 = oI2 (fun x y => x + y) 773 := (lkc_6 (Nat.le_of_ble_eq_true rfl) (Nat.le_of_ble_eq_true rfl)).trans rfl
set_option maxRecDepth 20000 in
theorem lL_law_773 : lk (tL_law b L xs) 773 = oSld b L xs 774 := (lkc_6 (Nat.le_of_ble_eq_true rfl) (Nat.le_of_ble_eq_true rfl)).trans rfl
set_option maxRecDepth 20000 in
theorem lL_law_774 : lk (tL_law b L xs) 774 = oCallGV 2000 601024 7293034 0 0 yX10_operator (Cond.code yX10_operator cX10_operator 2 (some .int)) 1 10 777 := (lkc_6 (Nat.le_of_ble_eq_true rfl) (Nat.le_of_ble_eq_true rfl)).trans rfl
set_option maxRecDepth 20000 in
theorem lL_law_777 : lk (tL_law b L xs) 777 = oIst 7 779 := (lkc_6 (Nat.le_of_ble_eq_true rfl) (Nat.le_of_ble_eq_true rfl)).trans rfl
set_option maxRecDepth 20000 in
theorem lL_law_779 : lk (tL_law b L xs) 779 = oAld 2 780 := (lkc_6 (Nat.le_of_ble_eq_true rfl) (Nat.le_of_ble_eq_true rfl)).trans rfl
set_option maxRecDepth 20000 in
theorem lL_law_780 : lk (tL_law b L xs) 780 = oCallGV 2000 601024 7293034 0 0 yX10_thrown (Cond.code yX10_thrown cX10_thrown 1 (some .int)) 0 10 783 := (lkc_6 (Nat.le_of_ble_eq_true rfl) (Nat.le_of_ble_eq_true rfl)).trans rfl
set_option maxRecDepth 20000 in
theorem lL_law_783 : lk (tL_law b L xs) 783 = oIld 6 785 := (lkc_6 (Nat.le_of_ble_eq_true rfl) (Nat.le_of_ble_eq_true rfl)).trans rfl
set_option maxRecDepth 20000 in
theorem lL_law_785 : lk (tL_law b L xs) 785 = oIc (fun x y => x = y) 790 788 := (lkc_6 (Nat.le_of_ble_eq_true rfl) (Nat.le_of_ble_eq_true rfl)).trans rfl
set_option maxRecDepth 20000 in
theorem lL_law_788 : lk (tL_law b L xs) 788 = oPush (.int 0) 789 := (lkc_6 (Nat.le_of_ble_eq_true rfl) (Nat.le_of_ble_eq_true rfl)).trans rfl
set_option maxRecDepth 20000 in
theorem lL_law_789 : lk (tL_law b L xs) 789 = oLret := (lkc_6 (Nat.le_of_ble_eq_true rfl) (Nat.le_of_ble_eq_true rfl)).trans rfl
set_option maxRecDepth 20000 in
theorem lL_law_790 : lk (tL_law b L xs) 790 = oIld 6 792 := (lkc_7 (Nat.le_of_ble_eq_true rfl) (Nat.le_of_ble_eq_true rfl)).trans rfl
set_option maxRecDepth 20000 in
theorem lL_law_792 : lk (tL_law b L xs) 792 = oIf (fun x => x = 0) 795 807 := (lkc_7 (Nat.le_of_ble_eq_true rfl) (Nat.le_of_ble_eq_true rfl)).trans rfl
set_option maxRecDepth 20000 in
theorem lL_law_795 : lk (tL_law b L xs) 795 = oAld 3 796 := (lkc_7 (Nat.le_of_ble_eq_true rfl) (Nat.le_of_ble_eq_true rfl)).trans rfl
set_option maxRecDepth 20000 in
theorem lL_law_796 : lk (tL_law b L xs) 796 = oPush (.int 0) 797 := (lkc_7 (Nat.le_of_ble_eq_true rfl) (Nat.le_of_ble_eq_true rfl)).trans rfl
set_option maxRecDepth 20000 in
theorem lL_law_797 : lk (tL_law b L xs) 797 = oAl 798 := (lkc_7 (Nat.le_of_ble_eq_true rfl) (Nat.le_of_ble_eq_true rfl)).trans rfl
set_option maxRecDepth 20000 in
theorem lL_law_798 : lk (tL_law b L xs) 798 = oIld 7 800 := (lkc_7 (Nat.le_of_ble_eq_true rfl) (Nat.le_of_ble_eq_true rfl)).trans rfl
set_option maxRecDepth 20000 in
theorem lL_law_800 : lk (tL_law b L xs) 800 = oIcv (fun x => .long x.toInt64) 801 := (lkc_7 (Nat.le_of_ble_eq_true rfl) (Nat.le_of_ble_eq_true rfl)).trans rfl
set_option maxRecDepth 20000 in
theorem lL_law_801 : lk (tL_law b L xs) 801 = oLcmp 802 := (lkc_7 (Nat.le_of_ble_eq_true rfl) (Nat.le_of_ble_eq_true rfl)).trans rfl
set_option maxRecDepth 20000 in
theorem lL_law_802 : lk (tL_law b L xs) 802 = oIf (fun x => x = 0) 807 805 := (lkc_7 (Nat.le_of_ble_eq_true rfl) (Nat.le_of_ble_eq_true rfl)).trans rfl
set_option maxRecDepth 20000 in
theorem lL_law_805 : lk (tL_law b L xs) 805 = oPush (.int 0) 806 := (lkc_7 (Nat.le_of_ble_eq_true rfl) (Nat.le_of_ble_eq_true rfl)).trans rfl
set_option maxRecDepth 20000 in
theorem lL_law_806 : lk (tL_law b L xs) 806 = oLret := (lkc_7 (Nat.le_of_ble_eq_true rfl) (Nat.le_of_ble_eq_true rfl)).trans rfl
set_option maxRecDepth 20000 in
theorem lL_law_807 : lk (tL_law b L xs) 807 = oGoto 1656 := (lkc_7 (Nat.le_of_ble_eq_true rfl) (Nat.le_of_ble_eq_true rfl)).trans rfl
set_option maxRecDepth 20000 in
theorem lL_law_810 : lk (tL_law b L xs) 810 = oAld 1 811 := (lkc_7 (Nat.le_of_ble_eq_true rfl) (Nat.le_of_ble_eq_true rfl)).trans rfl
set_option maxRecDepth 20000 in
theorem lL_law_811 : lk (tL_law b L xs) 811 = oAld 0 812 := (lkc_7 (Nat.le_of_ble_eq_true rfl) (Nat.le_of_ble_eq_true rfl)).trans rfl
set_option maxRecDepth 20000 in
theorem lL_law_812 : lk (tL_law b L xs) 812 = oIld 5 814 := (lkc_7 (Nat.le_of_ble_eq_true rfl) (Nat.le_of_ble_eq_true rfl)).trans rfl
set_option maxRecDepth 20000 in
theorem lL_law_814 : lk (tL_law b L xs) 814 = oPush (.int 1) 815 := (lkc_7 (Nat.le_of_ble_eq_true rfl) (Nat.le_of_ble_eq_true rfl)).trans rfl
set_option maxRecDepth 20000 in
theorem lL_law_815 : lk (tL_law b L xs) 815 = oI2 (fun x y => x + y) 816 := (lkc_7 (Nat.le_of_ble_eq_true rfl) (Nat.le_of_ble_eq_true rfl)).trans rfl
set_option maxRecDepth 20000 in
theorem lL_law_816 : lk (tL_law b L xs) 816 = oSld b L xs 817 := (lkc_7 (Nat.le_of_ble_eq_true rfl) (Nat.le_of_ble_eq_true rfl)).trans rfl
set_option maxRecDepth 20000 in
theorem lL_law_817 : lk (tL_law b L xs) 817 = oAld 3 818 := (lkc_7 (Nat.le_of_ble_eq_true rfl) (Nat.le_of_ble_eq_true rfl)).trans rfl
set_option maxRecDepth 20000 in
theorem lL_law_818 : lk (tL_law b L xs) 818 = oCallG 2000 601024 7293034 2 12 yL_terms (Cond.codeWith yL_terms cL_terms 4 (some .int) [(0, 9, 12, 31), (0, 9, 15, 49)]) 3 821 := (lkc_7 (Nat.le_of_ble_eq_true rfl) (Nat.le_of_ble_eq_true rfl)).trans rfl
set_option maxRecDepth 20000 in
theorem lL_law_821 : lk (tL_law b L xs) 821 = oIst 6 823 := (lkc_7 (Nat.le_of_ble_eq_true rfl) (Nat.le_of_ble_eq_true rfl)).trans rfl
set_option maxRecDepth 20000 in
theorem lL_law_823 : lk (tL_law b L xs) 823 = oAld 2 824 := (lkc_7 (Nat.le_of_ble_eq_true rfl) (Nat.le_of_ble_eq_true rfl)).trans rfl
set_option maxRecDepth 20000 in
theorem lL_law_824 : lk (tL_law b L xs) 824 = oAld 0 825 := (lkc_7 (Nat.le_of_ble_eq_true rfl) (Nat.le_of_ble_eq_true rfl)).trans rfl
set_option maxRecDepth 20000 in
theorem lL_law_825 : lk (tL_law b L xs) 825 = oIld 5 827 := (lkc_7 (Nat.le_of_ble_eq_true rfl) (Nat.le_of_ble_eq_true rfl)).trans rfl
set_option maxRecDepth 20000 in
theorem lL_law_827 : lk (tL_law b L xs) 827 = oPush (.int 1) 828 := (lkc_7 (Nat.le_of_ble_eq_true rfl) (Nat.le_of_ble_eq_true rfl)).trans rfl
set_option maxRecDepth 20000 in
theorem lL_law_828 : lk (tL_law b L xs) 828 = oI2 (fun x y => x + y) 829 := (lkc_7 (Nat.le_of_ble_eq_true rfl) (Nat.le_of_ble_eq_true rfl)).trans rfl
set_option maxRecDepth 20000 in
theorem lL_law_829 : lk (tL_law b L xs) 829 = oSld b L xs 830 := (lkc_7 (Nat.le_of_ble_eq_true rfl) (Nat.le_of_ble_eq_true rfl)).trans rfl
set_option maxRecDepth 20000 in
theorem lL_law_830 : lk (tL_law b L xs) 830 = oCallGV 2000 601024 7293034 0 0 yX10_terms (Cond.code yX10_terms cX10_terms 2 (some .int)) 1 10 833 := (lkc_7 (Nat.le_of_ble_eq_true rfl) (Nat.le_of_ble_eq_true rfl)).trans rfl
set_option maxRecDepth 20000 in
theorem lL_law_833 : lk (tL_law b L xs) 833 = oIst 7 835 := (lkc_7 (Nat.le_of_ble_eq_true rfl) (Nat.le_of_ble_eq_true rfl)).trans rfl
set_option maxRecDepth 20000 in
theorem lL_law_835 : lk (tL_law b L xs) 835 = oAld 2 836 := (lkc_7 (Nat.le_of_ble_eq_true rfl) (Nat.le_of_ble_eq_true rfl)).trans rfl
set_option maxRecDepth 20000 in
theorem lL_law_836 : lk (tL_law b L xs) 836 = oCallGV 2000 601024 7293034 0 0 yX10_thrown (Cond.code yX10_thrown cX10_thrown 1 (some .int)) 0 10 839 := (lkc_7 (Nat.le_of_ble_eq_true rfl) (Nat.le_of_ble_eq_true rfl)).trans rfl
set_option maxRecDepth 20000 in
theorem lL_law_839 : lk (tL_law b L xs) 839 = oIld 6 841 := (lkc_7 (Nat.le_of_ble_eq_true rfl) (Nat.le_of_ble_eq_true rfl)).trans rfl
set_option maxRecDepth 20000 in
theorem lL_law_841 : lk (tL_law b L xs) 841 = oIc (fun x y => x = y) 846 844 := (lkc_7 (Nat.le_of_ble_eq_true rfl) (Nat.le_of_ble_eq_true rfl)).trans rfl
set_option maxRecDepth 20000 in
theorem lL_law_844 : lk (tL_law b L xs) 844 = oPush (.int 0) 845 := (lkc_7 (Nat.le_of_ble_eq_true rfl) (Nat.le_of_ble_eq_true rfl)).trans rfl
set_option maxRecDepth 20000 in
theorem lL_law_845 : lk (tL_law b L xs) 845 = oLret := (lkc_7 (Nat.le_of_ble_eq_true rfl) (Nat.le_of_ble_eq_true rfl)).trans rfl
set_option maxRecDepth 20000 in
theorem lL_law_846 : lk (tL_law b L xs) 846 = oIld 6 848 := (lkc_7 (Nat.le_of_ble_eq_true rfl) (Nat.le_of_ble_eq_true rfl)).trans rfl
set_option maxRecDepth 20000 in
theorem lL_law_848 : lk (tL_law b L xs) 848 = oIf (fun x => x = 0) 851 863 := (lkc_7 (Nat.le_of_ble_eq_true rfl) (Nat.le_of_ble_eq_true rfl)).trans rfl
set_option maxRecDepth 20000 in
theorem lL_law_851 : lk (tL_law b L xs) 851 = oAld 3 852 := (lkc_7 (Nat.le_of_ble_eq_true rfl) (Nat.le_of_ble_eq_true rfl)).trans rfl
set_option maxRecDepth 20000 in
theorem lL_law_852 : lk (tL_law b L xs) 852 = oPush (.int 0) 853 := (lkc_7 (Nat.le_of_ble_eq_true rfl) (Nat.le_of_ble_eq_true rfl)).trans rfl
set_option maxRecDepth 20000 in
theorem lL_law_853 : lk (tL_law b L xs) 853 = oAl 854 := (lkc_7 (Nat.le_of_ble_eq_true rfl) (Nat.le_of_ble_eq_true rfl)).trans rfl
set_option maxRecDepth 20000 in
theorem lL_law_854 : lk (tL_law b L xs) 854 = oIld 7 856 := (lkc_7 (Nat.le_of_ble_eq_true rfl) (Nat.le_of_ble_eq_true rfl)).trans rfl
set_option maxRecDepth 20000 in
theorem lL_law_856 : lk (tL_law b L xs) 856 = oIcv (fun x => .long x.toInt64) 857 := (lkc_7 (Nat.le_of_ble_eq_true rfl) (Nat.le_of_ble_eq_true rfl)).trans rfl
set_option maxRecDepth 20000 in
theorem lL_law_857 : lk (tL_law b L xs) 857 = oLcmp 858 := (lkc_7 (Nat.le_of_ble_eq_true rfl) (Nat.le_of_ble_eq_true rfl)).trans rfl
set_option maxRecDepth 20000 in
theorem lL_law_858 : lk (tL_law b L xs) 858 = oIf (fun x => x = 0) 863 861 := (lkc_7 (Nat.le_of_ble_eq_true rfl) (Nat.le_of_ble_eq_true rfl)).trans rfl
set_option maxRecDepth 20000 in
theorem lL_law_861 : lk (tL_law b L xs) 861 = oPush (.int 0) 862 := (lkc_7 (Nat.le_of_ble_eq_true rfl) (Nat.le_of_ble_eq_true rfl)).trans rfl
set_option maxRecDepth 20000 in
theorem lL_law_862 : lk (tL_law b L xs) 862 = oLret := (lkc_7 (Nat.le_of_ble_eq_true rfl) (Nat.le_of_ble_eq_true rfl)).trans rfl
set_option maxRecDepth 20000 in
theorem lL_law_863 : lk (tL_law b L xs) 863 = oGoto 1656 := (lkc_7 (Nat.le_of_ble_eq_true rfl) (Nat.le_of_ble_eq_true rfl)).trans rfl
set_option maxRecDepth 20000 in
theorem lL_law_866 : lk (tL_law b L xs) 866 = oAld 1 867 := (lkc_7 (Nat.le_of_ble_eq_true rfl) (Nat.le_of_ble_eq_true rfl)).trans rfl
set_option maxRecDepth 20000 in
theorem lL_law_867 : lk (tL_law b L xs) 867 = oAld 0 868 := (lkc_7 (Nat.le_of_ble_eq_true rfl) (Nat.le_of_ble_eq_true rfl)).trans rfl
set_option maxRecDepth 20000 in
theorem lL_law_868 : lk (tL_law b L xs) 868 = oIld 5 870 := (lkc_7 (Nat.le_of_ble_eq_true rfl) (Nat.le_of_ble_eq_true rfl)).trans rfl
set_option maxRecDepth 20000 in
theorem lL_law_870 : lk (tL_law b L xs) 870 = oPush (.int 1) 871 := (lkc_7 (Nat.le_of_ble_eq_true rfl) (Nat.le_of_ble_eq_true rfl)).trans rfl
set_option maxRecDepth 20000 in
theorem lL_law_871 : lk (tL_law b L xs) 871 = oI2 (fun x y => x + y) 872 := (lkc_7 (Nat.le_of_ble_eq_true rfl) (Nat.le_of_ble_eq_true rfl)).trans rfl
set_option maxRecDepth 20000 in
theorem lL_law_872 : lk (tL_law b L xs) 872 = oSld b L xs 873 := (lkc_7 (Nat.le_of_ble_eq_true rfl) (Nat.le_of_ble_eq_true rfl)).trans rfl
set_option maxRecDepth 20000 in
theorem lL_law_873 : lk (tL_law b L xs) 873 = oAld 3 874 := (lkc_7 (Nat.le_of_ble_eq_true rfl) (Nat.le_of_ble_eq_true rfl)).trans rfl
set_option maxRecDepth 20000 in
theorem lL_law_874 : lk (tL_law b L xs) 874 = oCallG 2000 601024 7293034 1 6 yL_depends (Cond.codeWith yL_depends cL_depends 4 (some .int) [(0, 9, 12, 31)]) 3 877 := (lkc_7 (Nat.le_of_ble_eq_true rfl) (Nat.le_of_ble_eq_true rfl)).trans rfl
set_option maxRecDepth 20000 in
theorem lL_law_877 : lk (tL_law b L xs) 877 = oIst 6 879 := (lkc_7 (Nat.le_of_ble_eq_true rfl) (Nat.le_of_ble_eq_true rfl)).trans rfl
set_option maxRecDepth 20000 in
theorem lL_law_879 : lk (tL_law b L xs) 879 = oAld 2 880 := (lkc_7 (Nat.le_of_ble_eq_true rfl) (Nat.le_of_ble_eq_true rfl)).trans rfl
set_option maxRecDepth 20000 in
theorem lL_law_880 : lk (tL_law b L xs) 880 = oAld 0 881 := (lkc_7 (Nat.le_of_ble_eq_true rfl) (Nat.le_of_ble_eq_true rfl)).trans rfl
set_option maxRecDepth 20000 in
theorem lL_law_881 : lk (tL_law b L xs) 881 = oIld 5 883 := (lkc_7 (Nat.le_of_ble_eq_true rfl) (Nat.le_of_ble_eq_true rfl)).trans rfl
set_option maxRecDepth 20000 in
theorem lL_law_883 : lk (tL_law b L xs) 883 = oPush (.int 1) 884 := (lkc_7 (Nat.le_of_ble_eq_true rfl) (Nat.le_of_ble_eq_true rfl)).trans rfl
set_option maxRecDepth 20000 in
theorem lL_law_884 : lk (tL_law b L xs) 884 = oI2 (fun x y => x + y) 885 := (lkc_8 (Nat.le_of_ble_eq_true rfl) (Nat.le_of_ble_eq_true rfl)).trans rfl
set_option maxRecDepth 20000 in
theorem lL_law_885 : lk (tL_law b L xs) 885 = oSld b L xs 886 := (lkc_8 (Nat.le_of_ble_eq_true rfl) (Nat.le_of_ble_eq_true rfl)).trans rfl
set_option maxRecDepth 20000 in
theorem lL_law_886 : lk (tL_law b L xs) 886 = oCallGV 2000 601024 7293034 0 0 yX10_depends (Cond.code yX10_depends cX10_depends 4 (some .int)) 1 10 889 := (lkc_8 (Nat.le_of_ble_eq_true rfl) (Nat.le_of_ble_eq_true rfl)).trans rfl
set_option maxRecDepth 20000 in
theorem lL_law_889 : lk (tL_law b L xs) 889 = oIst 7 891 := (lkc_8 (Nat.le_of_ble_eq_true rfl) (Nat.le_of_ble_eq_true rfl)).trans rfl
set_option maxRecDepth 20000 in
theorem lL_law_891 : lk (tL_law b L xs) 891 = oAld 2 892 := (lkc_8 (Nat.le_of_ble_eq_true rfl) (Nat.le_of_ble_eq_true rfl)).trans rfl
set_option maxRecDepth 20000 in
theorem lL_law_892 : lk (tL_law b L xs) 892 = oCallGV 2000 601024 7293034 0 0 yX10_thrown (Cond.code yX10_thrown cX10_thrown 1 (some .int)) 0 10 895 := (lkc_8 (Nat.le_of_ble_eq_true rfl) (Nat.le_of_ble_eq_true rfl)).trans rfl
set_option maxRecDepth 20000 in
theorem lL_law_895 : lk (tL_law b L xs) 895 = oIld 6 897 := (lkc_8 (Nat.le_of_ble_eq_true rfl) (Nat.le_of_ble_eq_true rfl)).trans rfl
set_option maxRecDepth 20000 in
theorem lL_law_897 : lk (tL_law b L xs) 897 = oIc (fun x y => x = y) 902 900 := (lkc_8 (Nat.le_of_ble_eq_true rfl) (Nat.le_of_ble_eq_true rfl)).trans rfl
set_option maxRecDepth 20000 in
theorem lL_law_900 : lk (tL_law b L xs) 900 = oPush (.int 0) 901 := (lkc_8 (Nat.le_of_ble_eq_true rfl) (Nat.le_of_ble_eq_true rfl)).trans rfl
set_option maxRecDepth 20000 in
theorem lL_law_901 : lk (tL_law b L xs) 901 = oLret := (lkc_8 (Nat.le_of_ble_eq_true rfl) (Nat.le_of_ble_eq_true rfl)).trans rfl
set_option maxRecDepth 20000 in
theorem lL_law_902 : lk (tL_law b L xs) 902 = oIld 6 904 := (lkc_8 (Nat.le_of_ble_eq_true rfl) (Nat.le_of_ble_eq_true rfl)).trans rfl
set_option maxRecDepth 20000 in
theorem lL_law_904 : lk (tL_law b L xs) 904 = oIf (fun x => x = 0) 907 919 := (lkc_8 (Nat.le_of_ble_eq_true rfl) (Nat.le_of_ble_eq_true rfl)).trans rfl
set_option maxRecDepth 20000 in
theorem lL_law_907 : lk (tL_law b L xs) 907 = oAld 3 908 := (lkc_8 (Nat.le_of_ble_eq_true rfl) (Nat.le_of_ble_eq_true rfl)).trans rfl
set_option maxRecDepth 20000 in
theorem lL_law_908 : lk (tL_law b L xs) 908 = oPush (.int 0) 909 := (lkc_8 (Nat.le_of_ble_eq_true rfl) (Nat.le_of_ble_eq_true rfl)).trans rfl
set_option maxRecDepth 20000 in
theorem lL_law_909 : lk (tL_law b L xs) 909 = oAl 910 := (lkc_8 (Nat.le_of_ble_eq_true rfl) (Nat.le_of_ble_eq_true rfl)).trans rfl
set_option maxRecDepth 20000 in
theorem lL_law_910 : lk (tL_law b L xs) 910 = oIld 7 912 := (lkc_8 (Nat.le_of_ble_eq_true rfl) (Nat.le_of_ble_eq_true rfl)).trans rfl
set_option maxRecDepth 20000 in
theorem lL_law_912 : lk (tL_law b L xs) 912 = oIcv (fun x => .long x.toInt64) 913 := (lkc_8 (Nat.le_of_ble_eq_true rfl) (Nat.le_of_ble_eq_true rfl)).trans rfl
set_option maxRecDepth 20000 in
theorem lL_law_913 : lk (tL_law b L xs) 913 = oLcmp 914 := (lkc_8 (Nat.le_of_ble_eq_true rfl) (Nat.le_of_ble_eq_true rfl)).trans rfl
set_option maxRecDepth 20000 in
theorem lL_law_914 : lk (tL_law b L xs) 914 = oIf (fun x => x = 0) 919 917 := (lkc_8 (Nat.le_of_ble_eq_true rfl) (Nat.le_of_ble_eq_true rfl)).trans rfl
set_option maxRecDepth 20000 in
theorem lL_law_917 : lk (tL_law b L xs) 917 = oPush (.int 0) 918 := (lkc_8 (Nat.le_of_ble_eq_true rfl) (Nat.le_of_ble_eq_true rfl)).trans rfl
set_option maxRecDepth 20000 in
theorem lL_law_918 : lk (tL_law b L xs) 918 = oLret := (lkc_8 (Nat.le_of_ble_eq_true rfl) (Nat.le_of_ble_eq_true rfl)).trans rfl
set_option maxRecDepth 20000 in
theorem lL_law_919 : lk (tL_law b L xs) 919 = oGoto 1656 := (lkc_8 (Nat.le_of_ble_eq_true rfl) (Nat.le_of_ble_eq_true rfl)).trans rfl
set_option maxRecDepth 20000 in
theorem lL_law_922 : lk (tL_law b L xs) 922 = oAld 1 923 := (lkc_8 (Nat.le_of_ble_eq_true rfl) (Nat.le_of_ble_eq_true rfl)).trans rfl
set_option maxRecDepth 20000 in
theorem lL_law_923 : lk (tL_law b L xs) 923 = oAld 0 924 := (lkc_8 (Nat.le_of_ble_eq_true rfl) (Nat.le_of_ble_eq_true rfl)).trans rfl
set_option maxRecDepth 20000 in
theorem lL_law_924 : lk (tL_law b L xs) 924 = oIld 5 926 := (lkc_8 (Nat.le_of_ble_eq_true rfl) (Nat.le_of_ble_eq_true rfl)).trans rfl
set_option maxRecDepth 20000 in
theorem lL_law_926 : lk (tL_law b L xs) 926 = oPush (.int 1) 927 := (lkc_8 (Nat.le_of_ble_eq_true rfl) (Nat.le_of_ble_eq_true rfl)).trans rfl
set_option maxRecDepth 20000 in
theorem lL_law_927 : lk (tL_law b L xs) 927 = oI2 (fun x y => x + y) 928 := (lkc_8 (Nat.le_of_ble_eq_true rfl) (Nat.le_of_ble_eq_true rfl)).trans rfl
set_option maxRecDepth 20000 in
theorem lL_law_928 : lk (tL_law b L xs) 928 = oSld b L xs 929 := (lkc_8 (Nat.le_of_ble_eq_true rfl) (Nat.le_of_ble_eq_true rfl)).trans rfl
set_option maxRecDepth 20000 in
theorem lL_law_929 : lk (tL_law b L xs) 929 = oAld 3 930 := (lkc_8 (Nat.le_of_ble_eq_true rfl) (Nat.le_of_ble_eq_true rfl)).trans rfl
set_option maxRecDepth 20000 in
theorem lL_law_930 : lk (tL_law b L xs) 930 = oCallG 2000 601024 7293034 1 6 yL_nodes (Cond.codeWith yL_nodes cL_nodes 4 (some .int) [(0, 9, 12, 31)]) 3 933 := (lkc_8 (Nat.le_of_ble_eq_true rfl) (Nat.le_of_ble_eq_true rfl)).trans rfl
set_option maxRecDepth 20000 in
theorem lL_law_933 : lk (tL_law b L xs) 933 = oIst 6 935 := (lkc_8 (Nat.le_of_ble_eq_true rfl) (Nat.le_of_ble_eq_true rfl)).trans rfl
set_option maxRecDepth 20000 in
theorem lL_law_935 : lk (tL_law b L xs) 935 = oAld 2 936 := (lkc_8 (Nat.le_of_ble_eq_true rfl) (Nat.le_of_ble_eq_true rfl)).trans rfl
set_option maxRecDepth 20000 in
theorem lL_law_936 : lk (tL_law b L xs) 936 = oAld 0 937 := (lkc_8 (Nat.le_of_ble_eq_true rfl) (Nat.le_of_ble_eq_true rfl)).trans rfl
set_option maxRecDepth 20000 in
theorem lL_law_937 : lk (tL_law b L xs) 937 = oIld 5 939 := (lkc_8 (Nat.le_of_ble_eq_true rfl) (Nat.le_of_ble_eq_true rfl)).trans rfl
set_option maxRecDepth 20000 in
theorem lL_law_939 : lk (tL_law b L xs) 939 = oPush (.int 1) 940 := (lkc_8 (Nat.le_of_ble_eq_true rfl) (Nat.le_of_ble_eq_true rfl)).trans rfl
set_option maxRecDepth 20000 in
theorem lL_law_940 : lk (tL_law b L xs) 940 = oI2 (fun x y => x + y) 941 := (lkc_8 (Nat.le_of_ble_eq_true rfl) (Nat.le_of_ble_eq_true rfl)).trans rfl
set_option maxRecDepth 20000 in
theorem lL_law_941 : lk (tL_law b L xs) 941 = oSld b L xs 942 := (lkc_8 (Nat.le_of_ble_eq_true rfl) (Nat.le_of_ble_eq_true rfl)).trans rfl
set_option maxRecDepth 20000 in
theorem lL_law_942 : lk (tL_law b L xs) 942 = oCallGV 2000 601024 7293034 0 0 yX10_nodes (Cond.code yX10_nodes cX10_nodes 2 (some .int)) 1 10 945 := (lkc_8 (Nat.le_of_ble_eq_true rfl) (Nat.le_of_ble_eq_true rfl)).trans rfl
set_option maxRecDepth 20000 in
theorem lL_law_945 : lk (tL_law b L xs) 945 = oIst 7 947 := (lkc_8 (Nat.le_of_ble_eq_true rfl) (Nat.le_of_ble_eq_true rfl)).trans rfl
set_option maxRecDepth 20000 in
theorem lL_law_947 : lk (tL_law b L xs) 947 = oAld 2 948 := (lkc_8 (Nat.le_of_ble_eq_true rfl) (Nat.le_of_ble_eq_true rfl)).trans rfl
set_option maxRecDepth 20000 in
theorem lL_law_948 : lk (tL_law b L xs) 948 = oCallGV 2000 601024 7293034 0 0 yX10_thrown (Cond.code yX10_thrown cX10_thrown 1 (some .int)) 0 10 951 := (lkc_8 (Nat.le_of_ble_eq_true rfl) (Nat.le_of_ble_eq_true rfl)).trans rfl
set_option maxRecDepth 20000 in
theorem lL_law_951 : lk (tL_law b L xs) 951 = oIld 6 953 := (lkc_8 (Nat.le_of_ble_eq_true rfl) (Nat.le_of_ble_eq_true rfl)).trans rfl
set_option maxRecDepth 20000 in
theorem lL_law_953 : lk (tL_law b L xs) 953 = oIc (fun x y => x = y) 958 956 := (lkc_8 (Nat.le_of_ble_eq_true rfl) (Nat.le_of_ble_eq_true rfl)).trans rfl
set_option maxRecDepth 20000 in
theorem lL_law_956 : lk (tL_law b L xs) 956 = oPush (.int 0) 957 := (lkc_8 (Nat.le_of_ble_eq_true rfl) (Nat.le_of_ble_eq_true rfl)).trans rfl
set_option maxRecDepth 20000 in
theorem lL_law_957 : lk (tL_law b L xs) 957 = oLret := (lkc_8 (Nat.le_of_ble_eq_true rfl) (Nat.le_of_ble_eq_true rfl)).trans rfl
set_option maxRecDepth 20000 in
theorem lL_law_958 : lk (tL_law b L xs) 958 = oIld 6 960 := (lkc_8 (Nat.le_of_ble_eq_true rfl) (Nat.le_of_ble_eq_true rfl)).trans rfl
set_option maxRecDepth 20000 in
theorem lL_law_960 : lk (tL_law b L xs) 960 = oIf (fun x => x = 0) 963 975 := (lkc_8 (Nat.le_of_ble_eq_true rfl) (Nat.le_of_ble_eq_true rfl)).trans rfl
set_option maxRecDepth 20000 in
theorem lL_law_963 : lk (tL_law b L xs) 963 = oAld 3 964 := (lkc_8 (Nat.le_of_ble_eq_true rfl) (Nat.le_of_ble_eq_true rfl)).trans rfl
set_option maxRecDepth 20000 in
theorem lL_law_964 : lk (tL_law b L xs) 964 = oPush (.int 0) 965 := (lkc_8 (Nat.le_of_ble_eq_true rfl) (Nat.le_of_ble_eq_true rfl)).trans rfl
set_option maxRecDepth 20000 in
theorem lL_law_965 : lk (tL_law b L xs) 965 = oAl 966 := (lkc_8 (Nat.le_of_ble_eq_true rfl) (Nat.le_of_ble_eq_true rfl)).trans rfl
set_option maxRecDepth 20000 in
theorem lL_law_966 : lk (tL_law b L xs) 966 = oIld 7 968 := (lkc_8 (Nat.le_of_ble_eq_true rfl) (Nat.le_of_ble_eq_true rfl)).trans rfl
set_option maxRecDepth 20000 in
theorem lL_law_968 : lk (tL_law b L xs) 968 = oIcv (fun x => .long x.toInt64) 969 := (lkc_8 (Nat.le_of_ble_eq_true rfl) (Nat.le_of_ble_eq_true rfl)).trans rfl
set_option maxRecDepth 20000 in
theorem lL_law_969 : lk (tL_law b L xs) 969 = oLcmp 970 := (lkc_8 (Nat.le_of_ble_eq_true rfl) (Nat.le_of_ble_eq_true rfl)).trans rfl
set_option maxRecDepth 20000 in
theorem lL_law_970 : lk (tL_law b L xs) 970 = oIf (fun x => x = 0) 975 973 := (lkc_8 (Nat.le_of_ble_eq_true rfl) (Nat.le_of_ble_eq_true rfl)).trans rfl
set_option maxRecDepth 20000 in
theorem lL_law_973 : lk (tL_law b L xs) 973 = oPush (.int 0) 974 := (lkc_8 (Nat.le_of_ble_eq_true rfl) (Nat.le_of_ble_eq_true rfl)).trans rfl
set_option maxRecDepth 20000 in
theorem lL_law_974 : lk (tL_law b L xs) 974 = oLret := (lkc_8 (Nat.le_of_ble_eq_true rfl) (Nat.le_of_ble_eq_true rfl)).trans rfl
set_option maxRecDepth 20000 in
theorem lL_law_975 : lk (tL_law b L xs) 975 = oGoto 1656 := (lkc_8 (Nat.le_of_ble_eq_true rfl) (Nat.le_of_ble_eq_true rfl)).trans rfl
set_option maxRecDepth 20000 in
theorem lL_law_978 : lk (tL_law b L xs) 978 = oAld 1 979 := (lkc_8 (Nat.le_of_ble_eq_true rfl) (Nat.le_of_ble_eq_true rfl)).trans rfl
set_option maxRecDepth 20000 in
theorem lL_law_979 : lk (tL_law b L xs) 979 = oAld 0 980 := (lkc_8 (Nat.le_of_ble_eq_true rfl) (Nat.le_of_ble_eq_true rfl)).trans rfl
set_option maxRecDepth 20000 in
theorem lL_law_980 : lk (tL_law b L xs) 980 = oIld 5 982 := (lkc_8 (Nat.le_of_ble_eq_true rfl) (Nat.le_of_ble_eq_true rfl)).trans rfl
set_option maxRecDepth 20000 in
theorem lL_law_982 : lk (tL_law b L xs) 982 = oPush (.int 1) 983 := (lkc_9 (Nat.le_of_ble_eq_true rfl) (Nat.le_of_ble_eq_true rfl)).trans rfl
set_option maxRecDepth 20000 in
theorem lL_law_983 : lk (tL_law b L xs) 983 = oI2 (fun x y => x + y) 984 := (lkc_9 (Nat.le_of_ble_eq_true rfl) (Nat.le_of_ble_eq_true rfl)).trans rfl
set_option maxRecDepth 20000 in
theorem lL_law_984 : lk (tL_law b L xs) 984 = oSld b L xs 985 := (lkc_9 (Nat.le_of_ble_eq_true rfl) (Nat.le_of_ble_eq_true rfl)).trans rfl
set_option maxRecDepth 20000 in
theorem lL_law_985 : lk (tL_law b L xs) 985 = oAld 3 986 := (lkc_9 (Nat.le_of_ble_eq_true rfl) (Nat.le_of_ble_eq_true rfl)).trans rfl
set_option maxRecDepth 20000 in
theorem lL_law_986 : lk (tL_law b L xs) 986 = oCallG 2000 601024 7293034 1 6 yL_height (Cond.codeWith yL_height cL_height 4 (some .int) [(0, 9, 12, 31)]) 3 989 := (lkc_9 (Nat.le_of_ble_eq_true rfl) (Nat.le_of_ble_eq_true rfl)).trans rfl
set_option maxRecDepth 20000 in
theorem lL_law_989 : lk (tL_law b L xs) 989 = oIst 6 991 := (lkc_9 (Nat.le_of_ble_eq_true rfl) (Nat.le_of_ble_eq_true rfl)).trans rfl
set_option maxRecDepth 20000 in
theorem lL_law_991 : lk (tL_law b L xs) 991 = oAld 2 992 := (lkc_9 (Nat.le_of_ble_eq_true rfl) (Nat.le_of_ble_eq_true rfl)).trans rfl
set_option maxRecDepth 20000 in
theorem lL_law_992 : lk (tL_law b L xs) 992 = oAld 0 993 := (lkc_9 (Nat.le_of_ble_eq_true rfl) (Nat.le_of_ble_eq_true rfl)).trans rfl
set_option maxRecDepth 20000 in
theorem lL_law_993 : lk (tL_law b L xs) 993 = oIld 5 995 := (lkc_9 (Nat.le_of_ble_eq_true rfl) (Nat.le_of_ble_eq_true rfl)).trans rfl
set_option maxRecDepth 20000 in
theorem lL_law_995 : lk (tL_law b L xs) 995 = oPush (.int 1) 996 := (lkc_9 (Nat.le_of_ble_eq_true rfl) (Nat.le_of_ble_eq_true rfl)).trans rfl
set_option maxRecDepth 20000 in
theorem lL_law_996 : lk (tL_law b L xs) 996 = oI2 (fun x y => x + y) 997 := (lkc_9 (Nat.le_of_ble_eq_true rfl) (Nat.le_of_ble_eq_true rfl)).trans rfl
set_option maxRecDepth 20000 in
theorem lL_law_997 : lk (tL_law b L xs) 997 = oSld b L xs 998 := (lkc_9 (Nat.le_of_ble_eq_true rfl) (Nat.le_of_ble_eq_true rfl)).trans rfl
set_option maxRecDepth 20000 in
theorem lL_law_998 : lk (tL_law b L xs) 998 = oCallGV 2000 601024 7293034 0 0 yX10_height (Cond.code yX10_height cX10_height 2 (some .int)) 1 10 1001 := (lkc_9 (Nat.le_of_ble_eq_true rfl) (Nat.le_of_ble_eq_true rfl)).trans rfl
set_option maxRecDepth 20000 in
theorem lL_law_1001 : lk (tL_law b L xs) 1001 = oIst 7 1003 := (lkc_9 (Nat.le_of_ble_eq_true rfl) (Nat.le_of_ble_eq_true rfl)).trans rfl
set_option maxRecDepth 20000 in
theorem lL_law_1003 : lk (tL_law b L xs) 1003 = oAld 2 1004 := (lkc_9 (Nat.le_of_ble_eq_true rfl) (Nat.le_of_ble_eq_true rfl)).trans rfl
set_option maxRecDepth 20000 in
theorem lL_law_1004 : lk (tL_law b L xs) 1004 = oCallGV 2000 601024 7293034 0 0 yX10_thrown (Cond.code yX10_thrown cX10_thrown 1 (some .int)) 0 10 1007 := (lkc_9 (Nat.le_of_ble_eq_true rfl) (Nat.le_of_ble_eq_true rfl)).trans rfl
set_option maxRecDepth 20000 in
theorem lL_law_1007 : lk (tL_law b L xs) 1007 = oIld 6 1009 := (lkc_9 (Nat.le_of_ble_eq_true rfl) (Nat.le_of_ble_eq_true rfl)).trans rfl
set_option maxRecDepth 20000 in
theorem lL_law_1009 : lk (tL_law b L xs) 1009 = oIc (fun x y => x = y) 1014 1012 := (lkc_9 (Nat.le_of_ble_eq_true rfl) (Nat.le_of_ble_eq_true rfl)).trans rfl
set_option maxRecDepth 20000 in
theorem lL_law_1012 : lk (tL_law b L xs) 1012 = oPush (.int 0) 1013 := (lkc_9 (Nat.le_of_ble_eq_true rfl) (Nat.le_of_ble_eq_true rfl)).trans rfl
set_option maxRecDepth 20000 in
theorem lL_law_1013 : lk (tL_law b L xs) 1013 = oLret := (lkc_9 (Nat.le_of_ble_eq_true rfl) (Nat.le_of_ble_eq_true rfl)).trans rfl
set_option maxRecDepth 20000 in
theorem lL_law_1014 : lk (tL_law b L xs) 1014 = oIld 6 1016 := (lkc_9 (Nat.le_of_ble_eq_true rfl) (Nat.le_of_ble_eq_true rfl)).trans rfl
set_option maxRecDepth 20000 in
theorem lL_law_1016 : lk (tL_law b L xs) 1016 = oIf (fun x => x = 0) 1019 1031 := (lkc_9 (Nat.le_of_ble_eq_true rfl) (Nat.le_of_ble_eq_true rfl)).trans rfl
set_option maxRecDepth 20000 in
theorem lL_law_1019 : lk (tL_law b L xs) 1019 = oAld 3 1020 := (lkc_9 (Nat.le_of_ble_eq_true rfl) (Nat.le_of_ble_eq_true rfl)).trans rfl
set_option maxRecDepth 20000 in
theorem lL_law_1020 : lk (tL_law b L xs) 1020 = oPush (.int 0) 1021 := (lkc_9 (Nat.le_of_ble_eq_true rfl) (Nat.le_of_ble_eq_true rfl)).trans rfl
set_option maxRecDepth 20000 in
theorem lL_law_1021 : lk (tL_law b L xs) 1021 = oAl 1022 := (lkc_9 (Nat.le_of_ble_eq_true rfl) (Nat.le_of_ble_eq_true rfl)).trans rfl
set_option maxRecDepth 20000 in
theorem lL_law_1022 : lk (tL_law b L xs) 1022 = oIld 7 1024 := (lkc_9 (Nat.le_of_ble_eq_true rfl) (Nat.le_of_ble_eq_true rfl)).trans rfl
set_option maxRecDepth 20000 in
theorem lL_law_1024 : lk (tL_law b L xs) 1024 = oIcv (fun x => .long x.toInt64) 1025 := (lkc_9 (Nat.le_of_ble_eq_true rfl) (Nat.le_of_ble_eq_true rfl)).trans rfl
set_option maxRecDepth 20000 in
theorem lL_law_1025 : lk (tL_law b L xs) 1025 = oLcmp 1026 := (lkc_9 (Nat.le_of_ble_eq_true rfl) (Nat.le_of_ble_eq_true rfl)).trans rfl
set_option maxRecDepth 20000 in
theorem lL_law_1026 : lk (tL_law b L xs) 1026 = oIf (fun x => x = 0) 1031 1029 := (lkc_9 (Nat.le_of_ble_eq_true rfl) (Nat.le_of_ble_eq_true rfl)).trans rfl
set_option maxRecDepth 20000 in
theorem lL_law_1029 : lk (tL_law b L xs) 1029 = oPush (.int 0) 1030 := (lkc_9 (Nat.le_of_ble_eq_true rfl) (Nat.le_of_ble_eq_true rfl)).trans rfl
set_option maxRecDepth 20000 in
theorem lL_law_1030 : lk (tL_law b L xs) 1030 = oLret := (lkc_9 (Nat.le_of_ble_eq_true rfl) (Nat.le_of_ble_eq_true rfl)).trans rfl
set_option maxRecDepth 20000 in
theorem lL_law_1031 : lk (tL_law b L xs) 1031 = oGoto 1656 := (lkc_9 (Nat.le_of_ble_eq_true rfl) (Nat.le_of_ble_eq_true rfl)).trans rfl
set_option maxRecDepth 20000 in
theorem lL_law_1034 : lk (tL_law b L xs) 1034 = oAld 1 1035 := (lkc_9 (Nat.le_of_ble_eq_true rfl) (Nat.le_of_ble_eq_true rfl)).trans rfl
set_option maxRecDepth 20000 in
theorem lL_law_1035 : lk (tL_law b L xs) 1035 = oAld 0 1036 := (lkc_9 (Nat.le_of_ble_eq_true rfl) (Nat.le_of_ble_eq_true rfl)).trans rfl
set_option maxRecDepth 20000 in
theorem lL_law_1036 : lk (tL_law b L xs) 1036 = oIld 5 1038 := (lkc_9 (Nat.le_of_ble_eq_true rfl) (Nat.le_of_ble_eq_true rfl)).trans rfl
set_option maxRecDepth 20000 in
theorem lL_law_1038 : lk (tL_law b L xs) 1038 = oPush (.int 1) 1039 := (lkc_9 (Nat.le_of_ble_eq_true rfl) (Nat.le_of_ble_eq_true rfl)).trans rfl
set_option maxRecDepth 20000 in
theorem lL_law_1039 : lk (tL_law b L xs) 1039 = oI2 (fun x y => x + y) 1040 := (lkc_9 (Nat.le_of_ble_eq_true rfl) (Nat.le_of_ble_eq_true rfl)).trans rfl
set_option maxRecDepth 20000 in
theorem lL_law_1040 : lk (tL_law b L xs) 1040 = oSld b L xs 1041 := (lkc_9 (Nat.le_of_ble_eq_true rfl) (Nat.le_of_ble_eq_true rfl)).trans rfl
set_option maxRecDepth 20000 in
theorem lL_law_1041 : lk (tL_law b L xs) 1041 = oAld 3 1042 := (lkc_9 (Nat.le_of_ble_eq_true rfl) (Nat.le_of_ble_eq_true rfl)).trans rfl
set_option maxRecDepth 20000 in
theorem lL_law_1042 : lk (tL_law b L xs) 1042 = oCallG 2000 601024 7293034 1 6 yL_open (Cond.codeWith yL_open cL_open 4 (some .int) [(0, 9, 12, 31)]) 3 1045 := (lkc_9 (Nat.le_of_ble_eq_true rfl) (Nat.le_of_ble_eq_true rfl)).trans rfl
set_option maxRecDepth 20000 in
theorem lL_law_1045 : lk (tL_law b L xs) 1045 = oIst 6 1047 := (lkc_9 (Nat.le_of_ble_eq_true rfl) (Nat.le_of_ble_eq_true rfl)).trans rfl
set_option maxRecDepth 20000 in
theorem lL_law_1047 : lk (tL_law b L xs) 1047 = oAld 2 1048 := (lkc_9 (Nat.le_of_ble_eq_true rfl) (Nat.le_of_ble_eq_true rfl)).trans rfl
set_option maxRecDepth 20000 in
theorem lL_law_1048 : lk (tL_law b L xs) 1048 = oAld 0 1049 := (lkc_9 (Nat.le_of_ble_eq_true rfl) (Nat.le_of_ble_eq_true rfl)).trans rfl
set_option maxRecDepth 20000 in
theorem lL_law_1049 : lk (tL_law b L xs) 1049 = oIld 5 1051 := (lkc_9 (Nat.le_of_ble_eq_true rfl) (Nat.le_of_ble_eq_true rfl)).trans rfl
set_option maxRecDepth 20000 in
theorem lL_law_1051 : lk (tL_law b L xs) 1051 = oPush (.int 1) 1052 := (lkc_9 (Nat.le_of_ble_eq_true rfl) (Nat.le_of_ble_eq_true rfl)).trans rfl
set_option maxRecDepth 20000 in
theorem lL_law_1052 : lk (tL_law b L xs) 1052 = oI2 (fun x y => x + y) 1053 := (lkc_9 (Nat.le_of_ble_eq_true rfl) (Nat.le_of_ble_eq_true rfl)).trans rfl
set_option maxRecDepth 20000 in
theorem lL_law_1053 : lk (tL_law b L xs) 1053 = oSld b L xs 1054 := (lkc_9 (Nat.le_of_ble_eq_true rfl) (Nat.le_of_ble_eq_true rfl)).trans rfl
set_option maxRecDepth 20000 in
theorem lL_law_1054 : lk (tL_law b L xs) 1054 = oCallGV 2000 601024 7293034 0 0 yX10_open (Cond.code yX10_open cX10_open 2 (some .int)) 1 10 1057 := (lkc_9 (Nat.le_of_ble_eq_true rfl) (Nat.le_of_ble_eq_true rfl)).trans rfl
set_option maxRecDepth 20000 in
theorem lL_law_1057 : lk (tL_law b L xs) 1057 = oIst 7 1059 := (lkc_9 (Nat.le_of_ble_eq_true rfl) (Nat.le_of_ble_eq_true rfl)).trans rfl
set_option maxRecDepth 20000 in
theorem lL_law_1059 : lk (tL_law b L xs) 1059 = oAld 2 1060 := (lkc_9 (Nat.le_of_ble_eq_true rfl) (Nat.le_of_ble_eq_true rfl)).trans rfl
set_option maxRecDepth 20000 in
theorem lL_law_1060 : lk (tL_law b L xs) 1060 = oCallGV 2000 601024 7293034 0 0 yX10_thrown (Cond.code yX10_thrown cX10_thrown 1 (some .int)) 0 10 1063 := (lkc_9 (Nat.le_of_ble_eq_true rfl) (Nat.le_of_ble_eq_true rfl)).trans rfl
set_option maxRecDepth 20000 in
theorem lL_law_1063 : lk (tL_law b L xs) 1063 = oIld 6 1065 := (lkc_9 (Nat.le_of_ble_eq_true rfl) (Nat.le_of_ble_eq_true rfl)).trans rfl
set_option maxRecDepth 20000 in
theorem lL_law_1065 : lk (tL_law b L xs) 1065 = oIc (fun x y => x = y) 1070 1068 := (lkc_9 (Nat.le_of_ble_eq_true rfl) (Nat.le_of_ble_eq_true rfl)).trans rfl
set_option maxRecDepth 20000 in
theorem lL_law_1068 : lk (tL_law b L xs) 1068 = oPush (.int 0) 1069 := (lkc_9 (Nat.le_of_ble_eq_true rfl) (Nat.le_of_ble_eq_true rfl)).trans rfl
set_option maxRecDepth 20000 in
theorem lL_law_1069 : lk (tL_law b L xs) 1069 = oLret := (lkc_9 (Nat.le_of_ble_eq_true rfl) (Nat.le_of_ble_eq_true rfl)).trans rfl
set_option maxRecDepth 20000 in
theorem lL_law_1070 : lk (tL_law b L xs) 1070 = oIld 6 1072 := (lkc_9 (Nat.le_of_ble_eq_true rfl) (Nat.le_of_ble_eq_true rfl)).trans rfl
set_option maxRecDepth 20000 in
theorem lL_law_1072 : lk (tL_law b L xs) 1072 = oIf (fun x => x = 0) 1075 1087 := (lkc_9 (Nat.le_of_ble_eq_true rfl) (Nat.le_of_ble_eq_true rfl)).trans rfl
set_option maxRecDepth 20000 in
theorem lL_law_1075 : lk (tL_law b L xs) 1075 = oAld 3 1076 := (lkc_9 (Nat.le_of_ble_eq_true rfl) (Nat.le_of_ble_eq_true rfl)).trans rfl
set_option maxRecDepth 20000 in
theorem lL_law_1076 : lk (tL_law b L xs) 1076 = oPush (.int 0) 1077 := (lkc_9 (Nat.le_of_ble_eq_true rfl) (Nat.le_of_ble_eq_true rfl)).trans rfl
set_option maxRecDepth 20000 in
theorem lL_law_1077 : lk (tL_law b L xs) 1077 = oAl 1078 := (lkc_9 (Nat.le_of_ble_eq_true rfl) (Nat.le_of_ble_eq_true rfl)).trans rfl
set_option maxRecDepth 20000 in
theorem lL_law_1078 : lk (tL_law b L xs) 1078 = oIld 7 1080 := (lkc_10 (Nat.le_of_ble_eq_true rfl) (Nat.le_of_ble_eq_true rfl)).trans rfl
set_option maxRecDepth 20000 in
theorem lL_law_1080 : lk (tL_law b L xs) 1080 = oIcv (fun x => .long x.toInt64) 1081 := (lkc_10 (Nat.le_of_ble_eq_true rfl) (Nat.le_of_ble_eq_true rfl)).trans rfl
set_option maxRecDepth 20000 in
theorem lL_law_1081 : lk (tL_law b L xs) 1081 = oLcmp 1082 := (lkc_10 (Nat.le_of_ble_eq_true rfl) (Nat.le_of_ble_eq_true rfl)).trans rfl
set_option maxRecDepth 20000 in
theorem lL_law_1082 : lk (tL_law b L xs) 1082 = oIf (fun x => x = 0) 1087 1085 := (lkc_10 (Nat.le_of_ble_eq_true rfl) (Nat.le_of_ble_eq_true rfl)).trans rfl
set_option maxRecDepth 20000 in
theorem lL_law_1085 : lk (tL_law b L xs) 1085 = oPush (.int 0) 1086 := (lkc_10 (Nat.le_of_ble_eq_true rfl) (Nat.le_of_ble_eq_true rfl)).trans rfl
set_option maxRecDepth 20000 in
theorem lL_law_1086 : lk (tL_law b L xs) 1086 = oLret := (lkc_10 (Nat.le_of_ble_eq_true rfl) (Nat.le_of_ble_eq_true rfl)).trans rfl
set_option maxRecDepth 20000 in
theorem lL_law_1087 : lk (tL_law b L xs) 1087 = oGoto 1656 := (lkc_10 (Nat.le_of_ble_eq_true rfl) (Nat.le_of_ble_eq_true rfl)).trans rfl
set_option maxRecDepth 20000 in
theorem lL_law_1090 : lk (tL_law b L xs) 1090 = oAld 1 1091 := (lkc_10 (Nat.le_of_ble_eq_true rfl) (Nat.le_of_ble_eq_true rfl)).trans rfl
set_option maxRecDepth 20000 in
theorem lL_law_1091 : lk (tL_law b L xs) 1091 = oAld 3 1092 := (lkc_10 (Nat.le_of_ble_eq_true rfl) (Nat.le_of_ble_eq_true rfl)).trans rfl
set_option maxRecDepth 20000 in
theorem lL_law_1092 : lk (tL_law b L xs) 1092 = oCallG 2000 601024 7293034 1 6 yL_hasNext (Cond.codeWith yL_hasNext cL_hasNext 3 (some .int) [(0, 15, 18, 15)]) 2 1095 := (lkc_10 (Nat.le_of_ble_eq_true rfl) (Nat.le_of_ble_eq_true rfl)).trans rfl
set_option maxRecDepth 20000 in
theorem lL_law_1095 : lk (tL_law b L xs) 1095 = oIst 6 1097 := (lkc_10 (Nat.le_of_ble_eq_true rfl) (Nat.le_of_ble_eq_true rfl)).trans rfl
set_option maxRecDepth 20000 in
theorem lL_law_1097 : lk (tL_law b L xs) 1097 = oAld 2 1098 := (lkc_10 (Nat.le_of_ble_eq_true rfl) (Nat.le_of_ble_eq_true rfl)).trans rfl
set_option maxRecDepth 20000 in
theorem lL_law_1098 : lk (tL_law b L xs) 1098 = oCallGV 2000 601024 7293034 0 0 yX10_hasNext (Cond.code yX10_hasNext cX10_hasNext 1 (some .boolean)) 0 10 1101 := (lkc_10 (Nat.le_of_ble_eq_true rfl) (Nat.le_of_ble_eq_true rfl)).trans rfl
set_option maxRecDepth 20000 in
theorem lL_law_1101 : lk (tL_law b L xs) 1101 = oIst 7 1103 := (lkc_10 (Nat.le_of_ble_eq_true rfl) (Nat.le_of_ble_eq_true rfl)).trans rfl
set_option maxRecDepth 20000 in
theorem lL_law_1103 : lk (tL_law b L xs) 1103 = oAld 2 1104 := (lkc_10 (Nat.le_of_ble_eq_true rfl) (Nat.le_of_ble_eq_true rfl)).trans rfl
set_option maxRecDepth 20000 in
theorem lL_law_1104 : lk (tL_law b L xs) 1104 = oCallGV 2000 601024 7293034 0 0 yX10_thrown (Cond.code yX10_thrown cX10_thrown 1 (some .int)) 0 10 1107 := (lkc_10 (Nat.le_of_ble_eq_true rfl) (Nat.le_of_ble_eq_true rfl)).trans rfl
set_option maxRecDepth 20000 in
theorem lL_law_1107 : lk (tL_law b L xs) 1107 = oIld 6 1109 := (lkc_10 (Nat.le_of_ble_eq_true rfl) (Nat.le_of_ble_eq_true rfl)).trans rfl
set_option maxRecDepth 20000 in
theorem lL_law_1109 : lk (tL_law b L xs) 1109 = oIc (fun x y => x = y) 1114 1112 := (lkc_10 (Nat.le_of_ble_eq_true rfl) (Nat.le_of_ble_eq_true rfl)).trans rfl
set_option maxRecDepth 20000 in
theorem lL_law_1112 : lk (tL_law b L xs) 1112 = oPush (.int 0) 1113 := (lkc_10 (Nat.le_of_ble_eq_true rfl) (Nat.le_of_ble_eq_true rfl)).trans rfl
set_option maxRecDepth 20000 in
theorem lL_law_1113 : lk (tL_law b L xs) 1113 = oLret := (lkc_10 (Nat.le_of_ble_eq_true rfl) (Nat.le_of_ble_eq_true rfl)).trans rfl
set_option maxRecDepth 20000 in
theorem lL_law_1114 : lk (tL_law b L xs) 1114 = oIld 6 1116 := (lkc_10 (Nat.le_of_ble_eq_true rfl) (Nat.le_of_ble_eq_true rfl)).trans rfl
set_option maxRecDepth 20000 in
theorem lL_law_1116 : lk (tL_law b L xs) 1116 = oIf (fun x => x = 0) 1119 1138 := (lkc_10 (Nat.le_of_ble_eq_true rfl) (Nat.le_of_ble_eq_true rfl)).trans rfl
set_option maxRecDepth 20000 in
theorem lL_law_1119 : lk (tL_law b L xs) 1119 = oAld 3 1120 := (lkc_10 (Nat.le_of_ble_eq_true rfl) (Nat.le_of_ble_eq_true rfl)).trans rfl
set_option maxRecDepth 20000 in
theorem lL_law_1120 : lk (tL_law b L xs) 1120 = oPush (.int 0) 1121 := (lkc_10 (Nat.le_of_ble_eq_true rfl) (Nat.le_of_ble_eq_true rfl)).trans rfl
set_option maxRecDepth 20000 in
theorem lL_law_1121 : lk (tL_law b L xs) 1121 = oAl 1122 := (lkc_10 (Nat.le_of_ble_eq_true rfl) (Nat.le_of_ble_eq_true rfl)).trans rfl
set_option maxRecDepth 20000 in
theorem lL_law_1122 : lk (tL_law b L xs) 1122 = oIld 7 1124 := (lkc_10 (Nat.le_of_ble_eq_true rfl) (Nat.le_of_ble_eq_true rfl)).trans rfl
set_option maxRecDepth 20000 in
theorem lL_law_1124 : lk (tL_law b L xs) 1124 = oIf (fun x => x = 0) 1131 1127 := (lkc_10 (Nat.le_of_ble_eq_true rfl) (Nat.le_of_ble_eq_true rfl)).trans rfl
set_option maxRecDepth 20000 in
theorem lL_law_1127 : lk (tL_law b L xs) 1127 = oPush (.long 1) 1128 := (lkc_10 (Nat.le_of_ble_eq_true rfl) (Nat.le_of_ble_eq_true rfl)).trans rfl
set_option maxRecDepth 20000 in
theorem lL_law_1128 : lk (tL_law b L xs) 1128 = oGoto 1132 := (lkc_10 (Nat.le_of_ble_eq_true rfl) (Nat.le_of_ble_eq_true rfl)).trans rfl
set_option maxRecDepth 20000 in
theorem lL_law_1131 : lk (tL_law b L xs) 1131 = oPush (.long 0) 1132 := (lkc_10 (Nat.le_of_ble_eq_true rfl) (Nat.le_of_ble_eq_true rfl)).trans rfl
set_option maxRecDepth 20000 in
theorem lL_law_1132 : lk (tL_law b L xs) 1132 = oLcmp 1133 := (lkc_10 (Nat.le_of_ble_eq_true rfl) (Nat.le_of_ble_eq_true rfl)).trans rfl
set_option maxRecDepth 20000 in
theorem lL_law_1133 : lk (tL_law b L xs) 1133 = oIf (fun x => x = 0) 1138 1136 := (lkc_10 (Nat.le_of_ble_eq_true rfl) (Nat.le_of_ble_eq_true rfl)).trans rfl
set_option maxRecDepth 20000 in
theorem lL_law_1136 : lk (tL_law b L xs) 1136 = oPush (.int 0) 1137 := (lkc_10 (Nat.le_of_ble_eq_true rfl) (Nat.le_of_ble_eq_true rfl)).trans rfl
set_option maxRecDepth 20000 in
theorem lL_law_1137 : lk (tL_law b L xs) 1137 = oLret := (lkc_10 (Nat.le_of_ble_eq_true rfl) (Nat.le_of_ble_eq_true rfl)).trans rfl
set_option maxRecDepth 20000 in
theorem lL_law_1138 : lk (tL_law b L xs) 1138 = oGoto 1656 := (lkc_10 (Nat.le_of_ble_eq_true rfl) (Nat.le_of_ble_eq_true rfl)).trans rfl
set_option maxRecDepth 20000 in
theorem lL_law_1141 : lk (tL_law b L xs) 1141 = oAld 1 1142 := (lkc_10 (Nat.le_of_ble_eq_true rfl) (Nat.le_of_ble_eq_true rfl)).trans rfl
set_option maxRecDepth 20000 in
theorem lL_law_1142 : lk (tL_law b L xs) 1142 = oAld 3 1143 := (lkc_10 (Nat.le_of_ble_eq_true rfl) (Nat.le_of_ble_eq_true rfl)).trans rfl
set_option maxRecDepth 20000 in
theorem lL_law_1143 : lk (tL_law b L xs) 1143 = oCallG 2000 601024 7293034 2 12 yL_next (Cond.codeWith yL_next cL_next 3 (some .int) [(0, 8, 11, 15), (0, 8, 14, 73)]) 2 1146 := (lkc_10 (Nat.le_of_ble_eq_true rfl) (Nat.le_of_ble_eq_true rfl)).trans rfl
set_option maxRecDepth 20000 in
theorem lL_law_1146 : lk (tL_law b L xs) 1146 = oIst 6 1148 := (lkc_10 (Nat.le_of_ble_eq_true rfl) (Nat.le_of_ble_eq_true rfl)).trans rfl
set_option maxRecDepth 20000 in
theorem lL_law_1148 : lk (tL_law b L xs) 1148 = oAld 2 1149 := (lkc_10 (Nat.le_of_ble_eq_true rfl) (Nat.le_of_ble_eq_true rfl)).trans rfl
set_option maxRecDepth 20000 in
theorem lL_law_1149 : lk (tL_law b L xs) 1149 = oCallGV 2000 601024 7293034 0 0 yX10_next (Cond.code yX10_next cX10_next 1 (some .int)) 0 10 1152 := (lkc_10 (Nat.le_of_ble_eq_true rfl) (Nat.le_of_ble_eq_true rfl)).trans rfl
set_option maxRecDepth 20000 in
theorem lL_law_1152 : lk (tL_law b L xs) 1152 = oIst 7 1154 := (lkc_10 (Nat.le_of_ble_eq_true rfl) (Nat.le_of_ble_eq_true rfl)).trans rfl
set_option maxRecDepth 20000 in
theorem lL_law_1154 : lk (tL_law b L xs) 1154 = oAld 2 1155 := (lkc_10 (Nat.le_of_ble_eq_true rfl) (Nat.le_of_ble_eq_true rfl)).trans rfl
set_option maxRecDepth 20000 in
theorem lL_law_1155 : lk (tL_law b L xs) 1155 = oCallGV 2000 601024 7293034 0 0 yX10_thrown (Cond.code yX10_thrown cX10_thrown 1 (some .int)) 0 10 1158 := (lkc_10 (Nat.le_of_ble_eq_true rfl) (Nat.le_of_ble_eq_true rfl)).trans rfl
set_option maxRecDepth 20000 in
theorem lL_law_1158 : lk (tL_law b L xs) 1158 = oIld 6 1160 := (lkc_10 (Nat.le_of_ble_eq_true rfl) (Nat.le_of_ble_eq_true rfl)).trans rfl
set_option maxRecDepth 20000 in
theorem lL_law_1160 : lk (tL_law b L xs) 1160 = oIc (fun x y => x = y) 1165 1163 := (lkc_10 (Nat.le_of_ble_eq_true rfl) (Nat.le_of_ble_eq_true rfl)).trans rfl
set_option maxRecDepth 20000 in
theorem lL_law_1163 : lk (tL_law b L xs) 1163 = oPush (.int 0) 1164 := (lkc_10 (Nat.le_of_ble_eq_true rfl) (Nat.le_of_ble_eq_true rfl)).trans rfl
set_option maxRecDepth 20000 in
theorem lL_law_1164 : lk (tL_law b L xs) 1164 = oLret := (lkc_10 (Nat.le_of_ble_eq_true rfl) (Nat.le_of_ble_eq_true rfl)).trans rfl
set_option maxRecDepth 20000 in
theorem lL_law_1165 : lk (tL_law b L xs) 1165 = oIld 6 1167 := (lkc_10 (Nat.le_of_ble_eq_true rfl) (Nat.le_of_ble_eq_true rfl)).trans rfl
set_option maxRecDepth 20000 in
theorem lL_law_1167 : lk (tL_law b L xs) 1167 = oIf (fun x => x = 0) 1170 1182 := (lkc_10 (Nat.le_of_ble_eq_true rfl) (Nat.le_of_ble_eq_true rfl)).trans rfl
set_option maxRecDepth 20000 in
theorem lL_law_1170 : lk (tL_law b L xs) 1170 = oAld 3 1171 := (lkc_10 (Nat.le_of_ble_eq_true rfl) (Nat.le_of_ble_eq_true rfl)).trans rfl
set_option maxRecDepth 20000 in
theorem lL_law_1171 : lk (tL_law b L xs) 1171 = oPush (.int 0) 1172 := (lkc_10 (Nat.le_of_ble_eq_true rfl) (Nat.le_of_ble_eq_true rfl)).trans rfl
set_option maxRecDepth 20000 in
theorem lL_law_1172 : lk (tL_law b L xs) 1172 = oAl 1173 := (lkc_10 (Nat.le_of_ble_eq_true rfl) (Nat.le_of_ble_eq_true rfl)).trans rfl
set_option maxRecDepth 20000 in
theorem lL_law_1173 : lk (tL_law b L xs) 1173 = oIld 7 1175 := (lkc_10 (Nat.le_of_ble_eq_true rfl) (Nat.le_of_ble_eq_true rfl)).trans rfl
set_option maxRecDepth 20000 in
theorem lL_law_1175 : lk (tL_law b L xs) 1175 = oIcv (fun x => .long x.toInt64) 1176 := (lkc_10 (Nat.le_of_ble_eq_true rfl) (Nat.le_of_ble_eq_true rfl)).trans rfl
set_option maxRecDepth 20000 in
theorem lL_law_1176 : lk (tL_law b L xs) 1176 = oLcmp 1177 := (lkc_10 (Nat.le_of_ble_eq_true rfl) (Nat.le_of_ble_eq_true rfl)).trans rfl
set_option maxRecDepth 20000 in
theorem lL_law_1177 : lk (tL_law b L xs) 1177 = oIf (fun x => x = 0) 1182 1180 := (lkc_10 (Nat.le_of_ble_eq_true rfl) (Nat.le_of_ble_eq_true rfl)).trans rfl
set_option maxRecDepth 20000 in
theorem lL_law_1180 : lk (tL_law b L xs) 1180 = oPush (.int 0) 1181 := (lkc_10 (Nat.le_of_ble_eq_true rfl) (Nat.le_of_ble_eq_true rfl)).trans rfl
set_option maxRecDepth 20000 in
theorem lL_law_1181 : lk (tL_law b L xs) 1181 = oLret := (lkc_10 (Nat.le_of_ble_eq_true rfl) (Nat.le_of_ble_eq_true rfl)).trans rfl
set_option maxRecDepth 20000 in
theorem lL_law_1182 : lk (tL_law b L xs) 1182 = oGoto 1656 := (lkc_10 (Nat.le_of_ble_eq_true rfl) (Nat.le_of_ble_eq_true rfl)).trans rfl
set_option maxRecDepth 20000 in
theorem lL_law_1185 : lk (tL_law b L xs) 1185 = oAld 1 1186 := (lkc_11 (Nat.le_of_ble_eq_true rfl) (Nat.le_of_ble_eq_true rfl)).trans rfl
set_option maxRecDepth 20000 in
theorem lL_law_1186 : lk (tL_law b L xs) 1186 = oCallGV 2000 601024 7293034 0 0 yX9_isParallel (Cond.code yX9_isParallel cX9_isParallel 1 (some .boolean)) 0 9 1189 := (lkc_11 (Nat.le_of_ble_eq_true rfl) (Nat.le_of_ble_eq_true rfl)).trans rfl
set_option maxRecDepth 20000 in
theorem lL_law_1189 : lk (tL_law b L xs) 1189 = oAld 2 1190 := (lkc_11 (Nat.le_of_ble_eq_true rfl) (Nat.le_of_ble_eq_true rfl)).trans rfl
set_option maxRecDepth 20000 in
theorem lL_law_1190 : lk (tL_law b L xs) 1190 = oCallGV 2000 601024 7293034 0 0 yX10_isParallel (Cond.code yX10_isParallel cX10_isParallel 1 (some .boolean)) 0 10 1193 := (lkc_11 (Nat.le_of_ble_eq_true rfl) (Nat.le_of_ble_eq_true rfl)).trans rfl
set_option maxRecDepth 20000 in
theorem lL_law_1193 : lk (tL_law b L xs) 1193 = oIc (fun x y => x = y) 1656 1196 := (lkc_11 (Nat.le_of_ble_eq_true rfl) (Nat.le_of_ble_eq_true rfl)).trans rfl
set_option maxRecDepth 20000 in
theorem lL_law_1196 : lk (tL_law b L xs) 1196 = oPush (.int 0) 1197 := (lkc_11 (Nat.le_of_ble_eq_true rfl) (Nat.le_of_ble_eq_true rfl)).trans rfl
set_option maxRecDepth 20000 in
theorem lL_law_1197 : lk (tL_law b L xs) 1197 = oLret := (lkc_11 (Nat.le_of_ble_eq_true rfl) (Nat.le_of_ble_eq_true rfl)).trans rfl
set_option maxRecDepth 20000 in
theorem lL_law_1198 : lk (tL_law b L xs) 1198 = oAld 1 1199 := (lkc_11 (Nat.le_of_ble_eq_true rfl) (Nat.le_of_ble_eq_true rfl)).trans rfl
set_option maxRecDepth 20000 in
theorem lL_law_1199 : lk (tL_law b L xs) 1199 = oAld 0 1200 := (lkc_11 (Nat.le_of_ble_eq_true rfl) (Nat.le_of_ble_eq_true rfl)).trans rfl
set_option maxRecDepth 20000 in
theorem lL_law_1200 : lk (tL_law b L xs) 1200 = oIld 5 1202 := (lkc_11 (Nat.le_of_ble_eq_true rfl) (Nat.le_of_ble_eq_true rfl)).trans rfl
set_option maxRecDepth 20000 in
theorem lL_law_1202 : lk (tL_law b L xs) 1202 = oPush (.int 1) 1203 := (lkc_11 (Nat.le_of_ble_eq_true rfl) (Nat.le_of_ble_eq_true rfl)).trans rfl
set_option maxRecDepth 20000 in
theorem lL_law_1203 : lk (tL_law b L xs) 1203 = oI2 (fun x y => x + y) 1204 := (lkc_11 (Nat.le_of_ble_eq_true rfl) (Nat.le_of_ble_eq_true rfl)).trans rfl
set_option maxRecDepth 20000 in
theorem lL_law_1204 : lk (tL_law b L xs) 1204 = oSld b L xs 1205 := (lkc_11 (Nat.le_of_ble_eq_true rfl) (Nat.le_of_ble_eq_true rfl)).trans rfl
set_option maxRecDepth 20000 in
theorem lL_law_1205 : lk (tL_law b L xs) 1205 = oAld 3 1206 := (lkc_11 (Nat.le_of_ble_eq_true rfl) (Nat.le_of_ble_eq_true rfl)).trans rfl
set_option maxRecDepth 20000 in
theorem lL_law_1206 : lk (tL_law b L xs) 1206 = oCallG 2000 601024 7293034 1 6 yL_isExact (Cond.codeWith yL_isExact cL_isExact 4 (some .int) [(0, 16, 19, 31)]) 3 1209 := (lkc_11 (Nat.le_of_ble_eq_true rfl) (Nat.le_of_ble_eq_true rfl)).trans rfl
set_option maxRecDepth 20000 in
theorem lL_law_1209 : lk (tL_law b L xs) 1209 = oIst 6 1211 := (lkc_11 (Nat.le_of_ble_eq_true rfl) (Nat.le_of_ble_eq_true rfl)).trans rfl
set_option maxRecDepth 20000 in
theorem lL_law_1211 : lk (tL_law b L xs) 1211 = oAld 2 1212 := (lkc_11 (Nat.le_of_ble_eq_true rfl) (Nat.le_of_ble_eq_true rfl)).trans rfl
set_option maxRecDepth 20000 in
theorem lL_law_1212 : lk (tL_law b L xs) 1212 = oAld 0 1213 := (lkc_11 (Nat.le_of_ble_eq_true rfl) (Nat.le_of_ble_eq_true rfl)).trans rfl
set_option maxRecDepth 20000 in
theorem lL_law_1213 : lk (tL_law b L xs) 1213 = oIld 5 1215 := (lkc_11 (Nat.le_of_ble_eq_true rfl) (Nat.le_of_ble_eq_true rfl)).trans rfl
set_option maxRecDepth 20000 in
theorem lL_law_1215 : lk (tL_law b L xs) 1215 = oPush (.int 1) 1216 := (lkc_11 (Nat.le_of_ble_eq_true rfl) (Nat.le_of_ble_eq_true rfl)).trans rfl
set_option maxRecDepth 20000 in
theorem lL_law_1216 : lk (tL_law b L xs) 1216 = oI2 (fun x y => x + y) 1217 := (lkc_11 (Nat.le_of_ble_eq_true rfl) (Nat.le_of_ble_eq_true rfl)).trans rfl
set_option maxRecDepth 20000 in
theorem lL_law_1217 : lk (tL_law b L xs) 1217 = oSld b L xs 1218 := (lkc_11 (Nat.le_of_ble_eq_true rfl) (Nat.le_of_ble_eq_true rfl)).trans rfl
set_option maxRecDepth 20000 in
theorem lL_law_1218 : lk (tL_law b L xs) 1218 = oCallGV 2000 601024 7293034 0 0 yX10_isExact (Cond.code yX10_isExact cX10_isExact 3 (some .boolean)) 1 10 1221 := (lkc_11 (Nat.le_of_ble_eq_true rfl) (Nat.le_of_ble_eq_true rfl)).trans rfl
set_option maxRecDepth 20000 in
theorem lL_law_1221 : lk (tL_law b L xs) 1221 = oIst 7 1223 := (lkc_11 (Nat.le_of_ble_eq_true rfl) (Nat.le_of_ble_eq_true rfl)).trans rfl
set_option maxRecDepth 20000 in
theorem lL_law_1223 : lk (tL_law b L xs) 1223 = oAld 2 1224 := (lkc_11 (Nat.le_of_ble_eq_true rfl) (Nat.le_of_ble_eq_true rfl)).trans rfl
set_option maxRecDepth 20000 in
theorem lL_law_1224 : lk (tL_law b L xs) 1224 = oCallGV 2000 601024 7293034 0 0 yX10_thrown (Cond.code yX10_thrown cX10_thrown 1 (some .int)) 0 10 1227 := (lkc_11 (Nat.le_of_ble_eq_true rfl) (Nat.le_of_ble_eq_true rfl)).trans rfl
set_option maxRecDepth 20000 in
theorem lL_law_1227 : lk (tL_law b L xs) 1227 = oIld 6 1229 := (lkc_11 (Nat.le_of_ble_eq_true rfl) (Nat.le_of_ble_eq_true rfl)).trans rfl
set_option maxRecDepth 20000 in
theorem lL_law_1229 : lk (tL_law b L xs) 1229 = oIc (fun x y => x = y) 1234 1232 := (lkc_11 (Nat.le_of_ble_eq_true rfl) (Nat.le_of_ble_eq_true rfl)).trans rfl
set_option maxRecDepth 20000 in
theorem lL_law_1232 : lk (tL_law b L xs) 1232 = oPush (.int 0) 1233 := (lkc_11 (Nat.le_of_ble_eq_true rfl) (Nat.le_of_ble_eq_true rfl)).trans rfl
set_option maxRecDepth 20000 in
theorem lL_law_1233 : lk (tL_law b L xs) 1233 = oLret := (lkc_11 (Nat.le_of_ble_eq_true rfl) (Nat.le_of_ble_eq_true rfl)).trans rfl
set_option maxRecDepth 20000 in
theorem lL_law_1234 : lk (tL_law b L xs) 1234 = oIld 6 1236 := (lkc_11 (Nat.le_of_ble_eq_true rfl) (Nat.le_of_ble_eq_true rfl)).trans rfl
set_option maxRecDepth 20000 in
theorem lL_law_1236 : lk (tL_law b L xs) 1236 = oIf (fun x => x = 0) 1239 1258 := (lkc_11 (Nat.le_of_ble_eq_true rfl) (Nat.le_of_ble_eq_true rfl)).trans rfl
set_option maxRecDepth 20000 in
theorem lL_law_1239 : lk (tL_law b L xs) 1239 = oAld 3 1240 := (lkc_11 (Nat.le_of_ble_eq_true rfl) (Nat.le_of_ble_eq_true rfl)).trans rfl
set_option maxRecDepth 20000 in
theorem lL_law_1240 : lk (tL_law b L xs) 1240 = oPush (.int 0) 1241 := (lkc_11 (Nat.le_of_ble_eq_true rfl) (Nat.le_of_ble_eq_true rfl)).trans rfl
set_option maxRecDepth 20000 in
theorem lL_law_1241 : lk (tL_law b L xs) 1241 = oAl 1242 := (lkc_11 (Nat.le_of_ble_eq_true rfl) (Nat.le_of_ble_eq_true rfl)).trans rfl
set_option maxRecDepth 20000 in
theorem lL_law_1242 : lk (tL_law b L xs) 1242 = oIld 7 1244 := (lkc_11 (Nat.le_of_ble_eq_true rfl) (Nat.le_of_ble_eq_true rfl)).trans rfl
set_option maxRecDepth 20000 in
theorem lL_law_1244 : lk (tL_law b L xs) 1244 = oIf (fun x => x = 0) 1251 1247 := (lkc_11 (Nat.le_of_ble_eq_true rfl) (Nat.le_of_ble_eq_true rfl)).trans rfl
set_option maxRecDepth 20000 in
theorem lL_law_1247 : lk (tL_law b L xs) 1247 = oPush (.long 1) 1248 := (lkc_11 (Nat.le_of_ble_eq_true rfl) (Nat.le_of_ble_eq_true rfl)).trans rfl
set_option maxRecDepth 20000 in
theorem lL_law_1248 : lk (tL_law b L xs) 1248 = oGoto 1252 := (lkc_11 (Nat.le_of_ble_eq_true rfl) (Nat.le_of_ble_eq_true rfl)).trans rfl
set_option maxRecDepth 20000 in
theorem lL_law_1251 : lk (tL_law b L xs) 1251 = oPush (.long 0) 1252 := (lkc_11 (Nat.le_of_ble_eq_true rfl) (Nat.le_of_ble_eq_true rfl)).trans rfl
set_option maxRecDepth 20000 in
theorem lL_law_1252 : lk (tL_law b L xs) 1252 = oLcmp 1253 := (lkc_11 (Nat.le_of_ble_eq_true rfl) (Nat.le_of_ble_eq_true rfl)).trans rfl
set_option maxRecDepth 20000 in
theorem lL_law_1253 : lk (tL_law b L xs) 1253 = oIf (fun x => x = 0) 1258 1256 := (lkc_11 (Nat.le_of_ble_eq_true rfl) (Nat.le_of_ble_eq_true rfl)).trans rfl
set_option maxRecDepth 20000 in
theorem lL_law_1256 : lk (tL_law b L xs) 1256 = oPush (.int 0) 1257 := (lkc_11 (Nat.le_of_ble_eq_true rfl) (Nat.le_of_ble_eq_true rfl)).trans rfl
set_option maxRecDepth 20000 in
theorem lL_law_1257 : lk (tL_law b L xs) 1257 = oLret := (lkc_11 (Nat.le_of_ble_eq_true rfl) (Nat.le_of_ble_eq_true rfl)).trans rfl
set_option maxRecDepth 20000 in
theorem lL_law_1258 : lk (tL_law b L xs) 1258 = oGoto 1656 := (lkc_11 (Nat.le_of_ble_eq_true rfl) (Nat.le_of_ble_eq_true rfl)).trans rfl
set_option maxRecDepth 20000 in
theorem lL_law_1261 : lk (tL_law b L xs) 1261 = oAld 1 1262 := (lkc_11 (Nat.le_of_ble_eq_true rfl) (Nat.le_of_ble_eq_true rfl)).trans rfl
set_option maxRecDepth 20000 in
theorem lL_law_1262 : lk (tL_law b L xs) 1262 = oAld 0 1263 := (lkc_11 (Nat.le_of_ble_eq_true rfl) (Nat.le_of_ble_eq_true rfl)).trans rfl
set_option maxRecDepth 20000 in
theorem lL_law_1263 : lk (tL_law b L xs) 1263 = oIld 5 1265 := (lkc_11 (Nat.le_of_ble_eq_true rfl) (Nat.le_of_ble_eq_true rfl)).trans rfl
set_option maxRecDepth 20000 in
theorem lL_law_1265 : lk (tL_law b L xs) 1265 = oPush (.int 1) 1266 := (lkc_11 (Nat.le_of_ble_eq_true rfl) (Nat.le_of_ble_eq_true rfl)).trans rfl
set_option maxRecDepth 20000 in
theorem lL_law_1266 : lk (tL_law b L xs) 1266 = oI2 (fun x y => x + y) 1267 := (lkc_11 (Nat.le_of_ble_eq_true rfl) (Nat.le_of_ble_eq_true rfl)).trans rfl
set_option maxRecDepth 20000 in
theorem lL_law_1267 : lk (tL_law b L xs) 1267 = oSld b L xs 1268 := (lkc_11 (Nat.le_of_ble_eq_true rfl) (Nat.le_of_ble_eq_true rfl)).trans rfl
set_option maxRecDepth 20000 in
theorem lL_law_1268 : lk (tL_law b L xs) 1268 = oAld 0 1269 := (lkc_11 (Nat.le_of_ble_eq_true rfl) (Nat.le_of_ble_eq_true rfl)).trans rfl
set_option maxRecDepth 20000 in
theorem lL_law_1269 : lk (tL_law b L xs) 1269 = oIld 5 1271 := (lkc_11 (Nat.le_of_ble_eq_true rfl) (Nat.le_of_ble_eq_true rfl)).trans rfl
set_option maxRecDepth 20000 in
theorem lL_law_1271 : lk (tL_law b L xs) 1271 = oPush (.int 2) 1272 := (lkc_11 (Nat.le_of_ble_eq_true rfl) (Nat.le_of_ble_eq_true rfl)).trans rfl
set_option maxRecDepth 20000 in
theorem lL_law_1272 : lk (tL_law b L xs) 1272 = oI2 (fun x y => x + y) 1273 := (lkc_11 (Nat.le_of_ble_eq_true rfl) (Nat.le_of_ble_eq_true rfl)).trans rfl
set_option maxRecDepth 20000 in
theorem lL_law_1273 : lk (tL_law b L xs) 1273 = oSld b L xs 1274 := (lkc_11 (Nat.le_of_ble_eq_true rfl) (Nat.le_of_ble_eq_true rfl)).trans rfl
set_option maxRecDepth 20000 in
theorem lL_law_1274 : lk (tL_law b L xs) 1274 = oAld 3 1275 := (lkc_11 (Nat.le_of_ble_eq_true rfl) (Nat.le_of_ble_eq_true rfl)).trans rfl
set_option maxRecDepth 20000 in
theorem lL_law_1275 : lk (tL_law b L xs) 1275 = oCallG 2000 601024 7293034 3 18 yL_execute (Cond.codeWith yL_execute cL_execute 5 (some .int) [(0, 10, 13, 13), (0, 10, 17, 49), (0, 10, 21, 15)]) 4 1278 := (lkc_11 (Nat.le_of_ble_eq_true rfl) (Nat.le_of_ble_eq_true rfl)).trans rfl
set_option maxRecDepth 20000 in
theorem lL_law_1278 : lk (tL_law b L xs) 1278 = oIst 6 1280 := (lkc_11 (Nat.le_of_ble_eq_true rfl) (Nat.le_of_ble_eq_true rfl)).trans rfl
set_option maxRecDepth 20000 in
theorem lL_law_1280 : lk (tL_law b L xs) 1280 = oAld 2 1281 := (lkc_11 (Nat.le_of_ble_eq_true rfl) (Nat.le_of_ble_eq_true rfl)).trans rfl
set_option maxRecDepth 20000 in
theorem lL_law_1281 : lk (tL_law b L xs) 1281 = oAld 0 1282 := (lkc_12 (Nat.le_of_ble_eq_true rfl) (Nat.le_of_ble_eq_true rfl)).trans rfl
set_option maxRecDepth 20000 in
theorem lL_law_1282 : lk (tL_law b L xs) 1282 = oIld 5 1284 := (lkc_12 (Nat.le_of_ble_eq_true rfl) (Nat.le_of_ble_eq_true rfl)).trans rfl
set_option maxRecDepth 20000 in
theorem lL_law_1284 : lk (tL_law b L xs) 1284 = oPush (.int 1) 1285 := (lkc_12 (Nat.le_of_ble_eq_true rfl) (Nat.le_of_ble_eq_true rfl)).trans rfl
set_option maxRecDepth 20000 in
theorem lL_law_1285 : lk (tL_law b L xs) 1285 = oI2 (fun x y => x + y) 1286 := (lkc_12 (Nat.le_of_ble_eq_true rfl) (Nat.le_of_ble_eq_true rfl)).trans rfl
set_option maxRecDepth 20000 in
theorem lL_law_1286 : lk (tL_law b L xs) 1286 = oSld b L xs 1287 := (lkc_12 (Nat.le_of_ble_eq_true rfl) (Nat.le_of_ble_eq_true rfl)).trans rfl
set_option maxRecDepth 20000 in
theorem lL_law_1287 : lk (tL_law b L xs) 1287 = oAld 0 1288 := (lkc_12 (Nat.le_of_ble_eq_true rfl) (Nat.le_of_ble_eq_true rfl)).trans rfl
set_option maxRecDepth 20000 in
theorem lL_law_1288 : lk (tL_law b L xs) 1288 = oIld 5 1290 := (lkc_12 (Nat.le_of_ble_eq_true rfl) (Nat.le_of_ble_eq_true rfl)).trans rfl
set_option maxRecDepth 20000 in
theorem lL_law_1290 : lk (tL_law b L xs) 1290 = oPush (.int 2) 1291 := (lkc_12 (Nat.le_of_ble_eq_true rfl) (Nat.le_of_ble_eq_true rfl)).trans rfl
set_option maxRecDepth 20000 in
theorem lL_law_1291 : lk (tL_law b L xs) 1291 = oI2 (fun x y => x + y) 1292 := (lkc_12 (Nat.le_of_ble_eq_true rfl) (Nat.le_of_ble_eq_true rfl)).trans rfl
set_option maxRecDepth 20000 in
theorem lL_law_1292 : lk (tL_law b L xs) 1292 = oSld b L xs 1293 := (lkc_12 (Nat.le_of_ble_eq_true rfl) (Nat.le_of_ble_eq_true rfl)).trans rfl
set_option maxRecDepth 20000 in
theorem lL_law_1293 : lk (tL_law b L xs) 1293 = oCallGV 2000 601024 7293034 0 0 yX10_execute (Cond.code yX10_execute cX10_execute 5 (some .int)) 2 10 1296 := (lkc_12 (Nat.le_of_ble_eq_true rfl) (Nat.le_of_ble_eq_true rfl)).trans rfl
set_option maxRecDepth 20000 in
theorem lL_law_1296 : lk (tL_law b L xs) 1296 = oIst 7 1298 := (lkc_12 (Nat.le_of_ble_eq_true rfl) (Nat.le_of_ble_eq_true rfl)).trans rfl
set_option maxRecDepth 20000 in
theorem lL_law_1298 : lk (tL_law b L xs) 1298 = oAld 2 1299 := (lkc_12 (Nat.le_of_ble_eq_true rfl) (Nat.le_of_ble_eq_true rfl)).trans rfl
set_option maxRecDepth 20000 in
theorem lL_law_1299 : lk (tL_law b L xs) 1299 = oCallGV 2000 601024 7293034 0 0 yX10_thrown (Cond.code yX10_thrown cX10_thrown 1 (some .int)) 0 10 1302 := (lkc_12 (Nat.le_of_ble_eq_true rfl) (Nat.le_of_ble_eq_true rfl)).trans rfl
set_option maxRecDepth 20000 in
theorem lL_law_1302 : lk (tL_law b L xs) 1302 = oIld 6 1304 := (lkc_12 (Nat.le_of_ble_eq_true rfl) (Nat.le_of_ble_eq_true rfl)).trans rfl
set_option maxRecDepth 20000 in
theorem lL_law_1304 : lk (tL_law b L xs) 1304 = oIc (fun x y => x = y) 1309 1307 := (lkc_12 (Nat.le_of_ble_eq_true rfl) (Nat.le_of_ble_eq_true rfl)).trans rfl
set_option maxRecDepth 20000 in
theorem lL_law_1307 : lk (tL_law b L xs) 1307 = oPush (.int 0) 1308 := (lkc_12 (Nat.le_of_ble_eq_true rfl) (Nat.le_of_ble_eq_true rfl)).trans rfl
set_option maxRecDepth 20000 in
theorem lL_law_1308 : lk (tL_law b L xs) 1308 = oLret := (lkc_12 (Nat.le_of_ble_eq_true rfl) (Nat.le_of_ble_eq_true rfl)).trans rfl
set_option maxRecDepth 20000 in
theorem lL_law_1309 : lk (tL_law b L xs) 1309 = oIld 6 1311 := (lkc_12 (Nat.le_of_ble_eq_true rfl) (Nat.le_of_ble_eq_true rfl)).trans rfl
set_option maxRecDepth 20000 in
theorem lL_law_1311 : lk (tL_law b L xs) 1311 = oIf (fun x => x = 0) 1314 1326 := (lkc_12 (Nat.le_of_ble_eq_true rfl) (Nat.le_of_ble_eq_true rfl)).trans rfl
set_option maxRecDepth 20000 in
theorem lL_law_1314 : lk (tL_law b L xs) 1314 = oAld 3 1315 := (lkc_12 (Nat.le_of_ble_eq_true rfl) (Nat.le_of_ble_eq_true rfl)).trans rfl
set_option maxRecDepth 20000 in
theorem lL_law_1315 : lk (tL_law b L xs) 1315 = oPush (.int 0) 1316 := (lkc_12 (Nat.le_of_ble_eq_true rfl) (Nat.le_of_ble_eq_true rfl)).trans rfl
set_option maxRecDepth 20000 in
theorem lL_law_1316 : lk (tL_law b L xs) 1316 = oAl 1317 := (lkc_12 (Nat.le_of_ble_eq_true rfl) (Nat.le_of_ble_eq_true rfl)).trans rfl
set_option maxRecDepth 20000 in
theorem lL_law_1317 : lk (tL_law b L xs) 1317 = oIld 7 1319 := (lkc_12 (Nat.le_of_ble_eq_true rfl) (Nat.le_of_ble_eq_true rfl)).trans rfl
set_option maxRecDepth 20000 in
theorem lL_law_1319 : lk (tL_law b L xs) 1319 = oIcv (fun x => .long x.toInt64) 1320 := (lkc_12 (Nat.le_of_ble_eq_true rfl) (Nat.le_of_ble_eq_true rfl)).trans rfl
set_option maxRecDepth 20000 in
theorem lL_law_1320 : lk (tL_law b L xs) 1320 = oLcmp 1321 := (lkc_12 (Nat.le_of_ble_eq_true rfl) (Nat.le_of_ble_eq_true rfl)).trans rfl
set_option maxRecDepth 20000 in
theorem lL_law_1321 : lk (tL_law b L xs) 1321 = oIf (fun x => x = 0) 1326 1324 := (lkc_12 (Nat.le_of_ble_eq_true rfl) (Nat.le_of_ble_eq_true rfl)).trans rfl
set_option maxRecDepth 20000 in
theorem lL_law_1324 : lk (tL_law b L xs) 1324 = oPush (.int 0) 1325 := (lkc_12 (Nat.le_of_ble_eq_true rfl) (Nat.le_of_ble_eq_true rfl)).trans rfl
set_option maxRecDepth 20000 in
theorem lL_law_1325 : lk (tL_law b L xs) 1325 = oLret := (lkc_12 (Nat.le_of_ble_eq_true rfl) (Nat.le_of_ble_eq_true rfl)).trans rfl
set_option maxRecDepth 20000 in
theorem lL_law_1326 : lk (tL_law b L xs) 1326 = oGoto 1656 := (lkc_12 (Nat.le_of_ble_eq_true rfl) (Nat.le_of_ble_eq_true rfl)).trans rfl
set_option maxRecDepth 20000 in
theorem lL_law_1329 : lk (tL_law b L xs) 1329 = oAld 1 1330 := (lkc_12 (Nat.le_of_ble_eq_true rfl) (Nat.le_of_ble_eq_true rfl)).trans rfl
set_option maxRecDepth 20000 in
theorem lL_law_1330 : lk (tL_law b L xs) 1330 = oAld 0 1331 := (lkc_12 (Nat.le_of_ble_eq_true rfl) (Nat.le_of_ble_eq_true rfl)).trans rfl
set_option maxRecDepth 20000 in
theorem lL_law_1331 : lk (tL_law b L xs) 1331 = oIld 5 1333 := (lkc_12 (Nat.le_of_ble_eq_true rfl) (Nat.le_of_ble_eq_true rfl)).trans rfl
set_option maxRecDepth 20000 in
theorem lL_law_1333 : lk (tL_law b L xs) 1333 = oPush (.int 1) 1334 := (lkc_12 (Nat.le_of_ble_eq_true rfl) (Nat.le_of_ble_eq_true rfl)).trans rfl
set_option maxRecDepth 20000 in
theorem lL_law_1334 : lk (tL_law b L xs) 1334 = oI2 (fun x y => x + y) 1335 := (lkc_12 (Nat.le_of_ble_eq_true rfl) (Nat.le_of_ble_eq_true rfl)).trans rfl
set_option maxRecDepth 20000 in
theorem lL_law_1335 : lk (tL_law b L xs) 1335 = oSld b L xs 1336 := (lkc_12 (Nat.le_of_ble_eq_true rfl) (Nat.le_of_ble_eq_true rfl)).trans rfl
set_option maxRecDepth 20000 in
theorem lL_law_1336 : lk (tL_law b L xs) 1336 = oAld 3 1337 := (lkc_12 (Nat.le_of_ble_eq_true rfl) (Nat.le_of_ble_eq_true rfl)).trans rfl
set_option maxRecDepth 20000 in
theorem lL_law_1337 : lk (tL_law b L xs) 1337 = oCallG 2000 601024 7293034 2 12 yL_result (Cond.codeWith yL_result cL_result 4 (some .int) [(0, 9, 12, 31), (0, 9, 15, 15)]) 3 1340 := (lkc_12 (Nat.le_of_ble_eq_true rfl) (Nat.le_of_ble_eq_true rfl)).trans rfl
set_option maxRecDepth 20000 in
theorem lL_law_1340 : lk (tL_law b L xs) 1340 = oIst 6 1342 := (lkc_12 (Nat.le_of_ble_eq_true rfl) (Nat.le_of_ble_eq_true rfl)).trans rfl
set_option maxRecDepth 20000 in
theorem lL_law_1342 : lk (tL_law b L xs) 1342 = oAld 2 1343 := (lkc_12 (Nat.le_of_ble_eq_true rfl) (Nat.le_of_ble_eq_true rfl)).trans rfl
set_option maxRecDepth 20000 in
theorem lL_law_1343 : lk (tL_law b L xs) 1343 = oAld 0 1344 := (lkc_12 (Nat.le_of_ble_eq_true rfl) (Nat.le_of_ble_eq_true rfl)).trans rfl
set_option maxRecDepth 20000 in
theorem lL_law_1344 : lk (tL_law b L xs) 1344 = oIld 5 1346 := (lkc_12 (Nat.le_of_ble_eq_true rfl) (Nat.le_of_ble_eq_true rfl)).trans rfl
set_option maxRecDepth 20000 in
theorem lL_law_1346 : lk (tL_law b L xs) 1346 = oPush (.int 1) 1347 := (lkc_12 (Nat.le_of_ble_eq_true rfl) (Nat.le_of_ble_eq_true rfl)).trans rfl
set_option maxRecDepth 20000 in
theorem lL_law_1347 : lk (tL_law b L xs) 1347 = oI2 (fun x y => x + y) 1348 := (lkc_12 (Nat.le_of_ble_eq_true rfl) (Nat.le_of_ble_eq_true rfl)).trans rfl
set_option maxRecDepth 20000 in
theorem lL_law_1348 : lk (tL_law b L xs) 1348 = oSld b L xs 1349 := (lkc_12 (Nat.le_of_ble_eq_true rfl) (Nat.le_of_ble_eq_true rfl)).trans rfl
set_option maxRecDepth 20000 in
theorem lL_law_1349 : lk (tL_law b L xs) 1349 = oCallGV 2000 601024 7293034 0 0 yX10_result (Cond.code yX10_result cX10_result 2 (some .int)) 1 10 1352 := (lkc_12 (Nat.le_of_ble_eq_true rfl) (Nat.le_of_ble_eq_true rfl)).trans rfl
set_option maxRecDepth 20000 in
theorem lL_law_1352 : lk (tL_law b L xs) 1352 = oIst 7 1354 := (lkc_12 (Nat.le_of_ble_eq_true rfl) (Nat.le_of_ble_eq_true rfl)).trans rfl
set_option maxRecDepth 20000 in
theorem lL_law_1354 : lk (tL_law b L xs) 1354 = oAld 2 1355 := (lkc_12 (Nat.le_of_ble_eq_true rfl) (Nat.le_of_ble_eq_true rfl)).trans rfl
set_option maxRecDepth 20000 in
theorem lL_law_1355 : lk (tL_law b L xs) 1355 = oCallGV 2000 601024 7293034 0 0 yX10_thrown (Cond.code yX10_thrown cX10_thrown 1 (some .int)) 0 10 1358 := (lkc_12 (Nat.le_of_ble_eq_true rfl) (Nat.le_of_ble_eq_true rfl)).trans rfl
set_option maxRecDepth 20000 in
theorem lL_law_1358 : lk (tL_law b L xs) 1358 = oIld 6 1360 := (lkc_12 (Nat.le_of_ble_eq_true rfl) (Nat.le_of_ble_eq_true rfl)).trans rfl
set_option maxRecDepth 20000 in
theorem lL_law_1360 : lk (tL_law b L xs) 1360 = oIc (fun x y => x = y) 1365 1363 := (lkc_12 (Nat.le_of_ble_eq_true rfl) (Nat.le_of_ble_eq_true rfl)).trans rfl
set_option maxRecDepth 20000 in
theorem lL_law_1363 : lk (tL_law b L xs) 1363 = oPush (.int 0) 1364 := (lkc_12 (Nat.le_of_ble_eq_true rfl) (Nat.le_of_ble_eq_true rfl)).trans rfl
set_option maxRecDepth 20000 in
theorem lL_law_1364 : lk (tL_law b L xs) 1364 = oLret := (lkc_12 (Nat.le_of_ble_eq_true rfl) (Nat.le_of_ble_eq_true rfl)).trans rfl
set_option maxRecDepth 20000 in
theorem lL_law_1365 : lk (tL_law b L xs) 1365 = oIld 6 1367 := (lkc_12 (Nat.le_of_ble_eq_true rfl) (Nat.le_of_ble_eq_true rfl)).trans rfl
set_option maxRecDepth 20000 in
theorem lL_law_1367 : lk (tL_law b L xs) 1367 = oIf (fun x => x = 0) 1370 1382 := (lkc_12 (Nat.le_of_ble_eq_true rfl) (Nat.le_of_ble_eq_true rfl)).trans rfl
set_option maxRecDepth 20000 in
theorem lL_law_1370 : lk (tL_law b L xs) 1370 = oAld 3 1371 := (lkc_12 (Nat.le_of_ble_eq_true rfl) (Nat.le_of_ble_eq_true rfl)).trans rfl
set_option maxRecDepth 20000 in
theorem lL_law_1371 : lk (tL_law b L xs) 1371 = oPush (.int 0) 1372 := (lkc_12 (Nat.le_of_ble_eq_true rfl) (Nat.le_of_ble_eq_true rfl)).trans rfl
set_option maxRecDepth 20000 in
theorem lL_law_1372 : lk (tL_law b L xs) 1372 = oAl 1373 := (lkc_12 (Nat.le_of_ble_eq_true rfl) (Nat.le_of_ble_eq_true rfl)).trans rfl
set_option maxRecDepth 20000 in
theorem lL_law_1373 : lk (tL_law b L xs) 1373 = oIld 7 1375 := (lkc_12 (Nat.le_of_ble_eq_true rfl) (Nat.le_of_ble_eq_true rfl)).trans rfl
set_option maxRecDepth 20000 in
theorem lL_law_1375 : lk (tL_law b L xs) 1375 = oIcv (fun x => .long x.toInt64) 1376 := (lkc_12 (Nat.le_of_ble_eq_true rfl) (Nat.le_of_ble_eq_true rfl)).trans rfl
set_option maxRecDepth 20000 in
theorem lL_law_1376 : lk (tL_law b L xs) 1376 = oLcmp 1377 := (lkc_13 (Nat.le_of_ble_eq_true rfl) (Nat.le_of_ble_eq_true rfl)).trans rfl
set_option maxRecDepth 20000 in
theorem lL_law_1377 : lk (tL_law b L xs) 1377 = oIf (fun x => x = 0) 1382 1380 := (lkc_13 (Nat.le_of_ble_eq_true rfl) (Nat.le_of_ble_eq_true rfl)).trans rfl
set_option maxRecDepth 20000 in
theorem lL_law_1380 : lk (tL_law b L xs) 1380 = oPush (.int 0) 1381 := (lkc_13 (Nat.le_of_ble_eq_true rfl) (Nat.le_of_ble_eq_true rfl)).trans rfl
set_option maxRecDepth 20000 in
theorem lL_law_1381 : lk (tL_law b L xs) 1381 = oLret := (lkc_13 (Nat.le_of_ble_eq_true rfl) (Nat.le_of_ble_eq_true rfl)).trans rfl
set_option maxRecDepth 20000 in
theorem lL_law_1382 : lk (tL_law b L xs) 1382 = oGoto 1656 := (lkc_13 (Nat.le_of_ble_eq_true rfl) (Nat.le_of_ble_eq_true rfl)).trans rfl
set_option maxRecDepth 20000 in
theorem lL_law_1385 : lk (tL_law b L xs) 1385 = oAld 1 1386 := (lkc_13 (Nat.le_of_ble_eq_true rfl) (Nat.le_of_ble_eq_true rfl)).trans rfl
set_option maxRecDepth 20000 in
theorem lL_law_1386 : lk (tL_law b L xs) 1386 = oAld 0 1387 := (lkc_13 (Nat.le_of_ble_eq_true rfl) (Nat.le_of_ble_eq_true rfl)).trans rfl
set_option maxRecDepth 20000 in
theorem lL_law_1387 : lk (tL_law b L xs) 1387 = oIld 5 1389 := (lkc_13 (Nat.le_of_ble_eq_true rfl) (Nat.le_of_ble_eq_true rfl)).trans rfl
set_option maxRecDepth 20000 in
theorem lL_law_1389 : lk (tL_law b L xs) 1389 = oPush (.int 1) 1390 := (lkc_13 (Nat.le_of_ble_eq_true rfl) (Nat.le_of_ble_eq_true rfl)).trans rfl
set_option maxRecDepth 20000 in
theorem lL_law_1390 : lk (tL_law b L xs) 1390 = oI2 (fun x y => x + y) 1391 := (lkc_13 (Nat.le_of_ble_eq_true rfl) (Nat.le_of_ble_eq_true rfl)).trans rfl
set_option maxRecDepth 20000 in
theorem lL_law_1391 : lk (tL_law b L xs) 1391 = oSld b L xs 1392 := (lkc_13 (Nat.le_of_ble_eq_true rfl) (Nat.le_of_ble_eq_true rfl)).trans rfl
set_option maxRecDepth 20000 in
theorem lL_law_1392 : lk (tL_law b L xs) 1392 = oAld 4 1394 := (lkc_13 (Nat.le_of_ble_eq_true rfl) (Nat.le_of_ble_eq_true rfl)).trans rfl
set_option maxRecDepth 20000 in
theorem lL_law_1394 : lk (tL_law b L xs) 1394 = oCallG 2000 601024 7293034 2 12 yL_resultFloat (Cond.codeWith yL_resultFloat cL_resultFloat 4 (some .int) [(0, 9, 12, 31), (0, 9, 15, 15)]) 3 1397 := (lkc_13 (Nat.le_of_ble_eq_true rfl) (Nat.le_of_ble_eq_true rfl)).trans rfl
set_option maxRecDepth 20000 in
theorem lL_law_1397 : lk (tL_law b L xs) 1397 = oIst 6 1399 := (lkc_13 (Nat.le_of_ble_eq_true rfl) (Nat.le_of_ble_eq_true rfl)).trans rfl
set_option maxRecDepth 20000 in
theorem lL_law_1399 : lk (tL_law b L xs) 1399 = oAld 2 1400 := (lkc_13 (Nat.le_of_ble_eq_true rfl) (Nat.le_of_ble_eq_true rfl)).trans rfl
set_option maxRecDepth 20000 in
theorem lL_law_1400 : lk (tL_law b L xs) 1400 = oAld 0 1401 := (lkc_13 (Nat.le_of_ble_eq_true rfl) (Nat.le_of_ble_eq_true rfl)).trans rfl
set_option maxRecDepth 20000 in
theorem lL_law_1401 : lk (tL_law b L xs) 1401 = oIld 5 1403 := (lkc_13 (Nat.le_of_ble_eq_true rfl) (Nat.le_of_ble_eq_true rfl)).trans rfl
set_option maxRecDepth 20000 in
theorem lL_law_1403 : lk (tL_law b L xs) 1403 = oPush (.int 1) 1404 := (lkc_13 (Nat.le_of_ble_eq_true rfl) (Nat.le_of_ble_eq_true rfl)).trans rfl
set_option maxRecDepth 20000 in
theorem lL_law_1404 : lk (tL_law b L xs) 1404 = oI2 (fun x y => x + y) 1405 := (lkc_13 (Nat.le_of_ble_eq_true rfl) (Nat.le_of_ble_eq_true rfl)).trans rfl
set_option maxRecDepth 20000 in
theorem lL_law_1405 : lk (tL_law b L xs) 1405 = oSld b L xs 1406 := (lkc_13 (Nat.le_of_ble_eq_true rfl) (Nat.le_of_ble_eq_true rfl)).trans rfl
set_option maxRecDepth 20000 in
theorem lL_law_1406 : lk (tL_law b L xs) 1406 = oCallGV 2000 601024 7293034 0 0 yX10_resultFloat (Cond.code yX10_resultFloat cX10_resultFloat 2 (some .float)) 1 10 1409 := (lkc_13 (Nat.le_of_ble_eq_true rfl) (Nat.le_of_ble_eq_true rfl)).trans rfl
set_option maxRecDepth 20000 in
theorem lL_law_1409 : lk (tL_law b L xs) 1409 = oFst 7 1411 := (lkc_13 (Nat.le_of_ble_eq_true rfl) (Nat.le_of_ble_eq_true rfl)).trans rfl
set_option maxRecDepth 20000 in
theorem lL_law_1411 : lk (tL_law b L xs) 1411 = oAld 2 1412 := (lkc_13 (Nat.le_of_ble_eq_true rfl) (Nat.le_of_ble_eq_true rfl)).trans rfl
set_option maxRecDepth 20000 in
theorem lL_law_1412 : lk (tL_law b L xs) 1412 = oCallGV 2000 601024 7293034 0 0 yX10_thrown (Cond.code yX10_thrown cX10_thrown 1 (some .int)) 0 10 1415 := (lkc_13 (Nat.le_of_ble_eq_true rfl) (Nat.le_of_ble_eq_true rfl)).trans rfl
set_option maxRecDepth 20000 in
theorem lL_law_1415 : lk (tL_law b L xs) 1415 = oIld 6 1417 := (lkc_13 (Nat.le_of_ble_eq_true rfl) (Nat.le_of_ble_eq_true rfl)).trans rfl
set_option maxRecDepth 20000 in
theorem lL_law_1417 : lk (tL_law b L xs) 1417 = oIc (fun x y => x = y) 1422 1420 := (lkc_13 (Nat.le_of_ble_eq_true rfl) (Nat.le_of_ble_eq_true rfl)).trans rfl
set_option maxRecDepth 20000 in
theorem lL_law_1420 : lk (tL_law b L xs) 1420 = oPush (.int 0) 1421 := (lkc_13 (Nat.le_of_ble_eq_true rfl) (Nat.le_of_ble_eq_true rfl)).trans rfl
set_option maxRecDepth 20000 in
theorem lL_law_1421 : lk (tL_law b L xs) 1421 = oLret := (lkc_13 (Nat.le_of_ble_eq_true rfl) (Nat.le_of_ble_eq_true rfl)).trans rfl
set_option maxRecDepth 20000 in
theorem lL_law_1422 : lk (tL_law b L xs) 1422 = oIld 6 1424 := (lkc_13 (Nat.le_of_ble_eq_true rfl) (Nat.le_of_ble_eq_true rfl)).trans rfl
set_option maxRecDepth 20000 in
theorem lL_law_1424 : lk (tL_law b L xs) 1424 = oIf (fun x => x = 0) 1427 1460 := (lkc_13 (Nat.le_of_ble_eq_true rfl) (Nat.le_of_ble_eq_true rfl)).trans rfl
set_option maxRecDepth 20000 in
theorem lL_law_1427 : lk (tL_law b L xs) 1427 = oAld 4 1429 := (lkc_13 (Nat.le_of_ble_eq_true rfl) (Nat.le_of_ble_eq_true rfl)).trans rfl
set_option maxRecDepth 20000 in
theorem lL_law_1429 : lk (tL_law b L xs) 1429 = oPush (.int 0) 1430 := (lkc_13 (Nat.le_of_ble_eq_true rfl) (Nat.le_of_ble_eq_true rfl)).trans rfl
set_option maxRecDepth 20000 in
theorem lL_law_1430 : lk (tL_law b L xs) 1430 = oAd 1431 := (lkc_13 (Nat.le_of_ble_eq_true rfl) (Nat.le_of_ble_eq_true rfl)).trans rfl
set_option maxRecDepth 20000 in
theorem lL_law_1431 : lk (tL_law b L xs) 1431 = oFld 7 1433 := (lkc_13 (Nat.le_of_ble_eq_true rfl) (Nat.le_of_ble_eq_true rfl)).trans rfl
set_option maxRecDepth 20000 in
theorem lL_law_1433 : lk (tL_law b L xs) 1433 = oF2d 1434 := (lkc_13 (Nat.le_of_ble_eq_true rfl) (Nat.le_of_ble_eq_true rfl)).trans rfl
set_option maxRecDepth 20000 in
theorem lL_law_1434 : lk (tL_law b L xs) 1434 = oDcmp .l 1435 := (lkc_13 (Nat.le_of_ble_eq_true rfl) (Nat.le_of_ble_eq_true rfl)).trans rfl
set_option maxRecDepth 20000 in
theorem lL_law_1435 : lk (tL_law b L xs) 1435 = oIf (fun x => x = 0) 1460 1438 := (lkc_13 (Nat.le_of_ble_eq_true rfl) (Nat.le_of_ble_eq_true rfl)).trans rfl
set_option maxRecDepth 20000 in
theorem lL_law_1438 : lk (tL_law b L xs) 1438 = oAld 4 1440 := (lkc_13 (Nat.le_of_ble_eq_true rfl) (Nat.le_of_ble_eq_true rfl)).trans rfl
set_option maxRecDepth 20000 in
theorem lL_law_1440 : lk (tL_law b L xs) 1440 = oPush (.int 0) 1441 := (lkc_13 (Nat.le_of_ble_eq_true rfl) (Nat.le_of_ble_eq_true rfl)).trans rfl
set_option maxRecDepth 20000 in
theorem lL_law_1441 : lk (tL_law b L xs) 1441 = oAd 1442 := (lkc_13 (Nat.le_of_ble_eq_true rfl) (Nat.le_of_ble_eq_true rfl)).trans rfl
set_option maxRecDepth 20000 in
theorem lL_law_1442 : lk (tL_law b L xs) 1442 = oAld 4 1444 := (lkc_13 (Nat.le_of_ble_eq_true rfl) (Nat.le_of_ble_eq_true rfl)).trans rfl
set_option maxRecDepth 20000 in
theorem lL_law_1444 : lk (tL_law b L xs) 1444 = oPush (.int 0) 1445 := (lkc_13 (Nat.le_of_ble_eq_true rfl) (Nat.le_of_ble_eq_true rfl)).trans rfl
set_option maxRecDepth 20000 in
theorem lL_law_1445 : lk (tL_law b L xs) 1445 = oAd 1446 := (lkc_13 (Nat.le_of_ble_eq_true rfl) (Nat.le_of_ble_eq_true rfl)).trans rfl
set_option maxRecDepth 20000 in
theorem lL_law_1446 : lk (tL_law b L xs) 1446 = oDcmp .l 1447 := (lkc_13 (Nat.le_of_ble_eq_true rfl) (Nat.le_of_ble_eq_true rfl)).trans rfl
set_option maxRecDepth 20000 in
theorem lL_law_1447 : lk (tL_law b L xs) 1447 = oIf (fun x => x = 0) 1458 1450 := (lkc_13 (Nat.le_of_ble_eq_true rfl) (Nat.le_of_ble_eq_true rfl)).trans rfl
set_option maxRecDepth 20000 in
theorem lL_law_1450 : lk (tL_law b L xs) 1450 = oFld 7 1452 := (lkc_13 (Nat.le_of_ble_eq_true rfl) (Nat.le_of_ble_eq_true rfl)).trans rfl
set_option maxRecDepth 20000 in
theorem lL_law_1452 : lk (tL_law b L xs) 1452 = oFld 7 1454 := (lkc_13 (Nat.le_of_ble_eq_true rfl) (Nat.le_of_ble_eq_true rfl)).trans rfl
set_option maxRecDepth 20000 in
theorem lL_law_1454 : lk (tL_law b L xs) 1454 = oFcmp .l 1455 := (lkc_13 (Nat.le_of_ble_eq_true rfl) (Nat.le_of_ble_eq_true rfl)).trans rfl
set_option maxRecDepth 20000 in
theorem lL_law_1455 : lk (tL_law b L xs) 1455 = oIf (fun x => x = 0) 1458 1460 := (lkc_13 (Nat.le_of_ble_eq_true rfl) (Nat.le_of_ble_eq_true rfl)).trans rfl
set_option maxRecDepth 20000 in
theorem lL_law_1458 : lk (tL_law b L xs) 1458 = oPush (.int 0) 1459 := (lkc_13 (Nat.le_of_ble_eq_true rfl) (Nat.le_of_ble_eq_true rfl)).trans rfl
set_option maxRecDepth 20000 in
theorem lL_law_1459 : lk (tL_law b L xs) 1459 = oLret := (lkc_13 (Nat.le_of_ble_eq_true rfl) (Nat.le_of_ble_eq_true rfl)).trans rfl
set_option maxRecDepth 20000 in
theorem lL_law_1460 : lk (tL_law b L xs) 1460 = oGoto 1656 := (lkc_13 (Nat.le_of_ble_eq_true rfl) (Nat.le_of_ble_eq_true rfl)).trans rfl
set_option maxRecDepth 20000 in
theorem lL_law_1463 : lk (tL_law b L xs) 1463 = oAld 1 1464 := (lkc_13 (Nat.le_of_ble_eq_true rfl) (Nat.le_of_ble_eq_true rfl)).trans rfl
set_option maxRecDepth 20000 in
theorem lL_law_1464 : lk (tL_law b L xs) 1464 = oAld 0 1465 := (lkc_13 (Nat.le_of_ble_eq_true rfl) (Nat.le_of_ble_eq_true rfl)).trans rfl
set_option maxRecDepth 20000 in
theorem lL_law_1465 : lk (tL_law b L xs) 1465 = oIld 5 1467 := (lkc_13 (Nat.le_of_ble_eq_true rfl) (Nat.le_of_ble_eq_true rfl)).trans rfl
set_option maxRecDepth 20000 in
theorem lL_law_1467 : lk (tL_law b L xs) 1467 = oPush (.int 1) 1468 := (lkc_13 (Nat.le_of_ble_eq_true rfl) (Nat.le_of_ble_eq_true rfl)).trans rfl
set_option maxRecDepth 20000 in
theorem lL_law_1468 : lk (tL_law b L xs) 1468 = oI2 (fun x y => x + y) 1469 := (lkc_13 (Nat.le_of_ble_eq_true rfl) (Nat.le_of_ble_eq_true rfl)).trans rfl
set_option maxRecDepth 20000 in
theorem lL_law_1469 : lk (tL_law b L xs) 1469 = oSld b L xs 1470 := (lkc_13 (Nat.le_of_ble_eq_true rfl) (Nat.le_of_ble_eq_true rfl)).trans rfl
set_option maxRecDepth 20000 in
theorem lL_law_1470 : lk (tL_law b L xs) 1470 = oAld 4 1472 := (lkc_13 (Nat.le_of_ble_eq_true rfl) (Nat.le_of_ble_eq_true rfl)).trans rfl
set_option maxRecDepth 20000 in
theorem lL_law_1472 : lk (tL_law b L xs) 1472 = oCallG 2000 601024 7293034 3 18 yL_difference (Cond.codeWith yL_difference cL_difference 4 (some .int) [(0, 8, 11, 31), (0, 8, 14, 15), (0, 8, 17, 49)]) 3 1475 := (lkc_13 (Nat.le_of_ble_eq_true rfl) (Nat.le_of_ble_eq_true rfl)).trans rfl
set_option maxRecDepth 20000 in
theorem lL_law_1475 : lk (tL_law b L xs) 1475 = oIst 6 1477 := (lkc_14 (Nat.le_of_ble_eq_true rfl) (Nat.le_of_ble_eq_true rfl)).trans rfl
set_option maxRecDepth 20000 in
theorem lL_law_1477 : lk (tL_law b L xs) 1477 = oAld 2 1478 := (lkc_14 (Nat.le_of_ble_eq_true rfl) (Nat.le_of_ble_eq_true rfl)).trans rfl
set_option maxRecDepth 20000 in
theorem lL_law_1478 : lk (tL_law b L xs) 1478 = oAld 0 1479 := (lkc_14 (Nat.le_of_ble_eq_true rfl) (Nat.le_of_ble_eq_true rfl)).trans rfl
set_option maxRecDepth 20000 in
theorem lL_law_1479 : lk (tL_law b L xs) 1479 = oIld 5 1481 := (lkc_14 (Nat.le_of_ble_eq_true rfl) (Nat.le_of_ble_eq_true rfl)).trans rfl
set_option maxRecDepth 20000 in
theorem lL_law_1481 : lk (tL_law b L xs) 1481 = oPush (.int 1) 1482 := (lkc_14 (Nat.le_of_ble_eq_true rfl) (Nat.le_of_ble_eq_true rfl)).trans rfl
set_option maxRecDepth 20000 in
theorem lL_law_1482 : lk (tL_law b L xs) 1482 = oI2 (fun x y => x + y) 1483 := (lkc_14 (Nat.le_of_ble_eq_true rfl) (Nat.le_of_ble_eq_true rfl)).trans rfl
set_option maxRecDepth 20000 in
theorem lL_law_1483 : lk (tL_law b L xs) 1483 = oSld b L xs 1484 := (lkc_14 (Nat.le_of_ble_eq_true rfl) (Nat.le_of_ble_eq_true rfl)).trans rfl
set_option maxRecDepth 20000 in
theorem lL_law_1484 : lk (tL_law b L xs) 1484 = oCallGV 2000 601024 7293034 0 0 yX10_difference (Cond.code yX10_difference cX10_difference 6 (some .double)) 1 10 1487 := (lkc_14 (Nat.le_of_ble_eq_true rfl) (Nat.le_of_ble_eq_true rfl)).trans rfl
set_option maxRecDepth 20000 in
theorem lL_law_1487 : lk (tL_law b L xs) 1487 = oDst 7 1489 := (lkc_14 (Nat.le_of_ble_eq_true rfl) (Nat.le_of_ble_eq_true rfl)).trans rfl
set_option maxRecDepth 20000 in
theorem lL_law_1489 : lk (tL_law b L xs) 1489 = oAld 2 1490 := (lkc_14 (Nat.le_of_ble_eq_true rfl) (Nat.le_of_ble_eq_true rfl)).trans rfl
set_option maxRecDepth 20000 in
theorem lL_law_1490 : lk (tL_law b L xs) 1490 = oCallGV 2000 601024 7293034 0 0 yX10_thrown (Cond.code yX10_thrown cX10_thrown 1 (some .int)) 0 10 1493 := (lkc_14 (Nat.le_of_ble_eq_true rfl) (Nat.le_of_ble_eq_true rfl)).trans rfl
set_option maxRecDepth 20000 in
theorem lL_law_1493 : lk (tL_law b L xs) 1493 = oIld 6 1495 := (lkc_14 (Nat.le_of_ble_eq_true rfl) (Nat.le_of_ble_eq_true rfl)).trans rfl
set_option maxRecDepth 20000 in
theorem lL_law_1495 : lk (tL_law b L xs) 1495 = oIc (fun x y => x = y) 1500 1498 := (lkc_14 (Nat.le_of_ble_eq_true rfl) (Nat.le_of_ble_eq_true rfl)).trans rfl
set_option maxRecDepth 20000 in
theorem lL_law_1498 : lk (tL_law b L xs) 1498 = oPush (.int 0) 1499 := (lkc_14 (Nat.le_of_ble_eq_true rfl) (Nat.le_of_ble_eq_true rfl)).trans rfl
set_option maxRecDepth 20000 in
theorem lL_law_1499 : lk (tL_law b L xs) 1499 = oLret := (lkc_14 (Nat.le_of_ble_eq_true rfl) (Nat.le_of_ble_eq_true rfl)).trans rfl
set_option maxRecDepth 20000 in
theorem lL_law_1500 : lk (tL_law b L xs) 1500 = oIld 6 1502 := (lkc_14 (Nat.le_of_ble_eq_true rfl) (Nat.le_of_ble_eq_true rfl)).trans rfl
set_option maxRecDepth 20000 in
theorem lL_law_1502 : lk (tL_law b L xs) 1502 = oIf (fun x => x = 0) 1505 1537 := (lkc_14 (Nat.le_of_ble_eq_true rfl) (Nat.le_of_ble_eq_true rfl)).trans rfl
set_option maxRecDepth 20000 in
theorem lL_law_1505 : lk (tL_law b L xs) 1505 = oAld 4 1507 := (lkc_14 (Nat.le_of_ble_eq_true rfl) (Nat.le_of_ble_eq_true rfl)).trans rfl
set_option maxRecDepth 20000 in
theorem lL_law_1507 : lk (tL_law b L xs) 1507 = oPush (.int 0) 1508 := (lkc_14 (Nat.le_of_ble_eq_true rfl) (Nat.le_of_ble_eq_true rfl)).trans rfl
set_option maxRecDepth 20000 in
theorem lL_law_1508 : lk (tL_law b L xs) 1508 = oAd 1509 := (lkc_14 (Nat.le_of_ble_eq_true rfl) (Nat.le_of_ble_eq_true rfl)).trans rfl
set_option maxRecDepth 20000 in
theorem lL_law_1509 : lk (tL_law b L xs) 1509 = oDld 7 1511 := (lkc_14 (Nat.le_of_ble_eq_true rfl) (Nat.le_of_ble_eq_true rfl)).trans rfl
set_option maxRecDepth 20000 in
theorem lL_law_1511 : lk (tL_law b L xs) 1511 = oDcmp .l 1512 := (lkc_14 (Nat.le_of_ble_eq_true rfl) (Nat.le_of_ble_eq_true rfl)).trans rfl
set_option maxRecDepth 20000 in
theorem lL_law_1512 : lk (tL_law b L xs) 1512 = oIf (fun x => x = 0) 1537 1515 := (lkc_14 (Nat.le_of_ble_eq_true rfl) (Nat.le_of_ble_eq_true rfl)).trans rfl
set_option maxRecDepth 20000 in
theorem lL_law_1515 : lk (tL_law b L xs) 1515 = oAld 4 1517 := (lkc_14 (Nat.le_of_ble_eq_true rfl) (Nat.le_of_ble_eq_true rfl)).trans rfl
set_option maxRecDepth 20000 in
theorem lL_law_1517 : lk (tL_law b L xs) 1517 = oPush (.int 0) 1518 := (lkc_14 (Nat.le_of_ble_eq_true rfl) (Nat.le_of_ble_eq_true rfl)).trans rfl
set_option maxRecDepth 20000 in
theorem lL_law_1518 : lk (tL_law b L xs) 1518 = oAd 1519 := (lkc_14 (Nat.le_of_ble_eq_true rfl) (Nat.le_of_ble_eq_true rfl)).trans rfl
set_option maxRecDepth 20000 in
theorem lL_law_1519 : lk (tL_law b L xs) 1519 = oAld 4 1521 := (lkc_14 (Nat.le_of_ble_eq_true rfl) (Nat.le_of_ble_eq_true rfl)).trans rfl
set_option maxRecDepth 20000 in
theorem lL_law_1521 : lk (tL_law b L xs) 1521 = oPush (.int 0) 1522 := (lkc_14 (Nat.le_of_ble_eq_true rfl) (Nat.le_of_ble_eq_true rfl)).trans rfl
set_option maxRecDepth 20000 in
theorem lL_law_1522 : lk (tL_law b L xs) 1522 = oAd 1523 := (lkc_14 (Nat.le_of_ble_eq_true rfl) (Nat.le_of_ble_eq_true rfl)).trans rfl
set_option maxRecDepth 20000 in
theorem lL_law_1523 : lk (tL_law b L xs) 1523 = oDcmp .l 1524 := (lkc_14 (Nat.le_of_ble_eq_true rfl) (Nat.le_of_ble_eq_true rfl)).trans rfl
set_option maxRecDepth 20000 in
theorem lL_law_1524 : lk (tL_law b L xs) 1524 = oIf (fun x => x = 0) 1535 1527 := (lkc_14 (Nat.le_of_ble_eq_true rfl) (Nat.le_of_ble_eq_true rfl)).trans rfl
set_option maxRecDepth 20000 in
theorem lL_law_1527 : lk (tL_law b L xs) 1527 = oDld 7 1529 := (lkc_14 (Nat.le_of_ble_eq_true rfl) (Nat.le_of_ble_eq_true rfl)).trans rfl
set_option maxRecDepth 20000 in
theorem lL_law_1529 : lk (tL_law b L xs) 1529 = oDld 7 1531 := (lkc_14 (Nat.le_of_ble_eq_true rfl) (Nat.le_of_ble_eq_true rfl)).trans rfl
set_option maxRecDepth 20000 in
theorem lL_law_1531 : lk (tL_law b L xs) 1531 = oDcmp .l 1532 := (lkc_14 (Nat.le_of_ble_eq_true rfl) (Nat.le_of_ble_eq_true rfl)).trans rfl
set_option maxRecDepth 20000 in
theorem lL_law_1532 : lk (tL_law b L xs) 1532 = oIf (fun x => x = 0) 1535 1537 := (lkc_14 (Nat.le_of_ble_eq_true rfl) (Nat.le_of_ble_eq_true rfl)).trans rfl
set_option maxRecDepth 20000 in
theorem lL_law_1535 : lk (tL_law b L xs) 1535 = oPush (.int 0) 1536 := (lkc_14 (Nat.le_of_ble_eq_true rfl) (Nat.le_of_ble_eq_true rfl)).trans rfl
set_option maxRecDepth 20000 in
theorem lL_law_1536 : lk (tL_law b L xs) 1536 = oLret := (lkc_14 (Nat.le_of_ble_eq_true rfl) (Nat.le_of_ble_eq_true rfl)).trans rfl
set_option maxRecDepth 20000 in
theorem lL_law_1537 : lk (tL_law b L xs) 1537 = oGoto 1656 := (lkc_14 (Nat.le_of_ble_eq_true rfl) (Nat.le_of_ble_eq_true rfl)).trans rfl
set_option maxRecDepth 20000 in
theorem lL_law_1540 : lk (tL_law b L xs) 1540 = oAld 1 1541 := (lkc_14 (Nat.le_of_ble_eq_true rfl) (Nat.le_of_ble_eq_true rfl)).trans rfl
set_option maxRecDepth 20000 in
theorem lL_law_1541 : lk (tL_law b L xs) 1541 = oAld 0 1542 := (lkc_14 (Nat.le_of_ble_eq_true rfl) (Nat.le_of_ble_eq_true rfl)).trans rfl
set_option maxRecDepth 20000 in
theorem lL_law_1542 : lk (tL_law b L xs) 1542 = oIld 5 1544 := (lkc_14 (Nat.le_of_ble_eq_true rfl) (Nat.le_of_ble_eq_true rfl)).trans rfl
set_option maxRecDepth 20000 in
theorem lL_law_1544 : lk (tL_law b L xs) 1544 = oPush (.int 1) 1545 := (lkc_14 (Nat.le_of_ble_eq_true rfl) (Nat.le_of_ble_eq_true rfl)).trans rfl
set_option maxRecDepth 20000 in
theorem lL_law_1545 : lk (tL_law b L xs) 1545 = oI2 (fun x y => x + y) 1546 := (lkc_14 (Nat.le_of_ble_eq_true rfl) (Nat.le_of_ble_eq_true rfl)).trans rfl
set_option maxRecDepth 20000 in
theorem lL_law_1546 : lk (tL_law b L xs) 1546 = oSld b L xs 1547 := (lkc_14 (Nat.le_of_ble_eq_true rfl) (Nat.le_of_ble_eq_true rfl)).trans rfl
set_option maxRecDepth 20000 in
theorem lL_law_1547 : lk (tL_law b L xs) 1547 = oAld 0 1548 := (lkc_14 (Nat.le_of_ble_eq_true rfl) (Nat.le_of_ble_eq_true rfl)).trans rfl
set_option maxRecDepth 20000 in
theorem lL_law_1548 : lk (tL_law b L xs) 1548 = oIld 5 1550 := (lkc_14 (Nat.le_of_ble_eq_true rfl) (Nat.le_of_ble_eq_true rfl)).trans rfl
set_option maxRecDepth 20000 in
theorem lL_law_1550 : lk (tL_law b L xs) 1550 = oPush (.int 2) 1551 := (lkc_14 (Nat.le_of_ble_eq_true rfl) (Nat.le_of_ble_eq_true rfl)).trans rfl
set_option maxRecDepth 20000 in
theorem lL_law_1551 : lk (tL_law b L xs) 1551 = oI2 (fun x y => x + y) 1552 := (lkc_14 (Nat.le_of_ble_eq_true rfl) (Nat.le_of_ble_eq_true rfl)).trans rfl
set_option maxRecDepth 20000 in
theorem lL_law_1552 : lk (tL_law b L xs) 1552 = oSld b L xs 1553 := (lkc_14 (Nat.le_of_ble_eq_true rfl) (Nat.le_of_ble_eq_true rfl)).trans rfl
set_option maxRecDepth 20000 in
theorem lL_law_1553 : lk (tL_law b L xs) 1553 = oAld 3 1554 := (lkc_14 (Nat.le_of_ble_eq_true rfl) (Nat.le_of_ble_eq_true rfl)).trans rfl
set_option maxRecDepth 20000 in
theorem lL_law_1554 : lk (tL_law b L xs) 1554 = oCallG 2000 601024 7293034 2 12 yL_cost (Cond.codeWith yL_cost cL_cost 5 (some .int) [(0, 10, 13, 13), (0, 10, 17, 15)]) 4 1557 := (lkc_14 (Nat.le_of_ble_eq_true rfl) (Nat.le_of_ble_eq_true rfl)).trans rfl
set_option maxRecDepth 20000 in
theorem lL_law_1557 : lk (tL_law b L xs) 1557 = oIst 6 1559 := (lkc_14 (Nat.le_of_ble_eq_true rfl) (Nat.le_of_ble_eq_true rfl)).trans rfl
set_option maxRecDepth 20000 in
theorem lL_law_1559 : lk (tL_law b L xs) 1559 = oAld 2 1560 := (lkc_14 (Nat.le_of_ble_eq_true rfl) (Nat.le_of_ble_eq_true rfl)).trans rfl
set_option maxRecDepth 20000 in
theorem lL_law_1560 : lk (tL_law b L xs) 1560 = oAld 0 1561 := (lkc_14 (Nat.le_of_ble_eq_true rfl) (Nat.le_of_ble_eq_true rfl)).trans rfl
set_option maxRecDepth 20000 in
theorem lL_law_1561 : lk (tL_law b L xs) 1561 = oIld 5 1563 := (lkc_14 (Nat.le_of_ble_eq_true rfl) (Nat.le_of_ble_eq_true rfl)).trans rfl
set_option maxRecDepth 20000 in
theorem lL_law_1563 : lk (tL_law b L xs) 1563 = oPush (.int 1) 1564 := (lkc_14 (Nat.le_of_ble_eq_true rfl) (Nat.le_of_ble_eq_true rfl)).trans rfl
set_option maxRecDepth 20000 in
theorem lL_law_1564 : lk (tL_law b L xs) 1564 = oI2 (fun x y => x + y) 1565 := (lkc_14 (Nat.le_of_ble_eq_true rfl) (Nat.le_of_ble_eq_true rfl)).trans rfl
set_option maxRecDepth 20000 in
theorem lL_law_1565 : lk (tL_law b L xs) 1565 = oSld b L xs 1566 := (lkc_14 (Nat.le_of_ble_eq_true rfl) (Nat.le_of_ble_eq_true rfl)).trans rfl
set_option maxRecDepth 20000 in
theorem lL_law_1566 : lk (tL_law b L xs) 1566 = oAld 0 1567 := (lkc_14 (Nat.le_of_ble_eq_true rfl) (Nat.le_of_ble_eq_true rfl)).trans rfl
set_option maxRecDepth 20000 in
theorem lL_law_1567 : lk (tL_law b L xs) 1567 = oIld 5 1569 := (lkc_14 (Nat.le_of_ble_eq_true rfl) (Nat.le_of_ble_eq_true rfl)).trans rfl
set_option maxRecDepth 20000 in
theorem lL_law_1569 : lk (tL_law b L xs) 1569 = oPush (.int 2) 1570 := (lkc_15 (Nat.le_of_ble_eq_true rfl)).trans rfl
set_option maxRecDepth 20000 in
theorem lL_law_1570 : lk (tL_law b L xs) 1570 = oI2 (fun x y => x + y) 1571 := (lkc_15 (Nat.le_of_ble_eq_true rfl)).trans rfl
set_option maxRecDepth 20000 in
theorem lL_law_1571 : lk (tL_law b L xs) 1571 = oSld b L xs 1572 := (lkc_15 (Nat.le_of_ble_eq_true rfl)).trans rfl
set_option maxRecDepth 20000 in
theorem lL_law_1572 : lk (tL_law b L xs) 1572 = oCallGV 2000 601024 7293034 0 0 yX10_cost (Cond.code yX10_cost cX10_cost 3 (some .int)) 2 10 1575 := (lkc_15 (Nat.le_of_ble_eq_true rfl)).trans rfl
set_option maxRecDepth 20000 in
theorem lL_law_1575 : lk (tL_law b L xs) 1575 = oIst 7 1577 := (lkc_15 (Nat.le_of_ble_eq_true rfl)).trans rfl
set_option maxRecDepth 20000 in
theorem lL_law_1577 : lk (tL_law b L xs) 1577 = oAld 2 1578 := (lkc_15 (Nat.le_of_ble_eq_true rfl)).trans rfl
set_option maxRecDepth 20000 in
theorem lL_law_1578 : lk (tL_law b L xs) 1578 = oCallGV 2000 601024 7293034 0 0 yX10_thrown (Cond.code yX10_thrown cX10_thrown 1 (some .int)) 0 10 1581 := (lkc_15 (Nat.le_of_ble_eq_true rfl)).trans rfl
set_option maxRecDepth 20000 in
theorem lL_law_1581 : lk (tL_law b L xs) 1581 = oIld 6 1583 := (lkc_15 (Nat.le_of_ble_eq_true rfl)).trans rfl
set_option maxRecDepth 20000 in
theorem lL_law_1583 : lk (tL_law b L xs) 1583 = oIc (fun x y => x = y) 1588 1586 := (lkc_15 (Nat.le_of_ble_eq_true rfl)).trans rfl
set_option maxRecDepth 20000 in
theorem lL_law_1586 : lk (tL_law b L xs) 1586 = oPush (.int 0) 1587 := (lkc_15 (Nat.le_of_ble_eq_true rfl)).trans rfl
set_option maxRecDepth 20000 in
theorem lL_law_1587 : lk (tL_law b L xs) 1587 = oLret := (lkc_15 (Nat.le_of_ble_eq_true rfl)).trans rfl
set_option maxRecDepth 20000 in
theorem lL_law_1588 : lk (tL_law b L xs) 1588 = oIld 6 1590 := (lkc_15 (Nat.le_of_ble_eq_true rfl)).trans rfl
set_option maxRecDepth 20000 in
theorem lL_law_1590 : lk (tL_law b L xs) 1590 = oIf (fun x => x = 0) 1593 1605 := (lkc_15 (Nat.le_of_ble_eq_true rfl)).trans rfl
set_option maxRecDepth 20000 in
theorem lL_law_1593 : lk (tL_law b L xs) 1593 = oAld 3 1594 := (lkc_15 (Nat.le_of_ble_eq_true rfl)).trans rfl
set_option maxRecDepth 20000 in
theorem lL_law_1594 : lk (tL_law b L xs) 1594 = oPush (.int 0) 1595 := (lkc_15 (Nat.le_of_ble_eq_true rfl)).trans rfl
set_option maxRecDepth 20000 in
theorem lL_law_1595 : lk (tL_law b L xs) 1595 = oAl 1596 := (lkc_15 (Nat.le_of_ble_eq_true rfl)).trans rfl
set_option maxRecDepth 20000 in
theorem lL_law_1596 : lk (tL_law b L xs) 1596 = oIld 7 1598 := (lkc_15 (Nat.le_of_ble_eq_true rfl)).trans rfl
set_option maxRecDepth 20000 in
theorem lL_law_1598 : lk (tL_law b L xs) 1598 = oIcv (fun x => .long x.toInt64) 1599 := (lkc_15 (Nat.le_of_ble_eq_true rfl)).trans rfl
set_option maxRecDepth 20000 in
theorem lL_law_1599 : lk (tL_law b L xs) 1599 = oLcmp 1600 := (lkc_15 (Nat.le_of_ble_eq_true rfl)).trans rfl
set_option maxRecDepth 20000 in
theorem lL_law_1600 : lk (tL_law b L xs) 1600 = oIf (fun x => x = 0) 1605 1603 := (lkc_15 (Nat.le_of_ble_eq_true rfl)).trans rfl
set_option maxRecDepth 20000 in
theorem lL_law_1603 : lk (tL_law b L xs) 1603 = oPush (.int 0) 1604 := (lkc_15 (Nat.le_of_ble_eq_true rfl)).trans rfl
set_option maxRecDepth 20000 in
theorem lL_law_1604 : lk (tL_law b L xs) 1604 = oLret := (lkc_15 (Nat.le_of_ble_eq_true rfl)).trans rfl
set_option maxRecDepth 20000 in
theorem lL_law_1605 : lk (tL_law b L xs) 1605 = oGoto 1656 := (lkc_15 (Nat.le_of_ble_eq_true rfl)).trans rfl
set_option maxRecDepth 20000 in
theorem lL_law_1608 : lk (tL_law b L xs) 1608 = oAld 1 1609 := (lkc_15 (Nat.le_of_ble_eq_true rfl)).trans rfl
set_option maxRecDepth 20000 in
theorem lL_law_1609 : lk (tL_law b L xs) 1609 = oCallGV 2000 601024 7293034 0 0 yX9_cheapest (Cond.code yX9_cheapest cX9_cheapest 6 (some .int)) 0 9 1612 := (lkc_15 (Nat.le_of_ble_eq_true rfl)).trans rfl
set_option maxRecDepth 20000 in
theorem lL_law_1612 : lk (tL_law b L xs) 1612 = oAld 2 1613 := (lkc_15 (Nat.le_of_ble_eq_true rfl)).trans rfl
set_option maxRecDepth 20000 in
theorem lL_law_1613 : lk (tL_law b L xs) 1613 = oCallGV 2000 601024 7293034 0 0 yX10_cheapest (Cond.code yX10_cheapest cX10_cheapest 7 (some .int)) 0 10 1616 := (lkc_15 (Nat.le_of_ble_eq_true rfl)).trans rfl
set_option maxRecDepth 20000 in
theorem lL_law_1616 : lk (tL_law b L xs) 1616 = oIc (fun x y => x = y) 1656 1619 := (lkc_15 (Nat.le_of_ble_eq_true rfl)).trans rfl
set_option maxRecDepth 20000 in
theorem lL_law_1619 : lk (tL_law b L xs) 1619 = oPush (.int 0) 1620 := (lkc_15 (Nat.le_of_ble_eq_true rfl)).trans rfl
set_option maxRecDepth 20000 in
theorem lL_law_1620 : lk (tL_law b L xs) 1620 = oLret := (lkc_15 (Nat.le_of_ble_eq_true rfl)).trans rfl
set_option maxRecDepth 20000 in
theorem lL_law_1621 : lk (tL_law b L xs) 1621 = oAld 1 1622 := (lkc_15 (Nat.le_of_ble_eq_true rfl)).trans rfl
set_option maxRecDepth 20000 in
theorem lL_law_1622 : lk (tL_law b L xs) 1622 = oCallGV 2000 601024 7293034 0 0 yX9_save (Cond.code yX9_save cX9_save 1 none) 0 9 1625 := (lkc_15 (Nat.le_of_ble_eq_true rfl)).trans rfl
set_option maxRecDepth 20000 in
theorem lL_law_1625 : lk (tL_law b L xs) 1625 = oAld 2 1626 := (lkc_15 (Nat.le_of_ble_eq_true rfl)).trans rfl
set_option maxRecDepth 20000 in
theorem lL_law_1626 : lk (tL_law b L xs) 1626 = oCallGV 2000 601024 7293034 0 0 yX10_save (Cond.code yX10_save cX10_save 1 none) 0 10 1629 := (lkc_15 (Nat.le_of_ble_eq_true rfl)).trans rfl
set_option maxRecDepth 20000 in
theorem lL_law_1629 : lk (tL_law b L xs) 1629 = oGoto 1656 := (lkc_15 (Nat.le_of_ble_eq_true rfl)).trans rfl
set_option maxRecDepth 20000 in
theorem lL_law_1632 : lk (tL_law b L xs) 1632 = oAld 1 1633 := (lkc_15 (Nat.le_of_ble_eq_true rfl)).trans rfl
set_option maxRecDepth 20000 in
theorem lL_law_1633 : lk (tL_law b L xs) 1633 = oCallG 2000 601024 7293034 1 6 yL_restore (Cond.codeWith yL_restore cL_restore 2 (some .int) [(0, 4, 7, 15)]) 1 1636 := (lkc_15 (Nat.le_of_ble_eq_true rfl)).trans rfl
set_option maxRecDepth 20000 in
theorem lL_law_1636 : lk (tL_law b L xs) 1636 = oIst 6 1638 := (lkc_15 (Nat.le_of_ble_eq_true rfl)).trans rfl
set_option maxRecDepth 20000 in
theorem lL_law_1638 : lk (tL_law b L xs) 1638 = oAld 2 1639 := (lkc_15 (Nat.le_of_ble_eq_true rfl)).trans rfl
set_option maxRecDepth 20000 in
theorem lL_law_1639 : lk (tL_law b L xs) 1639 = oCallGV 2000 601024 7293034 0 0 yX10_restore (Cond.code yX10_restore cX10_restore 1 none) 0 10 1642 := (lkc_15 (Nat.le_of_ble_eq_true rfl)).trans rfl
set_option maxRecDepth 20000 in
theorem lL_law_1642 : lk (tL_law b L xs) 1642 = oAld 2 1643 := (lkc_15 (Nat.le_of_ble_eq_true rfl)).trans rfl
set_option maxRecDepth 20000 in
theorem lL_law_1643 : lk (tL_law b L xs) 1643 = oCallGV 2000 601024 7293034 0 0 yX10_thrown (Cond.code yX10_thrown cX10_thrown 1 (some .int)) 0 10 1646 := (lkc_15 (Nat.le_of_ble_eq_true rfl)).trans rfl
set_option maxRecDepth 20000 in
theorem lL_law_1646 : lk (tL_law b L xs) 1646 = oIld 6 1648 := (lkc_15 (Nat.le_of_ble_eq_true rfl)).trans rfl
set_option maxRecDepth 20000 in
theorem lL_law_1648 : lk (tL_law b L xs) 1648 = oIc (fun x y => x = y) 1653 1651 := (lkc_15 (Nat.le_of_ble_eq_true rfl)).trans rfl
set_option maxRecDepth 20000 in
theorem lL_law_1651 : lk (tL_law b L xs) 1651 = oPush (.int 0) 1652 := (lkc_15 (Nat.le_of_ble_eq_true rfl)).trans rfl
set_option maxRecDepth 20000 in
theorem lL_law_1652 : lk (tL_law b L xs) 1652 = oLret := (lkc_15 (Nat.le_of_ble_eq_true rfl)).trans rfl
set_option maxRecDepth 20000 in
theorem lL_law_1653 : lk (tL_law b L xs) 1653 = oGoto 1656 := (lkc_15 (Nat.le_of_ble_eq_true rfl)).trans rfl
set_option maxRecDepth 20000 in
theorem lL_law_1656 : lk (tL_law b L xs) 1656 = oInc 5 4 1659 := (lkc_15 (Nat.le_of_ble_eq_true rfl)).trans rfl
set_option maxRecDepth 20000 in
theorem lL_law_1659 : lk (tL_law b L xs) 1659 = oGoto 28 := (lkc_15 (Nat.le_of_ble_eq_true rfl)).trans rfl
set_option maxRecDepth 20000 in
theorem lL_law_1662 : lk (tL_law b L xs) 1662 = oPush (.int 1) 1663 := (lkc_15 (Nat.le_of_ble_eq_true rfl)).trans rfl
set_option maxRecDepth 20000 in
theorem lL_law_1663 : lk (tL_law b L xs) 1663 = oLret := (lkc_15 (Nat.le_of_ble_eq_true rfl)).trans rfl
end
