/-! ===== constructors: the memory while objects are made ===== -/
def mk (I : Nat → Nat → Int32) (R : Nat → Nat → Option Nat) : PM := (I, fun _ _ => 0, R, fun _ _ => 0, fun _ _ => 0)
def KS (n : Nat) (I : Nat → Nat → Int32) (R : Nat → Nat → Option Nat) : Prop := (∀ a, n ≤ a → I a = fun _ => 0) ∧ (∀ a, n ≤ a → R a = fun _ => none) ∧ ∀ a k r, a < n → R a k = some r → r < n
def HJ (T : List (Nat × OP)) (J : KT) : Prop := ∀ (k : Nat) (stops : Nat → Bool) (pc : Nat) (lv : LV) (st : List Value) (nn : NN) (M : PM), lk T pc (wpN T stops k J) lv st nn M → J pc lv st nn M
theorem hj1 {T : List (Nat × OP)} {J : KT} (hJ : HJ T J) {pc : Nat} {o : OP} (r : lk T pc = o) {lv : LV} {st : List Value} {nn : NN} {M : PM} (h : o J lv st nn M) : J pc lv st nn M := hJ 0 (fun _ => false) pc lv st nn M (by rw [r]; exact h)
theorem r2_same {α : Type} {f : Nat → Nat → α} {a : Nat} {g : Nat → α} (h : f a = g) : r2 f a g = f := by
  funext b j
  unfold r2
  by_cases e : b = a
  · rw [if_pos e, e, h]
  · rw [if_neg e]
theorem zI_same {α : Type} {f : Nat → Nat → α} {n k : Nat} {z : α} (h : ∀ a, n ≤ a → f a = fun _ => z) : zI f n k z = f := by
  funext b j
  unfold zI
  by_cases e : n ≤ b ∧ b < n + k
  · rw [if_pos e, h b e.1]
  · rw [if_neg e]
section
variable {n : Nat} {I : Nat → Nat → Int32} {R : Nat → Nat → Option Nat}
theorem ks_zM (h : KS n I R) : zM (mk I R) n = mk I R := by
  show (r2 I n (fun _ => 0), r2 (fun _ _ => (0 : UInt32)) n (fun _ => 0), r2 R n (fun _ => none), r2 (fun _ _ => (0 : Int64)) n (fun _ => 0), r2 (fun _ _ => (0 : UInt64)) n (fun _ => 0)) = _
  rw [r2_same (h.1 n (Nat.le_refl _)), r2_same (h.2.1 n (Nat.le_refl _)), r2_same rfl, r2_same rfl, r2_same rfl]
  rfl
def gR (R : Nat → Nat → Option Nat) (n k : Nat) : Nat → Nat → Option Nat := r2 R n (fun i => if i < k then some (n + 1 + i) else none)
theorem ks_zG (h : KS n I R) (k : Nat) : zG (mk I R) n k = mk I (gR R n k) := by
  show (zI I n (1 + k) 0, zI (fun _ _ => (0 : UInt32)) n (1 + k) 0, r2 (zI R n (1 + k) none) n (fun i => if i < k then some (n + 1 + i) else none), zI (fun _ _ => (0 : Int64)) n (1 + k) 0, zI (fun _ _ => (0 : UInt64)) n (1 + k) 0) = _
  rw [zI_same h.1, zI_same h.2.1, zI_same (fun _ _ => rfl), zI_same (fun _ _ => rfl), zI_same (fun _ _ => rfl)]
  rfl
theorem ks_up (h : KS n I R) {m : Nat} (hm : n ≤ m) : KS m I R := by
  refine ⟨fun a ha => h.1 a (Nat.le_trans hm ha), fun a ha => h.2.1 a (Nat.le_trans hm ha), fun a k r ha hr => ?_⟩
  by_cases e : a < n
  · exact Nat.lt_of_lt_of_le (h.2.2 a k r e hr) hm
  · rw [h.2.1 a (by omega)] at hr; cases hr
theorem ks_I (h : KS n I R) {c k : Nat} {x : Int32} (hc : c < n) : KS n (u2 I c k x) R := ⟨fun a ha => by rw [u2_ne _ _ _ (by omega)]; exact h.1 a ha, h.2⟩
theorem ks_R (h : KS n I R) {c k : Nat} {r : Option Nat} (hc : c < n) (hr : ∀ q, r = some q → q < n) : KS n I (u2 R c k r) := by
  refine ⟨h.1, fun a ha => by rw [u2_ne _ _ _ (by omega)]; exact h.2.1 a ha, fun a j q ha hq => ?_⟩
  unfold u2 at hq
  by_cases e : a = c
  · rw [if_pos e] at hq
    by_cases e2 : j = k
    · rw [if_pos e2] at hq; exact hr q hq
    · rw [if_neg e2] at hq; exact h.2.2 a j q ha hq
  · rw [if_neg e] at hq; exact h.2.2 a j q ha hq
theorem ks_G (h : KS n I R) (k : Nat) : KS (n + (1 + k)) I (gR R n k) := by
  refine ⟨fun a ha => h.1 a (by omega), fun a ha => ?_, fun a j q ha hq => ?_⟩
  · unfold gR; rw [r2_ne _ _ (by omega)]; exact h.2.1 a (by omega)
  · unfold gR r2 at hq
    by_cases e : a = n
    · rw [if_pos e] at hq
      simp only at hq
      by_cases e2 : j < k
      · rw [if_pos e2] at hq; cases hq; omega
      · rw [if_neg e2] at hq; cases hq
    · rw [if_neg e] at hq
      by_cases e2 : a < n
      · have := h.2.2 a j q e2 hq; omega
      · rw [h.2.1 a (by omega)] at hq; cases hq
theorem ks_cl (h : KS n I R) : Cl n (mk I R) := fun a k r ha hr => h.2.2 a k r ha hr
end
section
variable {T : List (Nat × OP)} {J : KT} {lv : LV} {mc ms cs ss n c ci k N x y t u p1 p2 p3 p4 p5 p6 p7 p8 d : Nat} {I : Nat → Nat → Int32} {R : Nat → Nat → Option Nat}
def LVK (n c : Nat) (lv : LV) : Prop := lv 0 = some (.ref c) ∧ c < n ∧ ∀ j v, lv j = some v → rokV n v
theorem rok_up {n m : Nat} {v : Value} (hm : n ≤ m) (h : rokV n v) : rokV m v := by
  cases v with
  | ref q => exact h.elim (fun z => Or.inl (Nat.lt_of_lt_of_le z hm)) Or.inr
  | _ => trivial
theorem LVK.up {m : Nat} (h : LVK n c lv) (hm : n ≤ m) : LVK m c lv := ⟨h.1, Nat.lt_of_lt_of_le h.2.1 hm, fun j v hv => rok_up hm (h.2.2 j v hv)⟩
theorem rok_st {c : Nat} (hc : c < n) : ∀ v ∈ [Value.ref c], rokV n v := fun v hv => by
  rw [List.mem_singleton] at hv
  subst hv
  exact Or.inl hc
theorem q_newA (hJ : HJ T J) (r1 : lk T p1 = oAld 0 p2) (r2 : lk T p2 = oPush (.int (nI N)) p3) (r3 : lk T p3 = oNewA mc ms t p4) (r4 : lk T p4 = oPr ci k p5) (hl : LVK n c lv) (hK : KS n I R) (sc : (shp c).1 = ci) (sn : shp n = (t, N)) (hN : N ≤ 10000) (hn : n < 1000) (h1 : cs + 1 ≤ mc) (h2 : ss + N ≤ ms) (h : KS (n + 1) I (u2 R c k (some n)) → J p5 lv [] (n + 1, cs + 1, ss + N) (mk I (u2 R c k (some n)))) : J p1 lv [] (n, cs, ss) (mk I R) := by
  have cN := nI_clamp (n := N) (by omega)
  refine hj1 hJ r1 ?_
  unfold oAld
  rw [hl.1]
  refine hj1 hJ r2 (hj1 hJ r3 ?_)
  unfold oNewA
  simp only
  rw [cN, ks_zM hK]
  refine ⟨⟨sn, nI_pos (by omega), hN, by omega, h1, h2, ks_cl hK, hl.2.2, rok_st hl.2.1⟩, hj1 hJ r4 ?_⟩
  have hc := hl.2.1
  exact ⟨sc, Nat.lt_succ_of_lt hl.2.1, h (ks_R (ks_up hK (Nat.le_succ n)) (Nat.lt_succ_of_lt hl.2.1) (fun q e => by cases e; exact Nat.lt_succ_self n))⟩
theorem q_newG (hJ : HJ T J) (r1 : lk T p1 = oAld 0 p2) (r2 : lk T p2 = oPush (.int (nI x)) p3) (r3 : lk T p3 = oPush (.int (nI y)) p4) (r4 : lk T p4 = oNewG mc ms t u p5) (r5 : lk T p5 = oPr ci k p6) (hl : LVK n c lv) (hK : KS n I R) (sc : (shp c).1 = ci) (sn : shp n = (t, x)) (si : ∀ i, i < x → shp (n + 1 + i) = (u, y)) (hx : x ≤ 100) (hy : y ≤ 1000) (hn : n < 1000) (h1 : cs + (1 + x) ≤ mc) (h2 : ss + (x + x * y) ≤ ms) (h : KS (n + (1 + x)) I (u2 (gR R n x) c k (some n)) → J p6 lv [] (n + (1 + x), cs + 1 + x, ss + x + x * y) (mk I (u2 (gR R n x) c k (some n)))) : J p1 lv [] (n, cs, ss) (mk I R) := by
  have cx := nI_clamp (n := x) (by omega)
  have cy := nI_clamp (n := y) (by omega)
  refine hj1 hJ r1 ?_
  unfold oAld
  rw [hl.1]
  refine hj1 hJ r2 (hj1 hJ r3 (hj1 hJ r4 ?_))
  unfold oNewG
  simp only
  rw [cx, cy, ks_zG hK]
  have hc := hl.2.1
  refine ⟨⟨sn, si, nI_pos (by omega), nI_pos (by omega), by omega, by omega, by omega, h1, h2, ks_cl hK, hl.2.2, rok_st hl.2.1⟩, hj1 hJ r5 ?_⟩
  exact ⟨sc, by show c < n + (1 + x); omega, h (ks_R (ks_G hK x) (by omega) (fun q e => by cases e; omega))⟩
theorem q_puti {v : Int32} (hJ : HJ T J) (r1 : lk T p1 = oAld 0 p2) (r2 : lk T p2 = oPush (.int v) p3) (r3 : lk T p3 = oPi ci k p4) (hl : LVK n c lv) (hK : KS n I R) (sc : (shp c).1 = ci) (h : KS n (u2 I c k v) R → J p4 lv [] (n, cs, ss) (mk (u2 I c k v) R)) : J p1 lv [] (n, cs, ss) (mk I R) := by
  refine hj1 hJ r1 ?_
  unfold oAld
  rw [hl.1]
  exact hj1 hJ r2 (hj1 hJ r3 ⟨sc, hl.2.1, h (ks_I hK hl.2.1)⟩)
theorem q_puti2 {v : Int32} {cj : Nat} (hJ : HJ T J) (r1 : lk T p1 = oAld 0 p2) (r2 : lk T p2 = oPush (.int v) p3) (r3 : lk T p3 = oPi2 ci cj k p4) (hl : LVK n c lv) (hK : KS n I R) (sc : (shp c).1 = ci ∨ (shp c).1 = cj) (h : KS n (u2 I c k v) R → J p4 lv [] (n, cs, ss) (mk (u2 I c k v) R)) : J p1 lv [] (n, cs, ss) (mk I R) := by
  refine hj1 hJ r1 ?_
  unfold oAld
  rw [hl.1]
  exact hj1 hJ r2 (hj1 hJ r3 ⟨sc, hl.2.1, h (ks_I hK hl.2.1)⟩)
theorem q_putz {v : Int32} (hJ : HJ T J) (r1 : lk T p1 = oAld 0 p2) (r2 : lk T p2 = oPush (.int v) p3) (r3 : lk T p3 = oPz ci k p4) (hv : v = 0 ∨ v = 1) (hl : LVK n c lv) (hK : KS n I R) (sc : (shp c).1 = ci) (h : KS n (u2 I c k v) R → J p4 lv [] (n, cs, ss) (mk (u2 I c k v) R)) : J p1 lv [] (n, cs, ss) (mk I R) := by
  refine hj1 hJ r1 ?_
  unfold oAld
  rw [hl.1]
  exact hj1 hJ r2 (hj1 hJ r3 ⟨hv, sc, hl.2.1, h (ks_I hK hl.2.1)⟩)
theorem q_obj (hJ : HJ T J) (r1 : lk T p1 = oAld 0 p2) (r2 : lk T p2 = oObj p3) (hl : LVK n c lv) (h : J p3 lv [] (n, cs, ss) (mk I R)) : J p1 lv [] (n, cs, ss) (mk I R) := by
  refine hj1 hJ r1 ?_
  unfold oAld
  rw [hl.1]
  exact hj1 hJ r2 ⟨Nat.zero_le _, h⟩
/-- super(): a constructor of no cells on the same object -/
theorem q_sup {y : MethodName} {cw : Cond} (hJ : HJ T J) (r1 : lk T p1 = oAld 0 p2) (r2 : lk T p2 = oCallI d mc ms 0 0 y cw 0 p3) (hl : LVK n c lv) (h1 : cs ≤ mc) (h2 : ss ≤ ms) (hc : ∀ P : PO, P (.inl none) n (mk I R) → CallOK d 0 0 y cw [.ref c] n (mk I R) P) (h : J p3 lv [] (n, cs, ss) (mk I R)) : J p1 lv [] (n, cs, ss) (mk I R) := by
  refine hj1 hJ r1 ?_
  unfold oAld
  rw [hl.1]
  exact hj1 hJ r2 ⟨⟨Nat.le_refl _, Nat.zero_le _, h1, h2, hl.2.2, fun v hv => absurd hv List.not_mem_nil, c, [], rfl⟩, hc _ h⟩
theorem q_sup1 {y : MethodName} {cw : Cond} {e : Nat} {I' : Nat → Nat → Int32} {R' : Nat → Nat → Option Nat} (hJ : HJ T J) (r1 : lk T p1 = oAld 0 p2) (r2 : lk T p2 = oAld 1 p3) (r3 : lk T p3 = oCallI d mc ms 0 0 y cw 1 p4) (hl : LVK n c lv) (l1 : lv 1 = some (.ref e)) (h1 : cs ≤ mc) (h2 : ss ≤ ms) (hc : ∀ P : PO, P (.inl none) n (mk I' R') → CallOK d 0 0 y cw [.ref c, .ref e] n (mk I R) P) (h : J p4 lv [] (n, cs, ss) (mk I' R')) : J p1 lv [] (n, cs, ss) (mk I R) := by
  refine hj1 hJ r1 ?_
  unfold oAld
  rw [hl.1]
  refine hj1 hJ r2 ?_
  unfold oAld
  rw [l1]
  exact hj1 hJ r3 ⟨⟨Nat.le_refl _, Nat.zero_le _, h1, h2, hl.2.2, fun v hv => absurd hv List.not_mem_nil, c, [.ref e], rfl⟩, hc _ h⟩
/-- this.f = new C() -/
theorem q_newO {y : MethodName} {cw : Cond} {cc mc' ms' n' kk : Nat} {I' : Nat → Nat → Int32} {R' : Nat → Nat → Option Nat} (hJ : HJ T J) (r1 : lk T p1 = oAld 0 p2) (r2 : lk T p2 = oNew mc ms cc N p3) (r3 : lk T p3 = oDup p4) (r4 : lk T p4 = oCallI d mc ms mc' ms' y cw 0 p5) (r5 : lk T p5 = oPr ci k p6) (hl : LVK n c lv) (hK : KS n I R) (sc : (shp c).1 = ci) (sn : shp n = (cc, 0)) (hn : n < 1000) (h1 : cs + 1 + mc' ≤ mc) (h2 : ss + N + ms' ≤ ms) (e : n' = n + 1 + kk)
    (hc : ∀ P : PO, (KS n' I' R' → P (.inl none) n' (mk I' R')) → CallOK d mc' ms' y cw [.ref n] (n + 1) (mk I R) P) (h : KS n' I' (u2 R' c k (some n)) → J p6 lv [] (n', cs + 1 + mc', ss + N + ms') (mk I' (u2 R' c k (some n)))) : J p1 lv [] (n, cs, ss) (mk I R) := by
  have hcn := hl.2.1
  refine hj1 hJ r1 ?_
  unfold oAld
  rw [hl.1]
  refine hj1 hJ r2 ⟨⟨sn, by show n + 1 < 1000000; omega, by show cs + 1 ≤ mc; omega, by show ss + N ≤ ms; omega, ks_cl hK, hl.2.2, rok_st hl.2.1⟩, ?_⟩
  show J p3 lv [.ref n, .ref c] (n + 1, cs + 1, ss + N) (zM (mk I R) n)
  rw [ks_zM hK]
  refine hj1 hJ r3 ⟨rfl, ?_⟩
  show J p4 lv [.ref n, .ref n, .ref c] (n + 1, cs + 1, ss + N) (mk I R)
  refine hj1 hJ r4 ⟨⟨Nat.le_of_ble_eq_true rfl, Nat.le_of_ble_eq_true rfl, h1, h2, (hl.up (Nat.le_succ n)).2.2, fun v hv => ?_, n, [], rfl⟩, hc _ (fun hK' => ?_)⟩
  · have hv : v = .ref n ∨ v = .ref c := by simpa using hv
    rcases hv with rfl | rfl
    · exact Or.inl (Nat.lt_succ_self n)
    · exact Or.inl (Nat.lt_succ_of_lt hcn)
  · show J p5 lv [.ref n, .ref c] (n', cs + 1 + mc', ss + N + ms') (mk I' R')
    exact hj1 hJ r5 ⟨sc, by show c < n'; omega, h (ks_R hK' (by omega) (fun q e => by cases e; omega))⟩
/-- this.f = new C(this.g) -/
theorem q_newO1 {y : MethodName} {cw : Cond} {cc mc' ms' n' kk g z : Nat} {I' : Nat → Nat → Int32} {R' : Nat → Nat → Option Nat} (hJ : HJ T J) (r1 : lk T p1 = oAld 0 p2) (r2 : lk T p2 = oNew mc ms cc N p3) (r3 : lk T p3 = oDup p4) (r3a : lk T p4 = oAld 0 p5) (r3b : lk T p5 = oGr ci g p6) (r4 : lk T p6 = oCallI d mc ms mc' ms' y cw 1 p7) (r5 : lk T p7 = oPr ci k p8) (hl : LVK n c lv) (hK : KS n I R) (sc : (shp c).1 = ci) (hg : R c g = some z) (sn : shp n = (cc, 0)) (hn : n < 1000) (h1 : cs + 1 + mc' ≤ mc) (h2 : ss + N + ms' ≤ ms) (e : n' = n + 1 + kk)
    (hc : ∀ P : PO, (KS n' I' R' → P (.inl none) n' (mk I' R')) → CallOK d mc' ms' y cw [.ref n, .ref z] (n + 1) (mk I R) P) (h : KS n' I' (u2 R' c k (some n)) → J p8 lv [] (n', cs + 1 + mc', ss + N + ms') (mk I' (u2 R' c k (some n)))) : J p1 lv [] (n, cs, ss) (mk I R) := by
  have hcn := hl.2.1
  refine hj1 hJ r1 ?_
  unfold oAld
  rw [hl.1]
  refine hj1 hJ r2 ⟨⟨sn, by show n + 1 < 1000000; omega, by show cs + 1 ≤ mc; omega, by show ss + N ≤ ms; omega, ks_cl hK, hl.2.2, rok_st hl.2.1⟩, ?_⟩
  show J p3 lv [.ref n, .ref c] (n + 1, cs + 1, ss + N) (zM (mk I R) n)
  rw [ks_zM hK]
  refine hj1 hJ r3 ⟨rfl, ?_⟩
  show J p4 lv [.ref n, .ref n, .ref c] (n + 1, cs + 1, ss + N) (mk I R)
  refine hj1 hJ r3a ?_
  unfold oAld
  rw [hl.1]
  refine hj1 hJ r3b ⟨sc, Nat.lt_succ_of_lt hcn, ?_⟩
  show J p6 lv (va_rf (R c g) :: [.ref n, .ref n, .ref c]) (n + 1, cs + 1, ss + N) (mk I R)
  rw [hg]
  refine hj1 hJ r4 ⟨⟨Nat.le_of_ble_eq_true rfl, Nat.le_of_ble_eq_true rfl, h1, h2, (hl.up (Nat.le_succ n)).2.2, fun v hv => ?_, n, [.ref z], rfl⟩, hc _ (fun hK' => ?_)⟩
  · have hv : v = .ref n ∨ v = .ref c := by simpa using hv
    rcases hv with rfl | rfl
    · exact Or.inl (Nat.lt_succ_self n)
    · exact Or.inl (Nat.lt_succ_of_lt hcn)
  · show J p7 lv [.ref n, .ref c] (n', cs + 1 + mc', ss + N + ms') (mk I' R')
    exact hj1 hJ r5 ⟨sc, by show c < n'; omega, h (ks_R hK' (by omega) (fun q e => by cases e; omega))⟩
theorem q_putr2 {cj e : Nat} (hJ : HJ T J) (r1 : lk T p1 = oAld 0 p2) (r2 : lk T p2 = oAld 1 p3) (r3 : lk T p3 = oPr2 ci cj k p4) (l1 : lv 1 = some (.ref e)) (he : e < n) (hl : LVK n c lv) (hK : KS n I R) (sc : (shp c).1 = ci ∨ (shp c).1 = cj) (h : KS n I (u2 R c k (some e)) → J p4 lv [] (n, cs, ss) (mk I (u2 R c k (some e)))) : J p1 lv [] (n, cs, ss) (mk I R) := by
  refine hj1 hJ r1 ?_
  unfold oAld
  rw [hl.1]
  refine hj1 hJ r2 ?_
  unfold oAld
  rw [l1]
  exact hj1 hJ r3 ⟨sc, hl.2.1, h (ks_R hK hl.2.1 (fun q e9 => by cases e9; exact he))⟩
theorem q_putn (hJ : HJ T J) (r1 : lk T p1 = oAld 0 p2) (r2 : lk T p2 = oPush .null p3) (r3 : lk T p3 = oPr ci k p4) (hl : LVK n c lv) (hK : KS n I R) (sc : (shp c).1 = ci) (h : KS n I (u2 R c k none) → J p4 lv [] (n, cs, ss) (mk I (u2 R c k none))) : J p1 lv [] (n, cs, ss) (mk I R) := by
  refine hj1 hJ r1 ?_
  unfold oAld
  rw [hl.1]
  exact hj1 hJ r2 (hj1 hJ r3 ⟨sc, hl.2.1, h (ks_R hK hl.2.1 (fun q e9 => by cases e9))⟩)
theorem lvk_1 {c n : Nat} (h : c < n) : LVK n c (entA 0 [.ref c]) := by
  refine ⟨rfl, h, fun j v hv => ?_⟩
  unfold entA at hv
  by_cases e : j = 0
  · rw [if_pos e] at hv; cases hv; exact Or.inl h
  · rw [if_neg e] at hv; cases hv
theorem lvk_2 {c e n : Nat} (h : c < n) (h2 : e < n) : LVK n c (entA 0 [.ref c, .ref e]) := by
  refine ⟨rfl, h, fun j v hv => ?_⟩
  unfold entA at hv
  by_cases e9 : j = 0
  · rw [if_pos e9] at hv; cases hv; exact Or.inl h
  · rw [if_neg e9] at hv
    unfold entA at hv
    by_cases e8 : j = 0 + 1
    · have e7 : j = if (Value.ref c).category = 2 then 0 + 2 else 0 + 1 := e8
      rw [if_pos e7] at hv; cases hv; exact Or.inl h2
    · have e7 : ¬ j = if (Value.ref c).category = 2 then 0 + 2 else 0 + 1 := e8
      rw [if_neg e7] at hv; cases hv
end
