/-! ===== rows of codes in memory; values of expressions by a stack; end expressions; kinds ===== -/
def At (f : Nat → Int32) (w : Nat) (A : List Int32) : Prop := ∀ j, j < A.length → f (w + j) = A.getD j 0
theorem At_nil (f : Nat → Int32) (w : Nat) : At f w [] := fun j h => absurd h (Nat.not_lt_zero j)
theorem At_cons {f : Nat → Int32} {w : Nat} {c : Int32} {A : List Int32} : At f w (c :: A) ↔ f w = c ∧ At f (w + 1) A := by
  constructor
  · intro h
    refine ⟨by have := h 0 (by simp); simpa using this, fun j hj => ?_⟩
    have := h (j + 1) (by simp; omega)
    rw [List.getD_cons_succ] at this
    rw [← this]
    congr 1
    omega
  · intro h j hj
    cases j with
    | zero => simpa using h.1
    | succ j =>
      have := h.2 j (by simp at hj; omega)
      rw [List.getD_cons_succ, ← this]
      congr 1
      omega
theorem At_app {f : Nat → Int32} : ∀ {A B : List Int32} {w : Nat}, At f w (A ++ B) ↔ At f w A ∧ At f (w + A.length) B
  | [], B, w => by simp [At_nil]
  | c :: A, B, w => by
    rw [List.cons_append, At_cons, At_cons, At_app, List.length_cons, show w + (A.length + 1) = w + 1 + A.length by omega, and_assoc]
theorem At.congr {f g : Nat → Int32} {w : Nat} {A : List Int32} (h : At f w A) (e : ∀ j, w ≤ j → j < w + A.length → g j = f j) : At g w A := fun j hj => (e _ (by omega) (by omega)).trans (h j hj)
theorem At.eq {f : Nat → Int32} {w v : Nat} {A : List Int32} (h : At f w A) (e : w = v) : At f v A := e ▸ h
theorem nI_inj {a b : Nat} (ha : a < 2 ^ 31) (hb : b < 2 ^ 31) (h : nI a = nI b) : a = b := (nI_eq ha hb).mp h
theorem leaf_ge {c : Int32} (h : leafc c) : c ≠ 308 ∧ ¬ 300 ≤ c ∧ c ≠ 307 := by
  have e : (308 : Int32) = nI 308 := rfl
  have e2 : (300 : Int32) = nI 300 := rfl
  have e3 : (307 : Int32) = nI 307 := rfl
  rw [e, e2, e3]
  rcases h with ⟨k, hk, rfl⟩ | ⟨k, hk, rfl⟩ | ⟨k, hk, rfl⟩ <;> exact ⟨fun h => by have := nI_inj (by omega) (by omega) h; omega, fun h => by have := (nI_leI (by omega) (by omega)).mp h; omega, fun h => by have := nI_inj (by omega) (by omega) h; omega⟩
theorem pair_ge {c : Int32} (h : pairc c) : c ≠ 308 ∧ 300 ≤ c := by
  have e : (308 : Int32) = nI 308 := rfl
  have e2 : (300 : Int32) = nI 300 := rfl
  rw [e, e2]
  obtain ⟨k, hk, rfl⟩ := h
  exact ⟨fun h => by have := nI_inj (by omega) (by omega) h; omega, (nI_leI (by omega) (by omega)).mpr (by omega)⟩
theorem pair_nv {c : Int32} (h : pairc c) {v : Nat} (hv : v < 8) : c ≠ nI (100 + v) := by
  obtain ⟨k, hk, rfl⟩ := h
  intro h
  have := nI_inj (by omega) (by omega) h
  omega
theorem ch_nv {v : Nat} (hv : v < 8) : (308 : Int32) ≠ nI (100 + v) := by
  intro h
  have := nI_inj (a := 308) (by omega) (by omega) h
  omega
section FOLD
variable {α : Type} {d : α} {lf : Int32 → α} {pa : Int32 → α → α → α} {co : α → α → α → α}
def stp (lf : Int32 → α) (pa : Int32 → α → α → α) (co : α → α → α → α) (c : Int32) (st : List α) : List α :=
  if c = 308 then (match st with
    | x :: y :: z :: r => co x y z :: r
    | r => r)
  else if 300 ≤ c then (match st with
    | x :: y :: r => pa c x y :: r
    | r => r)
  else lf c :: st
def vl (d : α) (lf : Int32 → α) (pa : Int32 → α → α → α) (co : α → α → α → α) (L : List Int32) : α := (L.foldr (stp lf pa co) []).headD d
theorem fd_vl {L : List Int32} (h : IsE L) (st : List α) : L.foldr (stp lf pa co) st = vl d lf pa co L :: st := by
  have q : ∃ v, ∀ st, L.foldr (stp lf pa co) st = v :: st := by
    refine h.ind (fun L => ∃ v, ∀ st, L.foldr (stp lf pa co) st = v :: st) ?_ ?_ ?_
    · intro c hc
      have g := leaf_ge hc
      exact ⟨lf c, fun st => by simp only [List.foldr_cons, List.foldr_nil, stp]; rw [if_neg g.1, if_neg g.2.1]⟩
    · intro c A B hc _ _ hA hB
      obtain ⟨x, hx⟩ := hA
      obtain ⟨y, hy⟩ := hB
      have g := pair_ge hc
      exact ⟨pa c x y, fun st => by rw [List.foldr_cons, List.foldr_append, hy, hx]; unfold stp; rw [if_neg g.1, if_pos g.2]⟩
    · intro A B C _ _ _ hA hB hC
      obtain ⟨x, hx⟩ := hA
      obtain ⟨y, hy⟩ := hB
      obtain ⟨z, hz⟩ := hC
      exact ⟨co x y z, fun st => by rw [List.foldr_cons, List.foldr_append, List.foldr_append, hz, hy, hx]; unfold stp; rw [if_pos rfl]⟩
  obtain ⟨v, hv⟩ := q
  have e : vl d lf pa co L = v := by unfold vl; rw [hv]; rfl
  rw [hv, e]
theorem vl_leaf {c : Int32} (h : leafc c) : vl d lf pa co [c] = lf c := by
  have g := leaf_ge h
  simp only [vl, List.foldr_cons, List.foldr_nil, stp]
  rw [if_neg g.1, if_neg g.2.1]
  rfl
theorem vl_pair {c : Int32} {A B : List Int32} (h : pairc c) (hA : IsE A) (hB : IsE B) : vl d lf pa co (c :: (A ++ B)) = pa c (vl d lf pa co A) (vl d lf pa co B) := by
  have g := pair_ge h
  unfold vl
  rw [List.foldr_cons, List.foldr_append, fd_vl (d := d) hB, fd_vl (d := d) hA]
  unfold stp
  rw [if_neg g.1, if_pos g.2]
  rfl
theorem vl_ch {A B C : List Int32} (hA : IsE A) (hB : IsE B) (hC : IsE C) : vl d lf pa co (308 :: (A ++ (B ++ C))) = co (vl d lf pa co A) (vl d lf pa co B) (vl d lf pa co C) := by
  unfold vl
  rw [List.foldr_cons, List.foldr_append, List.foldr_append, fd_vl (d := d) hC, fd_vl (d := d) hB, fd_vl (d := d) hA]
  unfold stp
  rw [if_pos rfl]
  rfl
end FOLD
/-! end expressions -/
abbrev ST : Type := List (Nat × List Int32)
abbrev EX : Type := Nat → List Int32
def isst (c : Int32) : Prop := 100 ≤ c ∧ c ≤ 107
theorem isst_iff {c : Int32} : isst c ↔ ∃ k, k < 8 ∧ c = nI (100 + k) := by
  constructor
  · intro h
    obtain ⟨k, h1, h2, rfl⟩ := nI_rng (c := c) (a := 100) (b := 107) (by decide) (by decide) h.1 h.2
    exact ⟨k - 100, by omega, congrArg nI (by omega)⟩
  · rintro ⟨k, hk, rfl⟩
    exact ⟨(nI_leI (a := 100) (by omega) (by omega)).mpr (by omega), (nI_leI (b := 107) (by omega) (by omega)).mpr (by omega)⟩
def sb1 (E : EX) (c : Int32) : List Int32 := if 100 ≤ c ∧ c ≤ 107 then E (c - 100).toNatClampNeg else [c]
def sb (E : EX) (A : List Int32) : List Int32 := A.flatMap (sb1 E)
theorem sb_nil (E : EX) : sb E [] = [] := rfl
theorem sb_cons (E : EX) (c : Int32) (A : List Int32) : sb E (c :: A) = sb1 E c ++ sb E A := List.flatMap_cons
theorem sb_app (E : EX) (A B : List Int32) : sb E (A ++ B) = sb E A ++ sb E B := List.flatMap_append
theorem sb1_v (E : EX) {k : Nat} (hk : k < 8) : sb1 E (nI (100 + k)) = E k := by
  unfold sb1
  rw [if_pos (show (100 : Int32) ≤ nI (100 + k) ∧ nI (100 + k) ≤ 107 from isst_iff.mpr ⟨k, hk, rfl⟩), show (100 : Int32) = nI 100 from rfl, pk_sub (by omega), nI_clamp (by omega), show 100 + k - 100 = k by omega]
theorem sb1_n (E : EX) {c : Int32} (h : ¬ isst c) : sb1 E c = [c] := if_neg h
theorem nst_pair {c : Int32} (h : pairc c) : ¬ isst c := by
  intro h9
  obtain ⟨k, hk, e⟩ := isst_iff.mp h9
  exact pair_nv h hk e
theorem nst_ch : ¬ isst (308 : Int32) := by
  intro h9
  obtain ⟨k, hk, e⟩ := isst_iff.mp h9
  exact ch_nv hk e
theorem leaf_st {c : Int32} (h : leafc c) : isst c ∨ ¬ isst c := Classical.em _
theorem sb_E {E : EX} (hE : ∀ v, v < 8 → IsE (E v)) {A : List Int32} (hA : IsE A) : IsE (sb E A) := by
  refine hA.ind (fun A => IsE (sb E A)) ?_ ?_ ?_
  · intro c hc
    rw [sb_cons, sb_nil, List.append_nil]
    by_cases h : isst c
    · obtain ⟨k, hk, rfl⟩ := isst_iff.mp h
      rw [sb1_v E hk]
      exact hE k hk
    · rw [sb1_n E h]
      exact isE_leaf hc
  · intro c A B hc _ _ h1 h2
    rw [sb_cons, sb_app, sb1_n E (nst_pair hc)]
    show IsE (c :: (sb E A ++ sb E B))
    exact isE_pair hc h1 h2
  · intro A B C _ _ _ h1 h2 h3
    rw [sb_cons, sb_app, sb_app, sb1_n E nst_ch]
    show IsE (308 :: (sb E A ++ (sb E B ++ sb E C)))
    exact isE_ch h1 h2 h3
def eup (E : EX) (t : Nat) (A : List Int32) : EX := fun v => if v = t then A else E v
def enS : ST → EX → Option EX
  | [], E => some E
  | q :: S, E => if (sb E q.2).length ≤ 200 then enS S (eup E q.1 (sb E q.2)) else none
def E0 : EX := fun v => [nI (100 + v)]
def EOK (E : EX) : Prop := ∀ v, v < 8 → IsE (E v) ∧ (E v).length ≤ 200
def SOK (S : ST) : Prop := S.length ≤ 8 ∧ (∀ q ∈ S, q.1 < 8 ∧ IsE q.2) ∧ (S.map (fun q => q.2.length)).sum ≤ 100
theorem E0_ok : EOK E0 := fun v hv => ⟨isE_leaf (Or.inr (Or.inl ⟨v, hv, rfl⟩)), by simp [E0]⟩
theorem eup_ok {E : EX} (h : EOK E) {t : Nat} {A : List Int32} (hA : IsE A) (hl : A.length ≤ 200) : EOK (eup E t A) := by
  intro v hv
  unfold eup
  by_cases h9 : v = t
  · rw [if_pos h9]; exact ⟨hA, hl⟩
  · rw [if_neg h9]; exact h v hv
theorem enS_ok : ∀ {S : ST} {E E' : EX}, (∀ q ∈ S, q.1 < 8 ∧ IsE q.2) → EOK E → enS S E = some E' → EOK E'
  | [], E, E', _, hE, h => by
    unfold enS at h
    cases h
    exact hE
  | q :: S, E, E', hS, hE, h => by
    unfold enS at h
    by_cases hl : (sb E q.2).length ≤ 200
    · rw [if_pos hl] at h
      exact enS_ok (fun q h => hS q (List.mem_cons_of_mem _ h)) (eup_ok hE (sb_E (fun v hv => (hE v hv).1) (hS q List.mem_cons_self).2) hl) h
    · rw [if_neg hl] at h
      cases h
/-! chains, kinds -/
def chL (v : Nat) (c : Int32) : Int32 := if c = nI (100 + v) then 0 else -2
def chP (o : Nat) (c x y : Int32) : Int32 := if x = -2 ∧ y = -2 then -2 else if 0 ≤ x ∧ y = -2 ∧ (c = nI (300 + o) ∨ c = 307 ∧ o = 0) then x + 1 else if x = -2 ∧ 0 ≤ y ∧ c = nI (300 + o) then y + 1 else -1
def chC (x y z : Int32) : Int32 := if x = -2 ∧ y = -2 ∧ z = -2 then -2 else if x = -2 ∧ 0 ≤ y ∧ 0 ≤ z then y + z else -1
def chV (v o : Nat) (L : List Int32) : Int32 := vl 0 (chL v) (chP o) chC L
def chM (v o : Nat) (L : List Int32) : Int32 := if 0 ≤ chV v o L then chV v o L else -1
def chN (x : Int32) (n : Nat) : Prop := x = -1 ∨ ∃ k, k < n ∧ x = nI k
theorem chN_le {x : Int32} {n m : Nat} (h : chN x n) (hm : n ≤ m) : chN x m := by
  rcases h with h | ⟨k, hk, e⟩
  · exact Or.inl h
  · exact Or.inr ⟨k, by omega, e⟩
theorem m2_neg : ¬ (0 : Int32) ≤ -2 := by decide
theorem m1_neg : ¬ (0 : Int32) ≤ -1 := by decide
theorem chN_m2 {x : Int32} {n : Nat} (h : chN x n) (hn : n < 2 ^ 31) : x ≠ -2 := by
  rcases h with rfl | ⟨k, hk, rfl⟩
  · decide
  · intro h
    have := nI_pos' (n := k) (by omega)
    rw [h] at this
    exact m2_neg this
theorem ch_cases {v o : Nat} (hv : v < 8) {L : List Int32} (hL : IsE L) : L.length < 2 ^ 30 → (nI (100 + v) ∉ L ∧ chV v o L = -2) ∨ (nI (100 + v) ∈ L ∧ chN (chV v o L) L.length) := by
  refine hL.ind (fun L => L.length < 2 ^ 30 → (nI (100 + v) ∉ L ∧ chV v o L = -2) ∨ (nI (100 + v) ∈ L ∧ chN (chV v o L) L.length)) ?_ ?_ ?_
  · intro c hc _
    unfold chV
    rw [vl_leaf hc]
    unfold chL
    by_cases h : c = nI (100 + v)
    · rw [if_pos h]
      exact Or.inr ⟨by simp [h], Or.inr ⟨0, by simp, rfl⟩⟩
    · rw [if_neg h]
      exact Or.inl ⟨by simp; exact fun h9 => h h9.symm, rfl⟩
  · intro c A B hc hA hB qA qB hl
    simp only [List.length_cons, List.length_append] at hl
    have ec : nI (100 + v) ≠ c := fun h => pair_nv hc hv h.symm
    unfold chV at *
    rw [vl_pair hc hA hB]
    generalize vl 0 (chL v) (chP o) chC A = x at *
    generalize vl 0 (chL v) (chP o) chC B = y at *
    simp only [List.mem_cons, List.mem_append, ec, false_or, List.length_cons, List.length_append]
    unfold chP
    rcases qA (by omega) with ⟨a1, rfl⟩ | ⟨a1, a2⟩ <;> rcases qB (by omega) with ⟨b1, rfl⟩ | ⟨b1, b2⟩
    · exact Or.inl ⟨by simp [a1, b1], if_pos ⟨rfl, rfl⟩⟩
    · have n1 := chN_m2 b2 (by omega)
      refine Or.inr ⟨Or.inr b1, ?_⟩
      rw [if_neg (fun h => n1 h.2), if_neg (fun h => m2_neg h.1)]
      split
      · next h =>
        rcases b2 with rfl | ⟨k, hk, rfl⟩
        · exact absurd h.2.1 m1_neg
        · exact Or.inr ⟨k + 1, by omega, by rw [nI_1]⟩
      · exact Or.inl rfl
    · have n1 := chN_m2 a2 (by omega)
      refine Or.inr ⟨Or.inl a1, ?_⟩
      rw [if_neg (fun h => n1 h.1)]
      split
      · next h =>
        rcases a2 with rfl | ⟨k, hk, rfl⟩
        · exact absurd h.1 m1_neg
        · exact Or.inr ⟨k + 1, by omega, by rw [nI_1]⟩
      · rw [if_neg (fun h => n1 h.1)]
        exact Or.inl rfl
    · have n1 := chN_m2 a2 (by omega)
      have n2 := chN_m2 b2 (by omega)
      refine Or.inr ⟨Or.inl a1, ?_⟩
      rw [if_neg (fun h => n1 h.1), if_neg (fun h => n2 h.2.1), if_neg (fun h => n1 h.1)]
      exact Or.inl rfl
  · intro A B C hA hB hC qA qB qC hl
    simp only [List.length_cons, List.length_append] at hl
    have ec : nI (100 + v) ≠ 308 := fun h => ch_nv hv h.symm
    unfold chV at *
    rw [vl_ch hA hB hC]
    generalize vl 0 (chL v) (chP o) chC A = x at *
    generalize vl 0 (chL v) (chP o) chC B = y at *
    generalize vl 0 (chL v) (chP o) chC C = z at *
    simp only [List.mem_cons, List.mem_append, ec, false_or, List.length_cons, List.length_append]
    unfold chC
    rcases qA (by omega) with ⟨a1, rfl⟩ | ⟨a1, a2⟩
    · rcases qB (by omega) with ⟨b1, rfl⟩ | ⟨b1, b2⟩
      · rcases qC (by omega) with ⟨c1, rfl⟩ | ⟨c1, c2⟩
        · exact Or.inl ⟨by simp [a1, b1, c1], if_pos ⟨rfl, rfl, rfl⟩⟩
        · have n1 := chN_m2 c2 (by omega)
          refine Or.inr ⟨Or.inr (Or.inr c1), ?_⟩
          rw [if_neg (fun h => n1 h.2.2), if_neg (fun h => m2_neg h.2.1)]
          exact Or.inl rfl
      · have n1 := chN_m2 b2 (by omega)
        refine Or.inr ⟨Or.inr (Or.inl b1), ?_⟩
        rw [if_neg (fun h => n1 h.2.1)]
        split
        · next h =>
          rcases b2 with rfl | ⟨k, hk, rfl⟩
          · exact absurd h.2.1 m1_neg
          · rcases qC (by omega) with ⟨c1, rfl⟩ | ⟨c1, c2⟩
            · exact absurd h.2.2 m2_neg
            · rcases c2 with rfl | ⟨j, hj, rfl⟩
              · exact absurd h.2.2 m1_neg
              · exact Or.inr ⟨k + j, by omega, nI_add k j⟩
        · exact Or.inl rfl
    · have n1 := chN_m2 a2 (by omega)
      refine Or.inr ⟨Or.inl a1, ?_⟩
      rw [if_neg (fun h => n1 h.1), if_neg (fun h => n1 h.1)]
      exact Or.inl rfl
def opf (E : EX) (v : Nat) : Nat → Nat → Int32
  | 0, _ => -1
  | k + 1, o => if 0 ≤ chV v o (E v) then nI o else opf E v k (o + 1)
def opr (E : EX) (v : Nat) : Int32 := opf E v 7 0
theorem opf_cases (E : EX) (v : Nat) : ∀ (k o : Nat), opf E v k o = -1 ∨ ∃ j, o ≤ j ∧ j < o + k ∧ opf E v k o = nI j ∧ 0 ≤ chV v j (E v)
  | 0, o => Or.inl rfl
  | k + 1, o => by
    unfold opf
    by_cases h : 0 ≤ chV v o (E v)
    · rw [if_pos h]; exact Or.inr ⟨o, Nat.le_refl _, by omega, rfl, h⟩
    · rw [if_neg h]
      rcases opf_cases E v k (o + 1) with h9 | ⟨j, h1, h2, h3, h4⟩
      · exact Or.inl h9
      · exact Or.inr ⟨j, by omega, by omega, h3, h4⟩
theorem opr_cases (E : EX) (v : Nat) : opr E v = -1 ∨ ∃ j, j < 7 ∧ opr E v = nI j ∧ 0 ≤ chV v j (E v) := by
  rcases opf_cases E v 7 0 with h | ⟨j, h1, h2, h3, h4⟩
  · exact Or.inl h
  · exact Or.inr ⟨j, by omega, h3, h4⟩
def occ (E : EX) (w v : Nat) : Prop := nI (100 + v) ∈ E w
def asg (S : ST) (v : Nat) : Prop := ∃ q ∈ S, q.1 = v
def els (E : EX) (S : ST) (v k : Nat) : Prop := ∃ w, w < k ∧ w ≠ v ∧ asg S w ∧ occ E w v
noncomputable def knd (E : EX) (S : ST) (v : Nat) : Int32 := @ite Int32 (¬ asg S v) (Classical.propDecidable _) 0 (@ite Int32 (¬ els E S v 8 ∧ ¬ occ E v v) (Classical.propDecidable _) 1 (if opr E v = -1 then 4 else @ite Int32 (els E S v 8) (Classical.propDecidable _) 3 2))
theorem knd_0 {E : EX} {S : ST} {v : Nat} (h : ¬ asg S v) : knd E S v = 0 := by unfold knd; rw [if_pos h]
theorem knd_1 {E : EX} {S : ST} {v : Nat} (h : asg S v) (h1 : ¬ els E S v 8) (h2 : ¬ occ E v v) : knd E S v = 1 := by unfold knd; rw [if_neg (fun w => w h), if_pos ⟨h1, h2⟩]
theorem knd_4 {E : EX} {S : ST} {v : Nat} (h : asg S v) (h1 : els E S v 8 ∨ occ E v v) (h2 : opr E v = -1) : knd E S v = 4 := by
  unfold knd
  rw [if_neg (fun w => w h), if_neg (fun w => h1.elim w.1 w.2), if_pos h2]
theorem knd_3 {E : EX} {S : ST} {v : Nat} (h : asg S v) (h1 : els E S v 8) (h2 : ¬ opr E v = -1) : knd E S v = 3 := by
  unfold knd
  rw [if_neg (fun w => w h), if_neg (fun w => w.1 h1), if_neg h2, if_pos h1]
theorem knd_2 {E : EX} {S : ST} {v : Nat} (h : asg S v) (h1 : ¬ els E S v 8) (h3 : occ E v v) (h2 : ¬ opr E v = -1) : knd E S v = 2 := by
  unfold knd
  rw [if_neg (fun w => w h), if_neg (fun w => w.2 h3), if_neg h2, if_neg h1]
theorem knd_rng (E : EX) (S : ST) (v : Nat) : ∃ k, k < 5 ∧ knd E S v = nI k := by
  unfold knd
  split
  · exact ⟨0, by omega, rfl⟩
  · split
    · exact ⟨1, by omega, rfl⟩
    · split
      · exact ⟨4, by omega, rfl⟩
      · split
        · exact ⟨3, by omega, rfl⟩
        · exact ⟨2, by omega, rfl⟩
theorem knd_op {E : EX} {S : ST} {v : Nat} (h : knd E S v = 2 ∨ knd E S v = 3) : ¬ opr E v = -1 := by
  intro h9
  unfold knd at h
  split at h
  · rcases h with h | h <;> exact absurd h (by decide)
  · split at h
    · rcases h with h | h <;> exact absurd h (by decide)
    · rcases h with h | h <;> exact absurd h (by decide)
def par (E : EX) (S : ST) (k : Nat) : Prop := ∀ v, v < k → ¬ (2 : Int32) < knd E S v
/-! heights -/
def hN (L : List Int32) : Nat := vl 0 (fun _ => 1) (fun _ x y => 1 + max x y) (fun x y z => 1 + max x (max y z)) L
theorem hN_le {L : List Int32} (h : IsE L) : hN L ≤ L.length ∧ 0 < hN L := by
  refine h.ind (fun L => hN L ≤ L.length ∧ 0 < hN L) ?_ ?_ ?_
  · intro c hc
    unfold hN
    rw [vl_leaf hc]
    simp
  · intro c A B hc hA hB q1 q2
    unfold hN at *
    rw [vl_pair hc hA hB]
    simp only [List.length_cons, List.length_append]
    omega
  · intro A B C hA hB hC q1 q2 q3
    unfold hN at *
    rw [vl_ch hA hB hC]
    simp only [List.length_cons, List.length_append]
    omega
