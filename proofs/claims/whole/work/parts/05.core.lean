/-! ===== the pure machine: a memory of cells by number; values hold cell numbers (from 1000000 on: raw addresses) ===== -/
abbrev PM : Type := (Nat → Nat → Int32) × (Nat → Nat → UInt32) × (Nat → Nat → Option Nat) × (Nat → Nat → Int64) × (Nat → Nat → UInt64)
abbrev LV : Type := Nat → Option Value
abbrev NN : Type := Nat × Nat × Nat
abbrev KT : Type := Nat → LV → List Value → NN → PM → Prop
abbrev OP : Type := KT → LV → List Value → NN → PM → Prop
abbrev PO : Type := (Option Value ⊕ Nat) → Nat → PM → Prop
def u2 {α : Type} (f : Nat → Nat → α) (a k : Nat) (v : α) : Nat → Nat → α := fun b j => if b = a then (if j = k then v else f b j) else f b j
def r2 {α : Type} (f : Nat → Nat → α) (a : Nat) (g : Nat → α) : Nat → Nat → α := fun b j => if b = a then g j else f b j
theorem u2_row {α : Type} (f : Nat → Nat → α) (a k : Nat) (v : α) : u2 f a k v a = fun j => if j = k then v else f a j := by funext j; simp [u2]
theorem u2_ne {α : Type} (f : Nat → Nat → α) {a b : Nat} (k : Nat) (v : α) (h : b ≠ a) : u2 f a k v b = f b := by funext j; simp [u2, h]
theorem r2_row {α : Type} (f : Nat → Nat → α) (a : Nat) (g : Nat → α) : r2 f a g a = g := by funext j; simp [r2]
theorem r2_ne {α : Type} (f : Nat → Nat → α) {a b : Nat} (g : Nat → α) (h : b ≠ a) : r2 f a g b = f b := by funext j; simp [r2, h]
def adr (ad : Nat → Nat) (k : Nat) : Nat := if k < 1000000 then ad k else k - 1000000
def trV (ad : Nat → Nat) : Value → Value
  | .ref k => .ref (adr ad k)
  | v => v
theorem trV_cat (ad : Nat → Nat) (v : Value) : (trV ad v).category = v.category := by cases v <;> rfl
/-! shapes: (class number, 0) of an object; (100 + kind, length) of an array -/
def SH : List (Nat × Nat) := [(9, 0), (7, 0), (102, 100), (100, 100), (100, 100), (100, 100), (3, 0), (100, 200), (0, 0), (100, 200), (108, 3), (1, 0), (106, 3), (100, 16), (100, 16), (100, 16), (100, 8), (1, 0), (106, 3), (100, 16), (100, 16), (100, 16), (100, 8), (4, 0), (106, 18), (100, 8), (100, 8), (100, 8), (100, 8), (100, 8), (100, 8), (100, 8), (100, 8), (100, 8), (100, 8), (100, 8), (100, 8), (100, 8), (100, 8), (100, 8), (100, 8), (100, 8), (100, 8), (100, 200), (2, 0), (107, 18), (104, 8), (104, 8), (104, 8), (104, 8), (104, 8), (104, 8), (104, 8), (104, 8), (104, 8), (104, 8), (104, 8), (104, 8), (104, 8), (104, 8), (104, 8), (104, 8), (104, 8), (104, 8), (104, 200), (6, 0), (100, 100), (100, 8), (100, 8), (106, 8), (100, 200), (100, 200), (100, 200), (100, 200), (100, 200), (100, 200), (100, 200), (100, 200), (100, 8), (100, 200), (103, 8), (100, 8), (100, 8), (100, 8), (100, 8), (6, 0), (100, 100), (100, 8), (100, 8), (106, 8), (100, 200), (100, 200), (100, 200), (100, 200), (100, 200), (100, 200), (100, 200), (100, 200), (100, 8), (100, 200), (103, 8), (100, 8), (100, 8), (100, 8), (100, 8), (6, 0), (100, 100), (100, 8), (100, 8), (106, 8), (100, 200), (100, 200), (100, 200), (100, 200), (100, 200), (100, 200), (100, 200), (100, 200), (100, 8), (100, 200), (103, 8), (100, 8), (100, 8), (100, 8), (100, 8), (10, 0), (100, 875), (100, 875), (100, 875), (100, 100), (100, 200), (100, 200), (100, 200), (100, 200), (100, 100), (100, 100), (100, 200), (100, 1600), (100, 8), (100, 200), (100, 8), (104, 8), (100, 16), (104, 16), (100, 8), (104, 8), (100, 8), (104, 8), (101, 1), (105, 1)]
def shp (a : Nat) : Nat × Nat := SH.getD a (99, 0)
/-- which fields of a class hold references -/
def ftab : List (List Bool) := [[true, false, false], [false, false, true, true], [true, false, false, true, true], [true], [true, false, false, true, true], [], [true, true, true, false, false, false, true, true, true, true, true, true, true, true, false, false], [true, false, false, true, false, true, true, false], [], [true, true, true, true, true, true, true, true, true, true, false, false, false, false], [false, true, true, false, true, true, false, false, false, false, false, true, true, true, true, false, true, true, true, false, true, true, true, false, false, true, true, true, true, false, true, true, true, true, false, false]]
def fts (ci : Nat) : List Bool := ftab.getD ci []
def pcl : List vw_C := [(RX0, TX0, 3), (RX1, TX1, 4), (RX2, TX2, 5), (RX3, TX3, 1), (RX4, TX4, 5), (RX0, TX0, 3), (RX6, TX6, 16), (RX7, TX7, 8), (RX0, TX0, 3), (RX9, TX9, 14), (RX10, TX10, 36)]
def trF (ad : Nat → Nat) (M : PM) (a ci : Nat) : List Value := (List.range (fts ci).length).map (fun k => if (fts ci).getD k false = true then va_rf ((M.2.2.1 a k).map (adr ad)) else .int (M.1 a k))
def trA (ad : Nat → Nat) (M : PM) (a t : Nat) : (Nat → Int32) ⊕ (Nat → Int64) ⊕ (Nat → UInt32) ⊕ (Nat → UInt64) ⊕ (Nat → Option Nat) :=
  if t = 101 then .inr (.inl (M.2.2.2.1 a)) else if t = 104 then .inr (.inr (.inl (M.2.1 a))) else if t = 105 then .inr (.inr (.inr (.inl (M.2.2.2.2 a)))) else if 106 ≤ t then .inr (.inr (.inr (.inr (fun j => (M.2.2.1 a j).map (adr ad))))) else .inl (M.1 a)
def trE (cA : Nat → ClassId) (ad : Nat → Nat) (M : PM) (a : Nat) : va_E := if (shp a).1 < 100 then .inr ((shp a).1, trF ad M a (shp a).1) else .inl (cA (shp a).1, (shp a).2, trA ad M a (shp a).1)
def pw (cA : Nat → ClassId) (ad : Nat → Nat) (n : Nat) (M : PM) : va_W := (List.range n).map (fun k => (ad k, trE cA ad M k))
theorem pw_get {cA : Nat → ClassId} {ad : Nat → Nat} {n : Nat} {M : PM} {k : Nat} (h : k < n) : (pw cA ad n M)[k]? = some (ad k, trE cA ad M k) := by
  unfold pw
  rw [List.getElem?_map, List.getElem?_range h]
  rfl
theorem pw_set {cA : Nat → ClassId} {ad : Nat → Nat} {n : Nat} {M M' : PM} {k : Nat} {e : va_E} (h : k < n) (he : trE cA ad M' k = e) (ho : ∀ j, j < n → j ≠ k → trE cA ad M' j = trE cA ad M j) : (pw cA ad n M).set k (ad k, e) = pw cA ad n M' := by
  apply List.ext_getElem?
  intro i
  by_cases hi : i < n
  · rw [pw_get hi]
    by_cases hik : i = k
    · subst hik
      rw [List.getElem?_set_self (by simp [pw]; exact hi), he]
    · rw [List.getElem?_set_ne (Ne.symm hik), pw_get hi, ho i hi hik]
  · rw [List.getElem?_eq_none (by simp [pw]; omega), List.getElem?_eq_none (by simp [pw]; omega)]
/-- array kinds -/
def aty (t : Nat) : FieldType := if t = 100 then .int else if t = 101 then .long else if t = 102 then .char else if t = 103 then .boolean else if t = 104 then .float else if t = 105 then .double else if t = 106 then .array .int else if t = 107 then .array .float else .object "ReductionFinder$Program"
def ptys (cA : Nat → ClassId) : List (ClassId × FieldType) := (List.range 9).map (fun t => (cA (100 + t), aty (100 + t)))
theorem ptys_get (cA : Nat → ClassId) {t : Nat} (h : t < 9) : (ptys cA)[t]? = some (cA (100 + t), aty (100 + t)) := by
  unfold ptys
  rw [List.getElem?_map, List.getElem?_range h]
  rfl
/-! locals -/
def lset (lv : LV) (i : Nat) (v : Value) : LV := fun j => if j = i then some v else if j + 1 = i then (match lv j with | some w => if w.category = 2 then none else some w | none => none) else lv j
def lset2 (lv : LV) (i : Nat) (v : Value) : LV := fun j => if j = i then some v else if j = i + 1 then none else if j + 1 = i then (match lv j with | some w => if w.category = 2 then none else some w | none => none) else lv j
def lls (ad : Nat → Nat) (n : Nat) (lv : LV) : List (Nat × Value) := (List.range n).filterMap (fun j => (lv j).map (fun v => (j, trV ad v)))
def lvok (ad : Nat → Nat) (ls : Array Slot) (n : Nat) (lv : LV) : Prop := lv_has ls n (lls ad n lv) ∧ ∀ j v, lv j = some v → j < n
theorem lls_mem {ad : Nat → Nat} {n : Nat} {lv : LV} {j : Nat} {v : Value} (hj : j < n) (h : lv j = some v) : (j, trV ad v) ∈ lls ad n lv := by
  unfold lls
  rw [List.mem_filterMap]
  exact ⟨j, List.mem_range.mpr hj, by rw [h]; rfl⟩
theorem lls_of {ad : Nat → Nat} {n : Nat} {lv : LV} {q : Nat × Value} (h : q ∈ lls ad n lv) : ∃ v, q.1 < n ∧ lv q.1 = some v ∧ q.2 = trV ad v := by
  unfold lls at h
  rw [List.mem_filterMap] at h
  obtain ⟨j, hj, hv⟩ := h
  cases hl : lv j with
  | none => rw [hl] at hv; cases hv
  | some v =>
    rw [hl] at hv
    cases hv
    exact ⟨v, List.mem_range.mp hj, hl, rfl⟩
theorem lvok_at {ad : Nat → Nat} {ls : Array Slot} {n : Nat} {lv : LV} (h : lvok ad ls n lv) {j : Nat} {v : Value} (hv : lv j = some v) : ls[j]? = some (.val (trV ad v)) := h.1.2.2 (j, trV ad v) (lls_mem (h.2 j v hv) hv)
theorem lvok_sub {ad : Nat → Nat} {ls : Array Slot} {n : Nat} {lv : LV} {l : List (Nat × Value)} (hs : lv_has ls n l) (h : ∀ j v, lv j = some v → j < n ∧ (j, trV ad v) ∈ l) : lvok ad ls n lv := by
  refine ⟨⟨hs.1, hs.2.1, fun q hq => ?_⟩, fun j v hv => (h j v hv).1⟩
  obtain ⟨v, h1, h2, h3⟩ := lls_of hq
  have := hs.2.2 _ (h q.1 v h2).2
  rw [h3]
  exact this
theorem lvok_set {ad : Nat → Nat} {ls : Array Slot} {n : Nat} {lv : LV} {i : Nat} {v : Value} (h : lvok ad ls n lv) (hi : i < n) {ls' : Array Slot} (h' : lv_has ls' n ((i, trV ad v) :: (lls ad n lv).filter (fun q => !(q.1 == i) && !(q.1 + 1 == i && q.2.category == 2)))) : lvok ad ls' n (lset lv i v) := by
  refine lvok_sub h' (fun j w hw => ?_)
  unfold lset at hw
  by_cases hj : j = i
  · rw [if_pos hj] at hw
    cases hw
    subst hj
    exact ⟨hi, List.mem_cons_self⟩
  · rw [if_neg hj] at hw
    by_cases hk : j + 1 = i
    · rw [if_pos hk] at hw
      cases hl : lv j with
      | none => rw [hl] at hw; cases hw
      | some u =>
        rw [hl] at hw
        simp only at hw
        by_cases hc : u.category = 2
        · rw [if_pos hc] at hw; cases hw
        · rw [if_neg hc] at hw
          cases hw
          refine ⟨h.2 j w hl, List.mem_cons_of_mem _ (List.mem_filter.mpr ⟨lls_mem (h.2 j w hl) hl, ?_⟩)⟩
          simp [hj, trV_cat, hc]
    · rw [if_neg hk] at hw
      refine ⟨h.2 j w hw, List.mem_cons_of_mem _ (List.mem_filter.mpr ⟨lls_mem (h.2 j w hw) hw, ?_⟩)⟩
      simp [hj, hk]
theorem lvok_set2 {ad : Nat → Nat} {ls : Array Slot} {n : Nat} {lv : LV} {i : Nat} {v : Value} (h : lvok ad ls n lv) (hi : i + 1 < n) {ls' : Array Slot} (h' : lv_has ls' n ((i, trV ad v) :: (lls ad n lv).filter (fun q => !(q.1 == i) && (!(q.1 == i + 1) && !(q.1 + 1 == i && q.2.category == 2))))) : lvok ad ls' n (lset2 lv i v) := by
  refine lvok_sub h' (fun j w hw => ?_)
  unfold lset2 at hw
  by_cases hj : j = i
  · rw [if_pos hj] at hw
    cases hw
    subst hj
    exact ⟨by omega, List.mem_cons_self⟩
  · rw [if_neg hj] at hw
    by_cases hj2 : j = i + 1
    · rw [if_pos hj2] at hw; cases hw
    · rw [if_neg hj2] at hw
      by_cases hk : j + 1 = i
      · rw [if_pos hk] at hw
        cases hl : lv j with
        | none => rw [hl] at hw; cases hw
        | some u =>
          rw [hl] at hw
          simp only at hw
          by_cases hc : u.category = 2
          · rw [if_pos hc] at hw; cases hw
          · rw [if_neg hc] at hw
            cases hw
            refine ⟨h.2 j w hl, List.mem_cons_of_mem _ (List.mem_filter.mpr ⟨lls_mem (h.2 j w hl) hl, ?_⟩)⟩
            simp [hj, hj2, trV_cat, hc]
      · rw [if_neg hk] at hw
        refine ⟨h.2 j w hw, List.mem_cons_of_mem _ (List.mem_filter.mpr ⟨lls_mem (h.2 j w hw) hw, ?_⟩)⟩
        simp [hj, hj2, hk]
