/-! ===== floats: finite ones; up to the sign of zero ===== -/
def Fn (x : UInt32) : Prop := ∃ s c q, FP.Core.val32 x = .fin s c q
theorem Fn.nn {x : UInt32} (h : Fn x) : FP.Core.val32 x ≠ .nan := by obtain ⟨s, c, q, e⟩ := h; rw [e]; exact FP.Core.Datum.noConfusion
theorem nn32 {x : UInt32} (h : FP.Core.val32 x ≠ .nan) : vf_n32 x := by
  unfold vf_n32
  rw [UInt32.le_iff_toNat_le, UInt32.toNat_and, show (0x7fffffff : UInt32).toNat = 2 ^ 31 - 1 from rfl, Nat.and_two_pow_sub_one_eq_mod, show (0x7f800000 : UInt32).toNat = 2139095040 from rfl]
  refine Nat.le_of_not_lt (fun hlt => h ?_)
  have e1 : FP.Core.fieldE FP.Core.b32 x.toNat = FP.Core.b32.exps - 1 := by
    show x.toNat / 8388608 % 256 = 255
    omega
  have e2 : ¬ FP.Core.fieldT FP.Core.b32 x.toNat = 0 := by
    show ¬ x.toNat % 8388608 = 0
    omega
  unfold FP.Core.val32 FP.Core.decode
  rw [if_pos e1, if_neg e2]
theorem nn64 {x : UInt64} (h : FP.Core.val64 x ≠ .nan) : vf_n64 x := by
  unfold vf_n64
  rw [UInt64.le_iff_toNat_le, UInt64.toNat_and, show (0x7fffffffffffffff : UInt64).toNat = 2 ^ 63 - 1 from rfl, Nat.and_two_pow_sub_one_eq_mod, show (0x7ff0000000000000 : UInt64).toNat = 9218868437227405312 from rfl]
  refine Nat.le_of_not_lt (fun hlt => h ?_)
  have e1 : FP.Core.fieldE FP.Core.b64 x.toNat = FP.Core.b64.exps - 1 := by
    show x.toNat / 4503599627370496 % 2048 = 2047
    omega
  have e2 : ¬ FP.Core.fieldT FP.Core.b64 x.toNat = 0 := by
    show ¬ x.toNat % 4503599627370496 = 0
    omega
  unfold FP.Core.val64 FP.Core.decode
  rw [if_pos e1, if_neg e2]
theorem rd_cases (f : FP.Core.Fmt) (s : Bool) (c : Nat) (q : Int) : (∃ c' q', FP.Core.round f (.fin s c q) = .fin s c' q') ∨ FP.Core.round f (.fin s c q) = .inf s := by
  show (∃ c' q', FP.Core.roundRatio f s c 1 q = .fin s c' q') ∨ FP.Core.roundRatio f s c 1 q = .inf s
  unfold FP.Core.roundRatio FP.Core.roundAt FP.Core.settle FP.Core.bound
  split
  · exact Or.inl ⟨_, _, rfl⟩
  · split
    · split
      · exact Or.inl ⟨_, _, rfl⟩
      · exact Or.inr rfl
    · split
      · exact Or.inl ⟨_, _, rfl⟩
      · exact Or.inr rfl
theorem rd_nn (f : FP.Core.Fmt) (s : Bool) (c : Nat) (q : Int) : FP.Core.round f (.fin s c q) ≠ .nan := by
  rcases rd_cases f s c q with ⟨c', q', e⟩ | e <;> rw [e] <;> exact FP.Core.Datum.noConfusion
theorem fadd_nn {x y : UInt32} (hx : Fn x) (hy : Fn y) : FP.Core.val32 (FP.fadd x y) ≠ .nan := by
  obtain ⟨s, c, q, e⟩ := hx
  obtain ⟨t, d, r, e2⟩ := hy
  have := FP.Core.val32_fadd x y
  rw [e, e2] at this
  show FP.Core.val32 (FP.Core.fadd x y) ≠ .nan
  rw [this]
  exact rd_nn _ _ _ _
theorem fsub_nn {x y : UInt32} (hx : Fn x) (hy : Fn y) : FP.Core.val32 (FP.fsub x y) ≠ .nan := by
  obtain ⟨s, c, q, e⟩ := hx
  obtain ⟨t, d, r, e2⟩ := hy
  have := FP.Core.val32_fsub x y
  rw [e, e2] at this
  show FP.Core.val32 (FP.Core.fsub x y) ≠ .nan
  rw [this]
  exact rd_nn _ _ _ _
theorem fmul_nn {x y : UInt32} (hx : Fn x) (hy : Fn y) : FP.Core.val32 (FP.fmul x y) ≠ .nan := by
  obtain ⟨s, c, q, e⟩ := hx
  obtain ⟨t, d, r, e2⟩ := hy
  have := FP.Core.val32_fmul x y
  rw [e, e2] at this
  show FP.Core.val32 (FP.Core.fmul x y) ≠ .nan
  rw [this]
  exact rd_nn _ _ _ _
theorem v_far : FP.Core.val32 1900671690 = .fin false 13234890 76 := by decide +kernel
theorem v_nfar : FP.Core.val32 4048155338 = .fin true 13234890 76 := by decide +kernel
theorem fn_far : Fn 1900671690 := ⟨_, _, _, v_far⟩
theorem fn_nfar : Fn 4048155338 := ⟨_, _, _, v_nfar⟩
theorem fn_0 : Fn FP.fconst0 := ⟨_, _, _, FP.Core.val32_fconst0⟩
theorem fn_1 : Fn FP.fconst1 := ⟨_, _, _, FP.Core.val32_fconst1⟩
def bnd (x : UInt32) : UInt32 := if FP.fcmp x 1900671690 = some .gt then 1900671690 else if FP.fcmp x 4048155338 = some .lt then 4048155338 else x
theorem bnd_fn {x : UInt32} (h : FP.Core.val32 x ≠ .nan) : Fn (bnd x) := by
  unfold bnd
  split
  · exact fn_far
  · next h1 =>
    split
    · exact fn_nfar
    · next h2 =>
      cases e : FP.Core.val32 x with
      | nan => exact absurd e h
      | fin s c q => exact ⟨s, c, q, e⟩
      | inf s =>
        exfalso
        have a1 : FP.fcmp x 1900671690 = FP.Core.order (.inf s) (.fin false 13234890 76) := by rw [← e, ← v_far]; rfl
        have a2 : FP.fcmp x 4048155338 = FP.Core.order (.inf s) (.fin true 13234890 76) := by rw [← e, ← v_nfar]; rfl
        cases s
        · exact h1 (a1.trans (by decide))
        · exact h2 (a2.trans (by decide))
/-! floats up to the sign of zero: by their keys -/
def ZR (x y : UInt32) : Prop := Fn x ∧ Fn y ∧ FP.Core.fkey x = FP.Core.fkey y
theorem ZR.refl {x : UInt32} (h : Fn x) : ZR x x := ⟨h, h, rfl⟩
theorem ZR.symm {x y : UInt32} (h : ZR x y) : ZR y x := ⟨h.2.1, h.1, h.2.2.symm⟩
theorem ZR.trans {x y z : UInt32} (h : ZR x y) (h' : ZR y z) : ZR x z := ⟨h.1, h'.2.1, h.2.2.trans h'.2.2⟩
theorem ZR.cases {x y : UInt32} (h : ZR x y) : x = y ∨ (∃ s, FP.Core.val32 x = .fin s 0 FP.Core.b32.qmin) ∧ ∃ s, FP.Core.val32 y = .fin s 0 FP.Core.b32.qmin := by
  have hz : ∀ a : UInt32, a.toNat % 2 ^ 31 = 0 → ∃ s, FP.Core.val32 a = .fin s 0 FP.Core.b32.qmin := by
    intro a ha
    obtain ⟨s, q, e⟩ := (FP.Core.zero_bits232 a).mpr ha
    have hf := FP.Core.val32_fits a
    rw [e] at hf
    rw [FP.Core.fits_zero_q FP.Core.good_b32 hf] at e
    exact ⟨s, e⟩
  have hk := h.2.2
  unfold FP.Core.fkey at hk
  have h1 := x.toNat_lt
  have h2 := y.toNat_lt
  by_cases he : x.toNat = y.toNat
  · exact Or.inl (UInt32.toNat.inj he)
  · refine Or.inr ⟨hz x ?_, hz y ?_⟩
    · split at hk <;> split at hk <;> omega
    · split at hk <;> split at hk <;> omega
theorem ZR.zero {x y : UInt32} (hx : ∃ s, FP.Core.val32 x = .fin s 0 FP.Core.b32.qmin) (hy : ∃ s, FP.Core.val32 y = .fin s 0 FP.Core.b32.qmin) : ZR x y := by
  obtain ⟨s, e⟩ := hx
  obtain ⟨t, e2⟩ := hy
  refine ⟨⟨_, _, _, e⟩, ⟨_, _, _, e2⟩, ?_⟩
  have a1 := (FP.Core.zero_bits232 x).mp ⟨s, _, e⟩
  have a2 := (FP.Core.zero_bits232 y).mp ⟨t, _, e2⟩
  unfold FP.Core.fkey
  have h1 := x.toNat_lt
  have h2 := y.toNat_lt
  split <;> split <;> omega
theorem ZR.cmp {x y x' y' : UInt32} (h : ZR x x') (h' : ZR y y') : FP.fcmp x y = FP.fcmp x' y' := by
  show FP.Core.fcmp x y = FP.Core.fcmp x' y'
  rw [FP.Core.fcmp_key h.1.nn h'.1.nn, FP.Core.fcmp_key h.2.1.nn h'.2.1.nn, h.2.2, h'.2.2]
/-- two results: equal, or zeros -/
def dz (d e : FP.Core.Datum) : Prop := d = e ∨ (∃ s, d = .fin s 0 FP.Core.b32.qmin) ∧ ∃ s, e = .fin s 0 FP.Core.b32.qmin
theorem dz.trans {a b c : FP.Core.Datum} (h : dz a b) (h' : dz b c) : dz a c := by
  rcases h with rfl | ⟨h1, h2⟩
  · exact h'
  · rcases h' with rfl | ⟨h3, h4⟩
    · exact Or.inr ⟨h1, h2⟩
    · exact Or.inr ⟨h1, h4⟩
theorem rd_zero (s : Bool) (q : Int) : FP.Core.round FP.Core.b32 (.fin s 0 q) = .fin s 0 FP.Core.b32.qmin := rfl
theorem sum_z (s s' : Bool) (t : Bool) (d : Nat) (r : Int) : dz (FP.Core.round FP.Core.b32 (FP.Core.exactSum (.fin s 0 FP.Core.b32.qmin) (.fin t d r))) (FP.Core.round FP.Core.b32 (FP.Core.exactSum (.fin s' 0 FP.Core.b32.qmin) (.fin t d r))) := by
  have e : ∀ b : Bool, FP.Core.sumUnits b 0 FP.Core.b32.qmin t d r (min FP.Core.b32.qmin r) = FP.Core.signed t (FP.Core.inUnits d r (min FP.Core.b32.qmin r)) := by
    intro b
    unfold FP.Core.sumUnits
    rw [show FP.Core.inUnits 0 FP.Core.b32.qmin (min FP.Core.b32.qmin r) = 0 by unfold FP.Core.inUnits; rw [Nat.zero_mul], FP.Core.signed_zero, Int.zero_add]
  show dz (FP.Core.round FP.Core.b32 (.fin (FP.Core.sumSign s t _) (Int.natAbs _) _)) (FP.Core.round FP.Core.b32 (.fin (FP.Core.sumSign s' t _) (Int.natAbs _) _))
  rw [e s, e s']
  generalize FP.Core.signed t (FP.Core.inUnits d r (min FP.Core.b32.qmin r)) = v
  unfold FP.Core.sumSign
  by_cases hv : v = 0
  · subst hv
    rw [if_pos rfl, if_pos rfl, show Int.natAbs 0 = 0 from rfl, rd_zero, rd_zero]
    exact Or.inr ⟨⟨_, rfl⟩, ⟨_, rfl⟩⟩
  · rw [if_neg hv, if_neg hv]
    exact Or.inl rfl
theorem pro_z (s s' : Bool) (t : Bool) (d : Nat) (r : Int) : dz (FP.Core.round FP.Core.b32 (FP.Core.exactProduct (.fin s 0 FP.Core.b32.qmin) (.fin t d r))) (FP.Core.round FP.Core.b32 (FP.Core.exactProduct (.fin s' 0 FP.Core.b32.qmin) (.fin t d r))) := by
  show dz (FP.Core.round FP.Core.b32 (.fin (s != t) (0 * d) _)) (FP.Core.round FP.Core.b32 (.fin (s' != t) (0 * d) _))
  rw [Nat.zero_mul, rd_zero, rd_zero]
  exact Or.inr ⟨⟨_, rfl⟩, ⟨_, rfl⟩⟩
theorem sum_dz {x x' y : UInt32} (h : ZR x x') (hy : Fn y) : dz (FP.Core.round FP.Core.b32 (FP.Core.exactSum (FP.Core.val32 x) (FP.Core.val32 y))) (FP.Core.round FP.Core.b32 (FP.Core.exactSum (FP.Core.val32 x') (FP.Core.val32 y))) := by
  rcases h.cases with rfl | ⟨⟨s, e⟩, ⟨s', e'⟩⟩
  · exact Or.inl rfl
  · obtain ⟨t, d, r, e2⟩ := hy
    rw [e, e', e2]
    exact sum_z s s' t d r
theorem pro_dz {x x' y : UInt32} (h : ZR x x') (hy : Fn y) : dz (FP.Core.round FP.Core.b32 (FP.Core.exactProduct (FP.Core.val32 x) (FP.Core.val32 y))) (FP.Core.round FP.Core.b32 (FP.Core.exactProduct (FP.Core.val32 x') (FP.Core.val32 y))) := by
  rcases h.cases with rfl | ⟨⟨s, e⟩, ⟨s', e'⟩⟩
  · exact Or.inl rfl
  · obtain ⟨t, d, r, e2⟩ := hy
    rw [e, e', e2]
    exact pro_z s s' t d r
/-- numbers up to the sign of zero, infinities among them -/
def ZN (x y : UInt32) : Prop := FP.Core.val32 x ≠ .nan ∧ (x = y ∨ ZR x y)
theorem ZN.of_dz {x y : UInt32} (hx : FP.Core.val32 x ≠ .nan) (h : dz (FP.Core.val32 x) (FP.Core.val32 y)) : ZN x y := by
  refine ⟨hx, ?_⟩
  rcases h with h | ⟨h1, h2⟩
  · exact Or.inl (FP.Core.val32_inj hx h)
  · exact Or.inr (ZR.zero h1 h2)
theorem bnd_z {x y : UInt32} (h : ZN x y) : ZR (bnd x) (bnd y) := by
  obtain ⟨hx, rfl | h⟩ := h
  · exact ZR.refl (bnd_fn hx)
  · have a1 := h.cmp (ZR.refl fn_far)
    have a2 := h.cmp (ZR.refl fn_nfar)
    unfold bnd
    rw [a1, a2]
    split
    · exact ZR.refl fn_far
    · split
      · exact ZR.refl fn_nfar
      · exact h
theorem fadd_z {x x' y y' : UInt32} (h : ZR x x') (h' : ZR y y') : ZN (FP.fadd x y) (FP.fadd x' y') := by
  refine ZN.of_dz (fadd_nn h.1 h'.1) ?_
  have e1 := FP.Core.val32_fadd x y
  have e2 := FP.Core.val32_fadd x' y'
  show dz (FP.Core.val32 (FP.Core.fadd x y)) (FP.Core.val32 (FP.Core.fadd x' y'))
  rw [e1, e2]
  refine (sum_dz h h'.1).trans ?_
  rw [FP.Core.exactSum_comm, FP.Core.exactSum_comm (FP.Core.val32 x') (FP.Core.val32 y')]
  exact sum_dz h' h.2.1
theorem fmul_z {x x' y y' : UInt32} (h : ZR x x') (h' : ZR y y') : ZN (FP.fmul x y) (FP.fmul x' y') := by
  refine ZN.of_dz (fmul_nn h.1 h'.1) ?_
  have e1 := FP.Core.val32_fmul x y
  have e2 := FP.Core.val32_fmul x' y'
  show dz (FP.Core.val32 (FP.Core.fmul x y)) (FP.Core.val32 (FP.Core.fmul x' y'))
  rw [e1, e2]
  refine (pro_dz h h'.1).trans ?_
  rw [FP.Core.exactProduct_comm, FP.Core.exactProduct_comm (FP.Core.val32 x') (FP.Core.val32 y')]
  exact pro_dz h' h.2.1
theorem fsub_z {x x' y y' : UInt32} (h : ZR x x') (h' : ZR y y') : ZN (FP.fsub x y) (FP.fsub x' y') := by
  refine ZN.of_dz (fsub_nn h.1 h'.1) ?_
  have e1 := FP.Core.val32_fsub x y
  have e2 := FP.Core.val32_fsub x' y'
  show dz (FP.Core.val32 (FP.Core.fsub x y)) (FP.Core.val32 (FP.Core.fsub x' y'))
  rw [e1, e2]
  obtain ⟨s, c, q, ex⟩ := h.2.1
  obtain ⟨t, d, r, ey⟩ := h'.1
  refine dz.trans (b := FP.Core.round FP.Core.b32 (FP.Core.exactSum (FP.Core.val32 x') (FP.Core.negate (FP.Core.val32 y)))) ?_ ?_
  · rcases h.cases with rfl | ⟨⟨s, e⟩, ⟨s', e'⟩⟩
    · exact Or.inl rfl
    · rw [e, e', ey]
      exact sum_z s s' (!t) d r
  · rcases h'.cases with rfl | ⟨⟨u, e⟩, ⟨u', e'⟩⟩
    · exact Or.inl rfl
    · rw [e, e', ex, FP.Core.exactSum_comm, FP.Core.exactSum_comm (.fin s c q)]
      exact sum_z (!u) (!u') s c q
/-! least and greatest: of the class, of Math -/
def mmC (gr : Bool) (x y : UInt32) : UInt32 := if gr = true then (if FP.fcmp x y = some .lt then y else x) else (if FP.fcmp x y = some .gt then y else x)
theorem mm_z {gr : Bool} {x x' y y' : UInt32} (h : ZR x x') (h' : ZR y y') : ZR (mmC gr x y) (Native.java_lang_Math.nans.pick32 gr x' y') := by
  unfold mmC Native.java_lang_Math.nans.pick32
  rw [h.cmp h']
  have ek := FP.Core.fcmp_key h.2.1.nn h'.2.1.nn
  have ek2 : FP.fcmp x' y' = some (compare (FP.Core.fkey x') (FP.Core.fkey y')) := ek
  rw [ek2]
  cases ec : compare (FP.Core.fkey x') (FP.Core.fkey y') with
  | lt => cases gr <;> simp <;> assumption
  | gt => cases gr <;> simp <;> assumption
  | eq =>
    have e9 : FP.Core.fkey x' = FP.Core.fkey y' := by
      have := FP.Core.compare_eq_iff (FP.Core.fkey x') (FP.Core.fkey y')
      exact this.mp ec
    have hxy : ZR x y' := ⟨h.1, h'.2.1, h.2.2.trans e9⟩
    cases gr <;> simp <;> split <;> assumption
theorem mm_fn {gr : Bool} {x y : UInt32} (h : Fn x) (h' : Fn y) : Fn (Native.java_lang_Math.nans.pick32 gr x y) := (mm_z (gr := gr) (ZR.refl h) (ZR.refl h')).2.1
theorem i2f_fn (a : Int32) : Fn (FP.i2f a) := by
  have e : FP.Core.val32 (FP.i2f a) = FP.Core.round FP.Core.b32 (.fin (decide (a.toInt < 0)) a.toInt.natAbs 0) := FP.Core.val32_i2f a
  rcases rd_cases FP.Core.b32 (decide (a.toInt < 0)) a.toInt.natAbs 0 with ⟨c, q, h⟩ | h
  · exact ⟨_, _, _, e.trans h⟩
  · exfalso
    have h9 := (FP.Core.roundRatio_inf FP.Core.good_b32 (s := decide (a.toInt < 0)) (A := a.toInt.natAbs) (B := 1) (e := 0) (e0 := -150) (by decide) (by decide) (by decide)).mp h
    have hb : a.toInt.natAbs ≤ 2147483648 := by
      have h1 := Int32.toInt_lt a
      have h2 := Int32.le_toInt a
      omega
    have h8 : FP.Core.inUnits a.toInt.natAbs 0 (-150) ≤ 2147483648 * 2 ^ ((0 : Int) - (-150)).toNat := Nat.mul_le_mul_right _ hb
    exact absurd (Nat.le_trans h9 h8) (by decide +kernel)
