/-! ===== the class and the reference side by side ===== -/
def DDx (T : Nat) (I : Nat → Nat → Int32) (N : Nat → Int32) (n : Nat) : Prop := I T 0 = N 1 ∧ I T 1 = nI n ∧ n ≤ 16 ∧ (N 1 = 0 ∨ N 1 = 1) ∧ (∀ a i, a < 3 → i < 16 → I (T + 2 + a) i = elN N a i) ∧ (∀ v, v < 8 → I (T + 5) v = inN N v) ∧ ∀ v, v < 8 → (inN N v).toInt.natAbs ≤ 999
def SGd (S : ST) (E : EX) : Prop := SQ S ∧ enS S E0 = some E ∧ (cat S).length ≤ 100
def TX (I : Nat → Nat → Int32) (len : Nat) : Prop := I 1 1 = nI len ∧ I 125 6 = nI len ∧ len ≤ 100 ∧ (∀ j, j < len → I 2 j = I 129 j) ∧ ∀ j, j < len → ∃ q, q < 65536 ∧ I 129 j = nI q
def CU (I : Nat → Nat → Int32) (E : EX) : Prop := (I 0 11 = -1 ∧ I 125 34 = -1) ∨ ∃ k c, k < 8 ∧ I 0 11 = nI k ∧ I 125 35 = nI k ∧ I 0 12 = nI c ∧ I 125 34 = nI c ∧ c ≤ (E k).length
def RS (I : Nat → Nat → Int32) (F : Nat → Nat → UInt32) : Prop := I 0 13 = I 125 29 ∧ (I 125 29 = -1 ∨ I 125 29 = 0 ∨ I 125 29 = 1) ∧ (I 125 29 = 0 → ∀ v, v < 8 → I 41 v = I 146 v) ∧ (I 125 29 = 1 → ∀ v, v < 8 → ZR (F 62 v) (F 147 v)) ∧ ∀ v, v < 8 → Fn (F 147 v)
def SN (I : Nat → Nat → Int32) (sv : Option Nat) : Prop := (sv = none ∧ I 125 3 = 0) ∨ ∃ b S E n, sv = some b ∧ ¬ I 125 3 = 0 ∧ PB b ∧ SGd S E ∧ CPR I b E S ∧ MSt I 127 S ∧ DDx 17 I (I 127) n ∧ I 127 2 = nI n
def JI (I : Nat → Nat → Int32) (F : Nat → Nat → UInt32) (pr : Nat) (sv : Option Nat) (S : ST) (E : EX) (n len : Nat) : Prop := PB pr ∧ SGd S E ∧ (CPR I pr E S ∧ MSt I 126 S ∧ ME I E) ∧ (DD I (I 126) n ∧ I 126 2 = nI n) ∧ TX I len ∧ I 0 10 = I 125 8 ∧ CU I E ∧ RS I F ∧ SN I sv ∧ okF F
def JM (M : PM) : Prop := ∃ pr sv S E n len, M.2.2.1 = RR pr sv ∧ JI M.1 M.2.1 pr sv S E n len
theorem SN.ok {I : Nat → Nat → Int32} {sv : Option Nat} (h : SN I sv) : SVOK sv := by
  intro c hc
  rcases h with ⟨h, _⟩ | ⟨b, S, E, n, h, _, hb, _⟩
  · rw [h] at hc; cases hc
  · rw [h] at hc; cases hc; exact hb
theorem okF_cg {F F' : Nat → Nat → UInt32} (h : okF F) (g : ∀ a, a ≤ 64 → F' a = F a) : okF F' := ⟨fun t v ht hv => by rw [g _ (by omega)]; exact h.1 t v ht hv, fun j => by rw [g _ (by omega)]; exact h.2 j⟩
def kp (a : Nat) : Prop := (1 ≤ a ∧ a ≤ 2) ∨ (11 ≤ a ∧ a ≤ 22) ∨ a = 41 ∨ (65 ≤ a ∧ a ≤ 124) ∨ a = 126 ∨ a = 127 ∨ a = 129 ∨ a = 137 ∨ a = 138 ∨ a = 146
section
variable {I I' : Nat → Nat → Int32} {F F' : Nat → Nat → UInt32} {pr n len : Nat} {sv : Option Nat} {S : ST} {E : EX} {L : Nat → Nat → Int64} {D : Nat → Nat → UInt64}
theorem MSt_cg {b : Nat} (h : MSt I b S) (g : I' b = I b) : MSt I' b S := by unfold MSt at h ⊢; rw [g]; exact h
theorem ME_cg (h : ME I E) (g7 : I' 137 = I 137) (g8 : I' 138 = I 138) : ME I' E := by unfold ME at h ⊢; rw [g7, g8]; exact h
theorem DDx_cg {T nb : Nat} (h : DDx T I (I nb) n) (g : ∀ a, T ≤ a → a ≤ T + 5 → I' a = I a) (gn : I' nb = I nb) : DDx T I' (I' nb) n := by
  unfold DDx at h ⊢
  rw [gn, g T (by omega) (by omega), g (T + 5) (by omega) (by omega)]
  refine ⟨h.1, h.2.1, h.2.2.1, h.2.2.2.1, fun a i ha hi => ?_, h.2.2.2.2.2⟩
  rw [g (T + 2 + a) (by omega) (by omega)]
  exact h.2.2.2.2.1 a i ha hi
theorem DD_x {N : Nat → Int32} : DD I N n ↔ DDx 11 I N n := Iff.rfl
theorem SN_cg (h : SN I sv) (g5 : I' 125 3 = I 125 3) (g7 : I' 127 = I 127) (gd : ∀ a, 17 ≤ a → a ≤ 22 → I' a = I a) (gp : ∀ b, sv = some b → PB b → ∀ a, b ≤ a → a < b + 20 → I' a = I a) : SN I' sv := by
  rcases h with ⟨h, h3⟩ | ⟨b, S, E, n, h, h3, hb, hg, hC, hS, hD, hn⟩
  · exact Or.inl ⟨h, by rw [g5]; exact h3⟩
  · exact Or.inr ⟨b, S, E, n, h, by rw [g5]; exact h3, hb, hg, CPR_cg hC (gp b h hb), MSt_cg hS g7, DDx_cg hD (fun a h1 h2 => gd a h1 (by omega)) g7, by rw [g7]; exact hn⟩
theorem JI.cg (h : JI I F pr sv S E n len) (ga : ∀ a, kp a → I' a = I a) (g0 : ∀ j, 10 ≤ j → j ≤ 13 → I' 0 j = I 0 j) (g5 : ∀ j, j ∈ [3, 6, 8, 29, 34, 35] → I' 125 j = I 125 j) (f62 : F' 62 = F 62) (f147 : F' 147 = F 147) (hf : okF F') : JI I' F' pr sv S E n len := by
  obtain ⟨hb, hg, ⟨hC, hS, hM⟩, ⟨hD, hn⟩, ht, hfa, hcu, hrs, hsn, _⟩ := h
  have a1 := ga 1 (by unfold kp; omega)
  have a2 := ga 2 (by unfold kp; omega)
  have a41 := ga 41 (by unfold kp; omega)
  have a126 := ga 126 (by unfold kp; omega)
  have a127 := ga 127 (by unfold kp; omega)
  have a129 := ga 129 (by unfold kp; omega)
  have a137 := ga 137 (by unfold kp; omega)
  have a138 := ga 138 (by unfold kp; omega)
  have a146 := ga 146 (by unfold kp; omega)
  have b3 := g5 3 (by decide)
  have b6 := g5 6 (by decide)
  have b8 := g5 8 (by decide)
  have b29 := g5 29 (by decide)
  have b34 := g5 34 (by decide)
  have b35 := g5 35 (by decide)
  have c10 := g0 10 (by omega) (by omega)
  have c11 := g0 11 (by omega) (by omega)
  have c12 := g0 12 (by omega) (by omega)
  have c13 := g0 13 (by omega) (by omega)
  have hpb := pb_lt hb
  refine ⟨hb, hg, ⟨CPR_cg hC (fun a h1 h2 => ga a (by unfold kp; omega)), MSt_cg hS a126, ME_cg hM a137 a138⟩, ⟨DDx_cg (T := 11) (nb := 126) hD (fun a h1 h2 => ga a (by unfold kp; omega)) a126, by rw [a126]; exact hn⟩, ?_, by rw [c10, b8]; exact hfa, ?_, ?_, SN_cg hsn b3 a127 (fun a h1 h2 => ga a (by unfold kp; omega)) (fun b e hb9 a h1 h2 => by have := pb_lt hb9; exact ga a (by unfold kp; omega)), hf⟩
  · unfold TX at ht ⊢
    rw [a1, a2, a129, b6]; exact ht
  · unfold CU at hcu ⊢
    rw [c11, c12, b34, b35]; exact hcu
  · unfold RS at hrs ⊢
    rw [c13, a41, a146, b29, f62, f147]; exact hrs
theorem JI.th {x : Int32} (h : JI I F pr sv S E n len) : JI (u2 I 125 0 x) F pr sv S E n len :=
  h.cg (fun a ha => u2_ne _ _ _ (by unfold kp at ha; omega)) (fun j _ _ => by rw [u2_ne _ _ _ (by decide)]) (fun j hj => by simp only [u2_ap, if_true]; rw [if_neg (by intro e; subst e; revert hj; decide)]) rfl rfl h.2.2.2.2.2.2.2.2.2
theorem JI.jm (h : JI I F pr sv S E n len) : JM (I, F, RR pr sv, L, D) := ⟨pr, sv, S, E, n, len, rfl, h⟩
theorem th_0 {x : Int32} : u2 I 125 0 x 125 0 = x := by simp [u2]
theorem rng8 {k : Nat} (hk : k < 8) : (0 : Int32) ≤ nI k ∧ nI k ≤ 7 := ⟨nI_pos' (by omega), nI_le (a := k) (b := 7) (by omega) (by omega)⟩
end
/-! what the law finds of a call -/
def AQi (k : Int32) : PO := fun o n M => n = 150 ∧ ∃ x, o = .inl (some (.int x)) ∧ M.1 125 0 = k ∧ (k = 0 → M.2.2.2.1 148 0 = x.toInt64) ∧ JM M
def AQz (k : Int32) : PO := fun o n M => n = 150 ∧ ∃ x, o = .inl (some (.int x)) ∧ M.1 125 0 = k ∧ (k = 0 → M.2.2.2.1 148 0 = if x = 0 then 0 else 1) ∧ JM M
def AQf (k : Int32) : PO := fun o n M => n = 150 ∧ ∃ x, o = .inl (some (.float x)) ∧ M.1 125 0 = k ∧ (k = 0 → ∃ v, M.2.2.2.2 149 0 = FP.f2d v ∧ ZR v x) ∧ JM M
def AQd (k : Int32) : PO := fun o n M => n = 150 ∧ ∃ x, o = .inl (some (.double x)) ∧ M.1 125 0 = k ∧ (k = 0 → M.2.2.2.2 149 0 = x) ∧ JM M
def AQv (k : Int32) : PO := fun o n M => n = 150 ∧ o = .inl none ∧ M.1 125 0 = k ∧ JM M
def AF (Q : Int32 → PO) (y : MethodName) (cw : Cond) (av : List Value) : PO := fun o n M => n = 150 ∧ ∃ k, o = .inl (some (.int k)) ∧ CallOK 2000 0 0 y cw av 150 M (Q k)
