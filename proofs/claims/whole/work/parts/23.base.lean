/-! ===== numbers, expressions as rows of codes, the parser as a function ===== -/
theorem vin_nI {n N : Nat} (h : n < 2 ^ 31) : vp_in (nI n) N ↔ n < N := by
  unfold vp_in
  rw [nI_clamp h]
  have := nI_pos h
  simp [this]
theorem nI_rng {c : Int32} {a b : Nat} (hb : b < 2 ^ 31) (ha : a < 2 ^ 31) (h1 : nI a ≤ c) (h2 : c ≤ nI b) : ∃ k, k ≤ b ∧ a ≤ k ∧ c = nI k := by
  obtain ⟨k, hk, rfl⟩ := nI_of2 (nI_toInt hb) (Int32.not_lt.mpr (Int32.le_trans (nI_pos' ha) h1)) h2
  exact ⟨k, hk, (nI_leI ha (by omega)).mp h1, rfl⟩
def leafc (c : Int32) : Prop := (∃ k, k < 100 ∧ c = nI k) ∨ (∃ k, k < 8 ∧ c = nI (100 + k)) ∨ (∃ k, k < 3 ∧ c = nI (200 + k))
def pairc (c : Int32) : Prop := ∃ k, k < 8 ∧ c = nI (300 + k)
def IsE (L : List Int32) : Prop := ∀ Q : List Int32 → Prop, (∀ c, leafc c → Q [c]) → (∀ c A B, pairc c → Q A → Q B → Q (c :: (A ++ B))) → (∀ A B C, Q A → Q B → Q C → Q (308 :: (A ++ (B ++ C)))) → Q L
theorem isE_leaf {c : Int32} (h : leafc c) : IsE [c] := fun _ h1 _ _ => h1 c h
theorem isE_pair {c : Int32} {A B : List Int32} (h : pairc c) (hA : IsE A) (hB : IsE B) : IsE (c :: (A ++ B)) := fun Q h1 h2 h3 => h2 c A B h (hA Q h1 h2 h3) (hB Q h1 h2 h3)
theorem isE_ch {A B C : List Int32} (hA : IsE A) (hB : IsE B) (hC : IsE C) : IsE (308 :: (A ++ (B ++ C))) := fun Q h1 h2 h3 => h3 A B C (hA Q h1 h2 h3) (hB Q h1 h2 h3) (hC Q h1 h2 h3)
theorem IsE.ind {L : List Int32} (h : IsE L) (Q : List Int32 → Prop) (h1 : ∀ c, leafc c → Q [c]) (h2 : ∀ c A B, pairc c → IsE A → IsE B → Q A → Q B → Q (c :: (A ++ B))) (h3 : ∀ A B C, IsE A → IsE B → IsE C → Q A → Q B → Q C → Q (308 :: (A ++ (B ++ C)))) : Q L :=
  (h (fun L => IsE L ∧ Q L) (fun c hc => ⟨isE_leaf hc, h1 c hc⟩) (fun c A B hc hA hB => ⟨isE_pair hc hA.1 hB.1, h2 c A B hc hA.1 hB.1 hA.2 hB.2⟩) (fun A B C hA hB hC => ⟨isE_ch hA.1 hB.1 hC.1, h3 A B C hA.1 hB.1 hC.1 hA.2 hB.2 hC.2⟩)).2
theorem IsE.pos {L : List Int32} (h : IsE L) : 0 < L.length := h.ind (fun L => 0 < L.length) (fun _ _ => by simp) (fun _ _ _ _ _ _ _ _ => by simp) (fun _ _ _ _ _ _ _ _ _ => by simp)
/-! the parser -/
abbrev PR : Type := Bool × Nat × List Int32
abbrev dgt (c : Int32) : Prop := 48 ≤ c ∧ c ≤ 57
abbrev isv (c : Int32) : Prop := 115 ≤ c ∧ c ≤ 122
def opc (c : Int32) : Int32 := if c = 38 then 302 else if c = 124 then 303 else if c = 94 then 304 else if c = 43 then 300 else if c = 45 then 307 else if c = 42 then 301 else -1
def lvc (c : Int32) : Nat := if c = 38 ∨ c = 124 ∨ c = 94 then 0 else if c = 43 ∨ c = 45 then 1 else if c = 42 then 2 else 3
def tkk (ch : Nat → Int32) (c : Int32) (ok : Bool) (p : Nat) : Bool × Nat := if ok = true ∧ ch p = c then (true, p + 1) else (false, p)
def thn (ok : Bool) (p : Nat) (f : Nat → PR) : PR := if ok = true then f p else (false, p, [])
def pfun (ch : Nat → Int32) (rec : Nat → PR) (ok : Bool) (k : Int32) (p : Nat) : PR :=
  let r1 := tkk ch 40 ok p
  let r2 := thn r1.1 r1.2 rec
  let r3 := tkk ch 44 r2.1 r2.2.1
  let r4 := thn r3.1 r3.2 rec
  if k = 308 then
    let r5 := tkk ch 44 r4.1 r4.2.1
    let r6 := thn r5.1 r5.2 rec
    let r7 := tkk ch 41 r6.1 r6.2.1
    (r7.1, r7.2, k :: (r2.2.2 ++ (r4.2.2 ++ r6.2.2)))
  else
    let r7 := tkk ch 41 r4.1 r4.2.1
    (r7.1, r7.2, k :: (r2.2.2 ++ r4.2.2))
def pnum (ch : Nat → Int32) (pos : Nat) : PR := if 48 < ch pos ∧ dgt (ch (pos + 1)) then (true, pos + 2, [10 * (ch pos - 48) + ch (pos + 1) - 48]) else (true, pos + 1, [ch pos - 48])
def pelm (ch : Nat → Int32) (pos : Nat) : PR :=
  let r1 := tkk ch 91 true (pos + 1)
  let r2 := tkk ch 105 r1.1 r1.2
  let r3 := tkk ch 93 r2.1 r2.2
  (r3.1, r3.2, [200 + ch pos - 97])
def pmm (ch : Nat → Int32) (rec : Nat → PR) (ok : Bool) (pos : Nat) : PR :=
  if ch (pos + 1) = 105 then (if ch (pos + 2) = 110 then pfun ch rec ok 305 (pos + 3) else (false, pos + 2, []))
  else if ch (pos + 1) = 97 then (if ch (pos + 2) = 120 then pfun ch rec ok 306 (pos + 3) else (false, pos + 2, [])) else (false, pos + 1, [])
def ppar (ch : Nat → Int32) (rec : Nat → PR) (ok : Bool) (pos : Nat) : PR :=
  let r1 := tkk ch 40 ok pos
  let r2 := thn r1.1 r1.2 rec
  let r3 := tkk ch 41 r2.1 r2.2.1
  (r3.1, r3.2, r2.2.2)
def pfac (ch : Nat → Int32) (rec : Nat → PR) (ok : Bool) (pos : Nat) : PR :=
  if dgt (ch pos) then pnum ch pos
  else if isv (ch pos) then (true, pos + 1, [100 + ch pos - 115])
  else if 97 ≤ ch pos ∧ ch pos ≤ 99 then pelm ch pos
  else if ch pos = 109 then pmm ch rec ok pos
  else if ch pos = 105 then (if ch (pos + 1) = 102 then pfun ch rec ok 308 (pos + 2) else (false, pos + 1, []))
  else ppar ch rec ok pos
def ploop (ch : Nat → Int32) (lev : Nat) (rec : Nat → PR) : Nat → Nat → List Int32 → PR
  | 0, p, _ => (false, p, [])
  | k + 1, p, L => if lvc (ch p) = lev then (if (rec (p + 1)).1 = true then ploop ch lev rec k (rec (p + 1)).2.1 (opc (ch p) :: (L ++ (rec (p + 1)).2.2)) else (false, (rec (p + 1)).2.1, [])) else (true, p, L)
def plev (ch : Nat → Int32) (lev : Nat) (rec : Nat → PR) (pos : Nat) : PR := if (rec pos).1 = true then ploop ch lev rec 101 (rec pos).2.1 (rec pos).2.2 else (false, (rec pos).2.1, [])
def pp (ch : Nat → Int32) : Nat → Nat → PR
  | 0, pos => pfac ch (fun p => (false, p, [])) false pos
  | n + 1, pos => if (n + 1) % 4 = 0 then pfac ch (pp ch n) true pos else plev ch (3 - (n + 1) % 4) (pp ch n) pos
/-! what the parser's results are like -/
def chz (ch : Nat → Int32) (len : Nat) : Prop := ∀ p, len ≤ p → ch p = 0
theorem chz_lt {ch : Nat → Int32} {len p : Nat} (h : chz ch len) (hc : ch p ≠ 0) : p < len := Nat.lt_of_not_le fun h9 => hc (h p h9)
def PS (len pos : Nat) (r : PR) : Prop := pos ≤ r.2.1 ∧ r.2.1 ≤ len ∧ (r.1 = true → pos < r.2.1 ∧ r.2.2.length + pos ≤ r.2.1 ∧ IsE r.2.2)
theorem tkk_bd {ch : Nat → Int32} {len : Nat} (hz : chz ch len) {c : Int32} (hc : c ≠ 0) {ok : Bool} {p : Nat} (hp : p ≤ len) : p ≤ (tkk ch c ok p).2 ∧ (tkk ch c ok p).2 ≤ len ∧ ((tkk ch c ok p).1 = true → ok = true ∧ (tkk ch c ok p).2 = p + 1) := by
  unfold tkk
  split
  · next h => exact ⟨by simp, by have := chz_lt hz (p := p) (by rw [h.2]; exact hc); simp; omega, fun _ => ⟨h.1, rfl⟩⟩
  · exact ⟨Nat.le_refl _, hp, fun h => by cases h⟩
theorem thn_bd {len : Nat} {rec : Nat → PR} (hr : ∀ p, p ≤ len → PS len p (rec p)) {ok : Bool} {p : Nat} (hp : p ≤ len) : p ≤ (thn ok p rec).2.1 ∧ (thn ok p rec).2.1 ≤ len ∧ ((thn ok p rec).1 = true → ok = true ∧ (thn ok p rec).2.2.length + p ≤ (thn ok p rec).2.1 ∧ IsE (thn ok p rec).2.2) := by
  unfold thn
  split
  · next h => exact ⟨(hr p hp).1, (hr p hp).2.1, fun h9 => ⟨h, ((hr p hp).2.2 h9).2⟩⟩
  · exact ⟨Nat.le_refl _, hp, fun h => by cases h⟩
theorem pfun_ps {ch : Nat → Int32} {len : Nat} (hz : chz ch len) {rec : Nat → PR} (hr : ∀ p, p ≤ len → PS len p (rec p)) {ok : Bool} {k : Int32} (hk : pairc k ∨ k = 308) {p : Nat} (hp : p ≤ len) : p ≤ (pfun ch rec ok k p).2.1 ∧ (pfun ch rec ok k p).2.1 ≤ len ∧ ((pfun ch rec ok k p).1 = true → (pfun ch rec ok k p).2.2.length + p ≤ (pfun ch rec ok k p).2.1 ∧ IsE (pfun ch rec ok k p).2.2) := by
  have a1 := tkk_bd hz (c := 40) (by decide) (ok := ok) hp
  have a2 := thn_bd hr (ok := (tkk ch 40 ok p).1) a1.2.1
  have a3 := tkk_bd hz (c := 44) (by decide) (ok := (thn (tkk ch 40 ok p).1 (tkk ch 40 ok p).2 rec).1) a2.2.1
  have a4 := thn_bd hr (ok := (tkk ch 44 (thn (tkk ch 40 ok p).1 (tkk ch 40 ok p).2 rec).1 (thn (tkk ch 40 ok p).1 (tkk ch 40 ok p).2 rec).2.1).1) a3.2.1
  unfold pfun
  simp only
  generalize tkk ch 40 ok p = r1 at *
  generalize thn r1.1 r1.2 rec = r2 at *
  generalize tkk ch 44 r2.1 r2.2.1 = r3 at *
  generalize thn r3.1 r3.2 rec = r4 at *
  split
  · next h8 =>
    have a5 := tkk_bd hz (c := 44) (by decide) (ok := r4.1) a4.2.1
    generalize tkk ch 44 r4.1 r4.2.1 = r5 at *
    have a6 := thn_bd hr (ok := r5.1) a5.2.1
    generalize thn r5.1 r5.2 rec = r6 at *
    have a7 := tkk_bd hz (c := 41) (by decide) (ok := r6.1) a6.2.1
    generalize tkk ch 41 r6.1 r6.2.1 = r7 at *
    refine ⟨by simp only; omega, a7.2.1, fun h => ?_⟩
    obtain ⟨b6, c7⟩ := a7.2.2 h
    obtain ⟨b5, c6, e6⟩ := a6.2.2 b6
    obtain ⟨b4, c5⟩ := a5.2.2 b5
    obtain ⟨b3, c4, e4⟩ := a4.2.2 b4
    obtain ⟨b2, c3⟩ := a3.2.2 b3
    obtain ⟨b1, c2, e2⟩ := a2.2.2 b2
    obtain ⟨b0, c1⟩ := a1.2.2 b1
    refine ⟨by simp only [List.length_cons, List.length_append]; omega, ?_⟩
    rw [h8]
    exact isE_ch e2 e4 e6
  · next h8 =>
    have a7 := tkk_bd hz (c := 41) (by decide) (ok := r4.1) a4.2.1
    generalize tkk ch 41 r4.1 r4.2.1 = r7 at *
    refine ⟨by simp only; omega, a7.2.1, fun h => ?_⟩
    obtain ⟨b4, c7⟩ := a7.2.2 h
    obtain ⟨b3, c4, e4⟩ := a4.2.2 b4
    obtain ⟨b2, c3⟩ := a3.2.2 b3
    obtain ⟨b1, c2, e2⟩ := a2.2.2 b2
    obtain ⟨b0, c1⟩ := a1.2.2 b1
    refine ⟨by simp only [List.length_cons, List.length_append]; omega, ?_⟩
    exact isE_pair (hk.resolve_right h8) e2 e4
theorem dgt_nI {c : Int32} (h : dgt c) : ∃ k, k < 10 ∧ c = nI (48 + k) := by
  obtain ⟨k, h1, h2, rfl⟩ := nI_rng (c := c) (a := 48) (b := 57) (by decide) (by decide) h.1 h.2
  exact ⟨k - 48, by omega, congrArg nI (by omega)⟩
theorem isv_nI {c : Int32} (h : isv c) : ∃ k, k < 8 ∧ c = nI (115 + k) := by
  obtain ⟨k, h1, h2, rfl⟩ := nI_rng (c := c) (a := 115) (b := 122) (by decide) (by decide) h.1 h.2
  exact ⟨k - 115, by omega, congrArg nI (by omega)⟩
theorem elm_nI {c : Int32} (h : 97 ≤ c ∧ c ≤ 99) : ∃ k, k < 3 ∧ c = nI (97 + k) := by
  obtain ⟨k, h1, h2, rfl⟩ := nI_rng (c := c) (a := 97) (b := 99) (by decide) (by decide) h.1 h.2
  exact ⟨k - 97, by omega, congrArg nI (by omega)⟩
theorem nz_of_nI {c : Int32} {k : Nat} (h : c = nI k) (h0 : 0 < k) (h1 : k < 2 ^ 31) : c ≠ 0 := by rw [h]; exact nI_ne0 h0 h1
theorem num_leaf {k : Nat} (h : k < 10) : leafc (nI (48 + k) - 48) := by
  refine Or.inl ⟨k, by omega, ?_⟩
  rw [show (48 : Int32) = nI 48 from rfl, pk_sub (by omega)]
  exact congrArg nI (by omega)
theorem num2_leaf {k j : Nat} (h : k < 10) (hj : j < 10) : leafc (10 * (nI (48 + k) - 48) + nI (48 + j) - 48) := by
  refine Or.inl ⟨10 * k + j, by omega, ?_⟩
  rw [show (48 : Int32) = nI 48 from rfl, show (10 : Int32) = nI 10 from rfl, pk_sub (by omega), pk_mul, nI_add, pk_sub (by omega)]
  exact congrArg nI (by omega)
theorem var_leaf {k : Nat} (h : k < 8) : leafc (100 + nI (115 + k) - 115) := by
  refine Or.inr (Or.inl ⟨k, h, ?_⟩)
  rw [show (100 : Int32) = nI 100 from rfl, show (115 : Int32) = nI 115 from rfl, nI_add, pk_sub (by omega)]
  exact congrArg nI (by omega)
theorem elm_leaf {k : Nat} (h : k < 3) : leafc (200 + nI (97 + k) - 97) := by
  refine Or.inr (Or.inr ⟨k, h, ?_⟩)
  rw [show (200 : Int32) = nI 200 from rfl, show (97 : Int32) = nI 97 from rfl, nI_add, pk_sub (by omega)]
  exact congrArg nI (by omega)
theorem pair_305 : pairc 305 := ⟨5, by omega, rfl⟩
theorem pair_306 : pairc 306 := ⟨6, by omega, rfl⟩
theorem pfac_ps {ch : Nat → Int32} {len : Nat} (hz : chz ch len) {rec : Nat → PR} (hr : ∀ p, p ≤ len → PS len p (rec p)) {ok : Bool} {pos : Nat} (hp : pos ≤ len) : PS len pos (pfac ch rec ok pos) := by
  unfold pfac
  split
  · next h1 =>
    obtain ⟨k, hk, e⟩ := dgt_nI h1
    have l1 := chz_lt hz (nz_of_nI e (by omega) (by omega))
    unfold pnum
    split
    · next h2 =>
      obtain ⟨j, hj, e2⟩ := dgt_nI h2.2
      have l2 := chz_lt hz (nz_of_nI e2 (by omega) (by omega))
      exact ⟨by simp, by simp only; omega, fun _ => ⟨by simp, by simp; omega, by rw [e, e2]; exact isE_leaf (num2_leaf hk hj)⟩⟩
    · exact ⟨by simp, by simp only; omega, fun _ => ⟨by simp, by simp; omega, by rw [e]; exact isE_leaf (num_leaf hk)⟩⟩
  · split
    · next h1 =>
      obtain ⟨k, hk, e⟩ := isv_nI h1
      have l1 := chz_lt hz (nz_of_nI e (by omega) (by omega))
      exact ⟨by simp, by simp only; omega, fun _ => ⟨by simp, by simp; omega, by rw [e]; exact isE_leaf (var_leaf hk)⟩⟩
    · split
      · next h1 =>
        obtain ⟨k, hk, e⟩ := elm_nI h1
        have l1 := chz_lt hz (nz_of_nI e (by omega) (by omega))
        unfold pelm
        simp only
        have a1 := tkk_bd hz (c := 91) (by decide) (ok := true) (p := pos + 1) (by omega)
        generalize tkk ch 91 true (pos + 1) = r1 at *
        have a2 := tkk_bd hz (c := 105) (by decide) (ok := r1.1) a1.2.1
        generalize tkk ch 105 r1.1 r1.2 = r2 at *
        have a3 := tkk_bd hz (c := 93) (by decide) (ok := r2.1) a2.2.1
        generalize tkk ch 93 r2.1 r2.2 = r3 at *
        exact ⟨by simp only; omega, a3.2.1, fun _ => ⟨by simp only; omega, by simp; omega, by rw [e]; exact isE_leaf (elm_leaf hk)⟩⟩
      · split
        · next h1 =>
          have l1 := chz_lt hz (p := pos) (by rw [h1]; decide)
          unfold pmm
          split
          · next h2 =>
            have l2 := chz_lt hz (p := pos + 1) (by rw [h2]; decide)
            split
            · next h3 =>
              have l3 := chz_lt hz (p := pos + 2) (by rw [h3]; decide)
              have := pfun_ps hz hr (ok := ok) (k := 305) (Or.inl pair_305) (p := pos + 3) (by omega)
              exact ⟨by omega, this.2.1, fun h => ⟨by omega, by have := (this.2.2 h).1; omega, (this.2.2 h).2⟩⟩
            · exact ⟨by simp, by simp only; omega, fun h => by cases h⟩
          · split
            · next h2 =>
              have l2 := chz_lt hz (p := pos + 1) (by rw [h2]; decide)
              split
              · next h3 =>
                have l3 := chz_lt hz (p := pos + 2) (by rw [h3]; decide)
                have := pfun_ps hz hr (ok := ok) (k := 306) (Or.inl pair_306) (p := pos + 3) (by omega)
                exact ⟨by omega, this.2.1, fun h => ⟨by omega, by have := (this.2.2 h).1; omega, (this.2.2 h).2⟩⟩
              · exact ⟨by simp, by simp only; omega, fun h => by cases h⟩
            · exact ⟨by simp, by simp only; omega, fun h => by cases h⟩
        · split
          · next h1 =>
            have l1 := chz_lt hz (p := pos) (by rw [h1]; decide)
            split
            · next h2 =>
              have l2 := chz_lt hz (p := pos + 1) (by rw [h2]; decide)
              have := pfun_ps hz hr (ok := ok) (k := 308) (Or.inr rfl) (p := pos + 2) (by omega)
              exact ⟨by omega, this.2.1, fun h => ⟨by omega, by have := (this.2.2 h).1; omega, (this.2.2 h).2⟩⟩
            · exact ⟨by simp, by simp only; omega, fun h => by cases h⟩
          · unfold ppar
            simp only
            have a1 := tkk_bd hz (c := 40) (by decide) (ok := ok) hp
            generalize tkk ch 40 ok pos = r1 at *
            have a2 := thn_bd hr (ok := r1.1) a1.2.1
            generalize thn r1.1 r1.2 rec = r2 at *
            have a3 := tkk_bd hz (c := 41) (by decide) (ok := r2.1) a2.2.1
            generalize tkk ch 41 r2.1 r2.2.1 = r3 at *
            refine ⟨by simp only; omega, a3.2.1, fun h => ?_⟩
            obtain ⟨b2, c3⟩ := a3.2.2 h
            obtain ⟨b1, c2, e2⟩ := a2.2.2 b2
            obtain ⟨b0, c1⟩ := a1.2.2 b1
            exact ⟨by simp only; omega, by simp only; omega, e2⟩
theorem lvc_op {c : Int32} {lev : Nat} (h : lvc c = lev) (hl : lev < 3) : pairc (opc c) ∧ c ≠ 0 := by
  unfold lvc at h
  unfold opc
  by_cases h1 : c = 38
  · subst h1; exact ⟨⟨2, by omega, rfl⟩, by decide⟩
  by_cases h2 : c = 124
  · subst h2; exact ⟨⟨3, by omega, rfl⟩, by decide⟩
  by_cases h3 : c = 94
  · subst h3; exact ⟨⟨4, by omega, rfl⟩, by decide⟩
  by_cases h4 : c = 43
  · subst h4; exact ⟨⟨0, by omega, rfl⟩, by decide⟩
  by_cases h5 : c = 45
  · subst h5; exact ⟨⟨7, by omega, rfl⟩, by decide⟩
  by_cases h6 : c = 42
  · subst h6; exact ⟨⟨1, by omega, rfl⟩, by decide⟩
  simp [h1, h2, h3, h4, h5, h6] at h
  omega
theorem ploop_ps {ch : Nat → Int32} {len : Nat} (hz : chz ch len) {rec : Nat → PR} (hr : ∀ p, p ≤ len → PS len p (rec p)) {lev : Nat} (hl : lev < 3) {pos : Nat} : ∀ (k p : Nat) (L : List Int32), pos < p → p ≤ len → L.length + pos ≤ p → IsE L → PS len pos (ploop ch lev rec k p L)
  | 0, p, L, h1, h2, h3, h4 => ⟨Nat.le_of_lt h1, h2, fun h => by cases h⟩
  | k + 1, p, L, h1, h2, h3, h4 => by
    unfold ploop
    split
    · next h5 =>
      obtain ⟨o1, o2⟩ := lvc_op h5 hl
      have l1 := chz_lt hz o2
      have q := hr (p + 1) (by omega)
      split
      · next h6 =>
        have q3 := q.2.2 h6
        exact ploop_ps hz hr hl k _ _ (by omega) q.2.1 (by simp only [List.length_cons, List.length_append]; omega) (isE_pair o1 h4 q3.2.2)
      · exact ⟨by have := q.1; simp only; omega, q.2.1, fun h => by cases h⟩
    · exact ⟨Nat.le_of_lt h1, h2, fun _ => ⟨h1, h3, h4⟩⟩
theorem plev_ps {ch : Nat → Int32} {len : Nat} (hz : chz ch len) {rec : Nat → PR} (hr : ∀ p, p ≤ len → PS len p (rec p)) {lev : Nat} (hl : lev < 3) {pos : Nat} (hp : pos ≤ len) : PS len pos (plev ch lev rec pos) := by
  unfold plev
  have q := hr pos hp
  split
  · next h =>
    have q3 := q.2.2 h
    exact ploop_ps hz hr hl 101 _ _ q3.1 q.2.1 q3.2.1 q3.2.2
  · exact ⟨q.1, q.2.1, fun h => by cases h⟩
theorem pp_ps {ch : Nat → Int32} {len : Nat} (hz : chz ch len) : ∀ (n pos : Nat), pos ≤ len → PS len pos (pp ch n pos)
  | 0, pos, hp => by
    unfold pp
    exact pfac_ps hz (fun p h => ⟨Nat.le_refl _, h, fun h => by cases h⟩) hp
  | n + 1, pos, hp => by
    unfold pp
    split
    · exact pfac_ps hz (pp_ps hz n) hp
    · exact plev_ps hz (pp_ps hz n) (by omega) hp
