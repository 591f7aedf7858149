/-! ===== a method out of its table of operations ===== -/
def lk : List (Nat × OP) → Nat → OP
  | [], _ => fun _ _ _ _ _ => False
  | (q, o) :: t, pc => bif Nat.beq q pc then o else lk t pc
def wpN (T : List (Nat × OP)) (stops : Nat → Bool) : Nat → KT → KT
  | 0, K => K
  | k + 1, K => fun pc lv st nn M => bif stops pc then K pc lv st nn M else lk T pc (wpN T stops k K) lv st nn M
theorem lk_snd {J : KT} {T : List (Nat × OP)} (h : ∀ q ∈ T, Snd J q.1 q.2) : ∀ pc, Snd J pc (lk T pc) := by
  intro pc
  induction T with
  | nil => intro K lv st nn M _ h9; exact h9.elim
  | cons q t ih =>
    obtain ⟨a, o⟩ := q
    unfold lk
    cases hq : Nat.beq a pc with
    | true =>
      have : a = pc := Nat.eq_of_beq_eq_true hq
      subst this
      exact h (a, o) List.mem_cons_self
    | false => exact ih (fun q hq9 => h q (List.mem_cons_of_mem _ hq9))
theorem wpN_snd {J : KT} {T : List (Nat × OP)} {stops : Nat → Bool} (h : ∀ q ∈ T, Snd J q.1 q.2) : ∀ (k : Nat) (pc : Nat) (lv : LV) (st : List Value) (nn : NN) (M : PM), wpN T stops k J pc lv st nn M → J pc lv st nn M := by
  intro k
  induction k with
  | zero => intro pc lv st nn M h9; exact h9
  | succ k ih =>
    intro pc lv st nn M h9
    unfold wpN at h9
    cases hs : stops pc with
    | true => rw [hs] at h9; exact h9
    | false =>
      rw [hs] at h9
      exact lk_snd h pc _ lv st nn M ih h9
def entA : Nat → List Value → LV
  | _, [] => fun _ => none
  | i, v :: vs => fun j => if j = i then some v else entA (if v.category = 2 then i + 2 else i + 1) vs j
theorem entA_args (ad : Nat → Nat) : ∀ (vs : List Value) (i j : Nat) (v : Value), entA i vs j = some v → (j, trV ad v) ∈ lv_args i (vs.map (trV ad))
  | [], _, _, _, h => by cases h
  | w :: vs, i, j, v, h => by
    unfold entA at h
    by_cases hj : j = i
    · rw [if_pos hj] at h
      cases h
      subst hj
      exact List.mem_cons_self
    · rw [if_neg hj] at h
      have h9 := entA_args ad vs _ j v h
      rw [List.map_cons]
      unfold lv_args
      rw [trV_cat]
      exact List.mem_cons_of_mem _ h9
def wid (vs : List Value) : Nat := (vs.map (fun v => v.category)).sum
theorem lg_sl_len (ad : Nat → Nat) : ∀ (vs : List Value), (lg_sl (vs.map (trV ad))).length = wid vs
  | [] => rfl
  | v :: vs => by
    have ih := lg_sl_len ad vs
    unfold lg_sl wid at ih ⊢
    rw [List.map_cons, List.flatMap_cons, List.length_append, ih, List.map_cons, List.sum_cons, trV_cat]
    rcases lv_cat v with h | h <;> rw [h] <;> simp
theorem call_intro {y : MethodName} {cc : ByteArray} {nL d mc ms n : Nat} {ret : Option FieldType} {own : String} {av : List Value} {M : PM} {P : PO} {T : List (Nat × OP)} (hy : plainName y.cls = true) (ho : y.cls = own) (hw : wid av ≤ nL)
    (hT : ∀ (p : Program) (l : Launch) (e : Env) (s : State) (m : MethodId) (args : Array Value) (below : List Frame) (meth : Method) (c : Code) (D : va_G) (cA : Nat → ClassId) (ad0 : Nat → Nat) (sz : Nat), FM p l s m args meth c D cA nL ad0 n sz cc own ret [] y.name → ∀ q ∈ T, Snd (jM p l e s m args below meth c D cA nL ad0 n sz d mc ms P) q.1 q.2)
    (hb : ∀ J : KT, (∀ (k : Nat) (stops : Nat → Bool) (pc : Nat) (lv : LV) (st : List Value) (nn : NN) (M : PM), lk T pc (wpN T stops k J) lv st nn M → J pc lv st nn M) → J 0 (entA 0 av) [] (n, 0, 0) M) :
    CallOK d mc ms y (Cond.code y cc nL ret) av n M P := by
  intro l hl D cA ad sz
  refine ⟨d, Nat.le_refl d, vx_ofW (cc := cc) (maxL := nL) (ret := ret) hy rfl (fun p e s m args below meth c s₁ B hml htb hv => ?_)⟩
  obtain ⟨rfl, hsz, hn, hP, hD, hK, ham⟩ := hv
  subst hsz
  have hts := atoms_spec (ws := Cond.code y cc nL ret :: PWS) B.pre
  have hown : s.vm.findClass own = some m.cls := by rw [← ho]; exact findClass_of_methodNamed B.named
  have hM : FM p l s m (av.map (trV ad)).toArray meth c D cA nL ad n s.heap.size cc own ret [] y.name := ⟨⟨B.exec, B.bytes, hml, hown, fun w h => hts w (List.mem_cons_of_mem _ h), hK, fun q h => Or.inr h, B.notSynchronized⟩, hl, ham, rfl, B.returns, by
    cases h9 : c.exceptionTable.toList with
    | nil => rfl
    | cons x t => exact (htb x (by rw [h9]; exact List.mem_cons_self)).elim, (name_of_methodNamed B.named B.method).1⟩
  have hsn := hT p l e s m (av.map (trV ad)).toArray below meth c D cA ad s.heap.size hM
  have hJ := hb (jM p l e s m (av.map (trV ad)).toArray below meth c D cA nL ad n s.heap.size d mc ms P) (fun k stops pc lv st nn M h => lk_snd hsn pc _ lv st nn M (fun pc lv st nn M h9 => wpN_snd hsn k pc lv st nn M h9) h)
  rw [lg_entry_eq]
  have hle := lv_entry (av.map (trV ad)) (n := nL) (by rw [lg_sl_len]; exact hw)
  refine hJ ad s.heap [] _ hP ⟨hD.1, fun k q hk => ?_⟩ va_S.rf (lvok_sub hle (fun j v hv => ?_)) ⟨fun _ _ => rfl, Nat.le_refl _, hn, fun _ => rfl⟩
  · by_cases hkn : k < n
    · rw [pw_get hkn] at hk
      cases hk
      exact Or.inl ⟨k, hkn, rfl⟩
    · rw [List.getElem?_eq_none (by simp [pw]; omega)] at hk
      cases hk
  · have h9 := entA_args ad av 0 j v hv
    refine ⟨?_, h9⟩
    have h8 := hle.2.2 _ h9
    have h7 := (Array.getElem?_eq_some_iff.mp h8).1
    rw [hle.1] at h7
    exact h7
section THROW
variable {p : Program} {l : Launch} {e : Env} {s : State} {m : MethodId} {args : Array Value} {below : List Frame} {meth : Method} {c : Code} {D : va_G} {cA : Nat → ClassId} {nL : Nat} {ad0 : Nat → Nat} {n0 sz d mc ms : Nat} {P : PO} {ret0 : Option FieldType} {cc : ByteArray} {nm : String} {pc : Nat}
def oThrow (mc ms : Nat) (P : PO) (k : Nat) : OP := fun _ _ st nn M => ((st.map (fun v => v.category)).sum ≤ 8 ∧ nn.2.1 + 1 ≤ mc ∧ nn.2.2 + 6 ≤ ms) ∧ P (.inr k) nn.1 M
def rtx : List String := ["java/lang/RuntimeException", "java/lang/Exception"]
def ThrOK (k ik ic : Nat) : Prop := Bundle.fit (exN k) = true ∧ Cond.classLink RX9 ik (exN k) ∈ PWS ∧ Cond.initialized (exN k) ∈ PWS ∧ (∀ w ∈ vx_atS RX9 ic (exN k) rtx, w ∈ PWS) ∧ (∀ w ∈ Cond.classLink RX9 ik (exN k) :: Cond.initialized (exN k) :: vx_atS RX9 ic (exN k) rtx, vx_ot w = true)
theorem snd_throw (hM : FM p l s m args meth c D cA nL ad0 n0 sz cc RX9 ret0 [] nm) {k ik is ic : Nat} {text : String} (hd : 6 ≤ d) (hT : ThrOK k ik ic) (hst9 : (is, text) ∈ STRS)
    (d0 : decode cc pc = .ok (.new ik, 3)) (d3 : decode cc (pc + 3) = .ok (.dup, 1)) (d4 : decode cc (pc + 4) = .ok (.ldc is, 2)) (d6 : decode cc (pc + 6) = .ok (.invokespecial ic, 3)) (d9 : decode cc (pc + 9) = .ok (.athrow, 1)) :
    Snd (jM p l e s m args below meth c D cA nL ad0 n0 sz d mc ms P) pc (oThrow mc ms P k) := by
  intro K lv st nn M hk h ad H locs ls hP hD hS hl hg
  obtain ⟨⟨hx, hb, hml, hown, hts, hK, hA, hlk⟩, hst, ham, hsz, hr, htb, hnm⟩ := hM
  obtain ⟨⟨hcat, h1, h2⟩, h⟩ := h
  obtain ⟨sa, hsa⟩ := ham.2.2.1 _ hst9
  obtain ⟨t1, t2, t3, t4, t5⟩ := hT
  refine vx_throwS (cls := exN k) (names := rtx) hx hb hst hown t1 (by decide +kernel) (hts _ t2) (hts _ t3) hsa (fun w hw => hts w (t4 w hw)) t5 ham.1 ham.2.1 hS (hl.1.1.trans hml.symm) d0 d3 d4 d6 d9 (by rw [htb]; intro x hx9; cases hx9) ?_ ?_ h1 h2 hlk ?_ hS.2.2 h1 h2
  · show 2 + 3 < d
    omega
  · rw [cat_map]
    show _ + (13 * (2 + 1) + 43) ≤ 40 * d
    omega
  · intro t _ h8 h9
    refine ⟨k, nn.1, M, ad, rfl, h, hg, hP.kept (fun k9 q hq => h9 q.1 (hP k9 q hq).lt), hD, ⟨Nat.le_trans hS.1 h8, fun q h3 h4 => (h9 q (Nat.lt_of_lt_of_le h3 hS.1)).trans (hS.2.1 q h3 h4)⟩⟩
theorem snd_throwW (hM : FM p l s m args meth c D cA nL ad0 n0 sz cc RX9 ret0 [] nm) {k ik is ic : Nat} {text : String} (hd : 6 ≤ d) (hT : ThrOK k ik ic) (hst9 : (is, text) ∈ STRS)
    (d0 : decode cc pc = .ok (.new ik, 3)) (d3 : decode cc (pc + 3) = .ok (.dup, 1)) (d4 : decode cc (pc + 4) = .ok (.ldc_w is, 3)) (d7 : decode cc (pc + 7) = .ok (.invokespecial ic, 3)) (d10 : decode cc (pc + 10) = .ok (.athrow, 1)) :
    Snd (jM p l e s m args below meth c D cA nL ad0 n0 sz d mc ms P) pc (oThrow mc ms P k) := by
  intro K lv st nn M hk h ad H locs ls hP hD hS hl hg
  obtain ⟨⟨hx, hb, hml, hown, hts, hK, hA, hlk⟩, hst, ham, hsz, hr, htb, hnm⟩ := hM
  obtain ⟨⟨hcat, h1, h2⟩, h⟩ := h
  obtain ⟨sa, hsa⟩ := ham.2.2.1 _ hst9
  obtain ⟨t1, t2, t3, t4, t5⟩ := hT
  refine vx_throwSW (cls := exN k) (names := rtx) hx hb hst hown t1 (by decide +kernel) (hts _ t2) (hts _ t3) hsa (fun w hw => hts w (t4 w hw)) t5 ham.1 ham.2.1 hS (hl.1.1.trans hml.symm) d0 d3 d4 d7 d10 (by rw [htb]; intro x hx9; cases hx9) ?_ ?_ h1 h2 hlk ?_ hS.2.2 h1 h2
  · show 2 + 3 < d
    omega
  · rw [cat_map]
    show _ + (13 * (2 + 1) + 43) ≤ 40 * d
    omega
  · intro t _ h8 h9
    refine ⟨k, nn.1, M, ad, rfl, h, hg, hP.kept (fun k9 q hq => h9 q.1 (hP k9 q hq).lt), hD, ⟨Nat.le_trans hS.1 h8, fun q h3 h4 => (h9 q (Nat.lt_of_lt_of_le h3 hS.1)).trans (hS.2.1 q h3 h4)⟩⟩
end THROW
theorem atS_in {ic k : Nat} (h : (vx_atS RX9 ic (exN k) rtx).all (fun w => decide (w ∈ lw_tbl) && stW w) = true) : ∀ w ∈ vx_atS RX9 ic (exN k) rtx, w ∈ PWS := by
  intro w hw
  have h1 := List.all_eq_true.mp h w hw
  simp only [Bool.and_eq_true, decide_eq_true_eq] at h1
  rw [PWS_eq]
  exact List.mem_filter.mpr h1
theorem thr_of {k ik ic : Nat} (i j : Nat) (h1 : lw_tbl[i]? = some (Cond.classLink RX9 ik (exN k))) (h2 : lw_tbl[j]? = some (Cond.initialized (exN k))) (hf : Bundle.fit (exN k) = true) (h : (vx_atS RX9 ic (exN k) rtx).all (fun w => decide (w ∈ lw_tbl) && stW w) = true) (hg : (Cond.classLink RX9 ik (exN k) :: Cond.initialized (exN k) :: vx_atS RX9 ic (exN k) rtx).all vx_ot = true) : ThrOK k ik ic :=
  ⟨hf, pws_mem i h1 rfl, pws_mem j h2 rfl, atS_in h, List.all_eq_true.mp hg⟩
theorem thr0 : ThrOK 0 83 87 := thr_of 416 90 (by decide +kernel) (by decide +kernel) (by decide +kernel) (by decide +kernel) (by decide +kernel)
theorem thr1 : ThrOK 1 93 97 := thr_of 486 91 (by decide +kernel) (by decide +kernel) (by decide +kernel) (by decide +kernel) (by decide +kernel)
theorem thr2 : ThrOK 2 251 255 := thr_of 747 94 (by decide +kernel) (by decide +kernel) (by decide +kernel) (by decide +kernel) (by decide +kernel)
theorem thr3 : ThrOK 3 258 262 := thr_of 810 95 (by decide +kernel) (by decide +kernel) (by decide +kernel) (by decide +kernel) (by decide +kernel)
