/-! ===== Math.min, Math.max of floats, Math.abs of doubles: as tables ===== -/
section JDKOPS
variable {p : Program} {l : Launch} {e : Env} {s : State} {m : MethodId} {args : Array Value} {below : List Frame} {meth : Method} {c : Code} {D : va_G} {cA : Nat → ClassId} {nL : Nat} {ad0 : Nat → Nat} {n0 sz d mc ms : Nat} {P : PO} {ret0 : Option FieldType} {cc : ByteArray} {own : String} {tb : List ExceptionTableEntry} {nm : String} {pc : Nat}
def oFbits (nx : Nat) : OP := fun K lv st nn M => match st with
  | .float x :: r => (r.map (fun v => v.category)).sum ≤ 8 ∧ K nx lv (.int x.toInt32 :: r) nn M
  | _ => False
def oDbits (nx : Nat) : OP := fun K lv st nn M => match st with
  | .double x :: r => (r.map (fun v => v.category)).sum ≤ 8 ∧ K nx lv (.long x.toInt64 :: r) nn M
  | _ => False
def oBitsD (nx : Nat) : OP := fun K lv st nn M => match st with
  | .long x :: r => (r.map (fun v => v.category)).sum ≤ 8 ∧ vn_snl2d x = false ∧ K nx lv (.double x.toUInt64 :: r) nn M
  | _ => False
def oLand (nx : Nat) : OP := fun K lv st nn M => match st with
  | .long y :: .long x :: r => K nx lv (.long (x &&& y) :: r) nn M
  | _ => False
theorem snd_fbits (hM : FM p l s m args meth c D cA nL ad0 n0 sz cc own ret0 tb nm) {idx : Nat} (h1 : Cond.methodLink own idx ⟨"java/lang/Float", "floatToRawIntBits", "(F)I"⟩ ∈ PWS) (h2 : Cond.native ⟨"java/lang/Float", "floatToRawIntBits", "(F)I"⟩ ∈ PWS) (h3 : Cond.static ⟨"java/lang/Float", "floatToRawIntBits", "(F)I"⟩ ∈ PWS) (h4 : Cond.initialized "java/lang/Float" ∈ PWS) (hdg : decode cc pc = .ok (.invokestatic idx, 3)) : Snd (jM p l e s m args below meth c D cA nL ad0 n0 sz (d + 1) mc ms P) pc (oFbits (pc + 3)) := by
  intro K lv st nn M hk h ad H locs ls hP hD hS hl hg
  obtain ⟨⟨hx, hb, hml, hown, hts, hK, hA, hlk⟩, hst, ham, hsz, hr, htb, hnm⟩ := hM
  unfold oFbits at h
  split at h
  · next x r =>
    obtain ⟨hc1, h⟩ := h
    exact vn_f2i hx hb (hml.trans hl.1.1.symm) hown (hts _ h1) (hts _ h2) (hts _ h3) (hts _ h4) (by show 1 ≤ d + 1; omega) (by rw [cat_map]; show _ + 15 ≤ 40 * (d + 1); omega) hdg (hk _ _ _ _ _ h ad H locs ls hP hD hS hl hg)
  · exact h.elim
theorem snd_dbits (hM : FM p l s m args meth c D cA nL ad0 n0 sz cc own ret0 tb nm) {idx : Nat} (h1 : Cond.methodLink own idx ⟨"java/lang/Double", "doubleToRawLongBits", "(D)J"⟩ ∈ PWS) (h2 : Cond.native ⟨"java/lang/Double", "doubleToRawLongBits", "(D)J"⟩ ∈ PWS) (h3 : Cond.static ⟨"java/lang/Double", "doubleToRawLongBits", "(D)J"⟩ ∈ PWS) (h4 : Cond.initialized "java/lang/Double" ∈ PWS) (hdg : decode cc pc = .ok (.invokestatic idx, 3)) : Snd (jM p l e s m args below meth c D cA nL ad0 n0 sz (d + 1) mc ms P) pc (oDbits (pc + 3)) := by
  intro K lv st nn M hk h ad H locs ls hP hD hS hl hg
  obtain ⟨⟨hx, hb, hml, hown, hts, hK, hA, hlk⟩, hst, ham, hsz, hr, htb, hnm⟩ := hM
  unfold oDbits at h
  split at h
  · next x r =>
    obtain ⟨hc1, h⟩ := h
    exact vn_d2l hx hb (hml.trans hl.1.1.symm) hown (hts _ h1) (hts _ h2) (hts _ h3) (hts _ h4) (by show 1 ≤ d + 1; omega) (by rw [cat_map]; show _ + 15 ≤ 40 * (d + 1); omega) hdg (hk _ _ _ _ _ h ad H locs ls hP hD hS hl hg)
  · exact h.elim
theorem snd_bitsd (hM : FM p l s m args meth c D cA nL ad0 n0 sz cc own ret0 tb nm) {idx : Nat} (h1 : Cond.methodLink own idx ⟨"java/lang/Double", "longBitsToDouble", "(J)D"⟩ ∈ PWS) (h2 : Cond.native ⟨"java/lang/Double", "longBitsToDouble", "(J)D"⟩ ∈ PWS) (h3 : Cond.static ⟨"java/lang/Double", "longBitsToDouble", "(J)D"⟩ ∈ PWS) (h4 : Cond.initialized "java/lang/Double" ∈ PWS) (hdg : decode cc pc = .ok (.invokestatic idx, 3)) : Snd (jM p l e s m args below meth c D cA nL ad0 n0 sz (d + 1) mc ms P) pc (oBitsD (pc + 3)) := by
  intro K lv st nn M hk h ad H locs ls hP hD hS hl hg
  obtain ⟨⟨hx, hb, hml, hown, hts, hK, hA, hlk⟩, hst, ham, hsz, hr, htb, hnm⟩ := hM
  unfold oBitsD at h
  split at h
  · next x r =>
    obtain ⟨hc1, hv, h⟩ := h
    exact vn_l2d hx hb (hml.trans hl.1.1.symm) hown (hts _ h1) (hts _ h2) (hts _ h3) (hts _ h4) hv (by show 1 ≤ d + 1; omega) (by rw [cat_map]; show _ + 15 ≤ 40 * (d + 1); omega) hdg (hk _ _ _ _ _ h ad H locs ls hP hD hS hl hg)
  · exact h.elim
theorem snd_land (hM : FM p l s m args meth c D cA nL ad0 n0 sz cc own ret0 tb nm) (hdg : decode cc pc = .ok (.land, 1)) : Snd (jM p l e s m args below meth c D cA nL ad0 n0 sz (d + 1) mc ms P) pc (oLand (pc + 1)) := by
  intro K lv st nn M hk h ad H locs ls hP hD hS hl hg
  obtain ⟨⟨hx, hb, hml, hown, hts, hK, hA, hlk⟩, hst, ham, hsz, hr, htb, hnm⟩ := hM
  unfold oLand at h
  split at h
  · exact lv_land hx hb hdg (hk _ _ _ _ _ h ad H locs ls hP hD hS hl hg)
  · exact h.elim
theorem snd_ldc2 (hM : FM p l s m args meth c D cA nL ad0 n0 sz cc own ret0 tb nm) {i : Nat} {v : Int64} (hw : Cond.constantLong own i v ∈ PWS) (hdg : decode cc pc = .ok (.ldc2_w i, 3)) : Snd (jM p l e s m args below meth c D cA nL ad0 n0 sz (d + 1) mc ms P) pc (oPush (.long v) (pc + 3)) := by
  intro K lv st nn M hk h ad H locs ls hP hD hS hl hg
  obtain ⟨⟨hx, hb, hml, hown, hts, hK, hA, hlk⟩, hst, ham, hsz, hr, htb, hnm⟩ := hM
  exact lv_ldc2 hx hb hown (hts _ hw) hdg (hk _ _ _ _ _ h ad H locs ls hP hD hS hl hg)
theorem snd_gnz (hM : FM p l s m args meth c D cA nL ad0 n0 sz cc RJ9 ret0 tb nm) {i : Nat} (hw : Cond.fieldLink RJ9 i "java/lang/Math" "negativeZeroFloatBits" "J" ∈ PWS) (hdg : decode cc pc = .ok (.getstatic i, 3)) : Snd (jM p l e s m args below meth c D cA nL ad0 n0 sz (d + 1) mc ms P) pc (oPush (.long (-2147483648)) (pc + 3)) := by
  intro K lv st nn M hk h ad H locs ls hP hD hS hl hg
  obtain ⟨⟨hx, hb, hml, hown, hts, hK, hA, hlk⟩, hst, ham, hsz, hr, htb, hnm⟩ := hM
  exact va_gets hx hb ham.2.2.2.1 hS hown (hts _ hw) (fun _ h9 => h9) hdg (hk _ _ _ _ _ h ad H locs ls hP hD hS hl hg)
end JDKOPS
theorem vx_ofWF {l : Launch} {y : MethodName} {ws ws' : List Cond} {rm : Room} {Pc : Array Value → State → Prop} {Qc : Array Value → State → Outcome → State → Prop} {XC : String → State → State → Prop} {mc ms : Nat} {free : Addr → Prop} {cc : ByteArray} {maxL : Nat} {ret : Option FieldType}
    (hy : plainFor y = true) (hw : ws = Cond.code y cc maxL ret :: ws')
    (body : ∀ p e s m args below meth c s₁, BodyLoose p l y (headSpec ws rm) cc maxL ret e s m args below meth c s₁ → c.maxLocals = maxL → (∀ x ∈ c.exceptionTable.toList, False) → Pc args s →
      W p l e (headSpec ws rm).room s m args below meth c s.heap [] 0 0 (vx_MQ below Qc XC args s mc ms free) (entryFrame m args maxL)) : vx_Met l y ws rm Pc Qc XC mc ms free := by
  refine MetFree.of_bodySF (code := cc) (maxLocals := maxL) (ret := ret) hy ?_ ?_
  · intro args s m h hn
    obtain ⟨meth, c, h1, h2, h3, h4, h5, h6, -, -⟩ := Cond.code_spec hn (atoms_spec (ws := ws) h _ (by rw [hw]; exact List.mem_cons_self))
    exact ⟨meth, c, h1, h2, h3, h4, h5, h6⟩
  · intro p e s m args below meth c s₁ B hml hP _
    have hh0 : s₁.heap = s.heap := by rw [B.state]; rfl
    have ht : ∀ x ∈ c.exceptionTable.toList, False := by
      obtain ⟨meth9, c9, h1, h2, -, -, -, -, h7, -⟩ := Cond.code_spec B.named (atoms_spec (ws := ws) B.pre _ (by rw [hw]; exact List.mem_cons_self))
      cases Option.some.inj (h1.symm.trans B.method)
      cases Option.some.inj (h2.symm.trans (Stand.of_body B).code)
      intro x hx
      rw [Array.isEmpty_iff.mp h7] at hx
      cases hx
    obtain ⟨t, a1, o, b1, b2, b3⟩ := body p e s m args below meth c s₁ B hml ht hP s₁ hh0 (Stand.of_body B)
    exact ⟨t, o, a1, b1, b2, b3⟩
theorem call_introF {y : MethodName} {cc : ByteArray} {nL d mc ms n : Nat} {ret : Option FieldType} {own : String} {av : List Value} {M : PM} {P : PO} {T : List (Nat × OP)} (hy : plainFor y = true) (ho : y.cls = own) (hw : wid av ≤ nL)
    (hT : ∀ (p : Program) (l : Launch) (e : Env) (s : State) (m : MethodId) (args : Array Value) (below : List Frame) (meth : Method) (c : Code) (D : va_G) (cA : Nat → ClassId) (ad0 : Nat → Nat) (sz : Nat), FM p l s m args meth c D cA nL ad0 n sz cc own ret [] y.name → ∀ q ∈ T, Snd (jM p l e s m args below meth c D cA nL ad0 n sz d mc ms P) q.1 q.2)
    (hb : ∀ J : KT, (∀ (k : Nat) (stops : Nat → Bool) (pc : Nat) (lv : LV) (st : List Value) (nn : NN) (M : PM), lk T pc (wpN T stops k J) lv st nn M → J pc lv st nn M) → J 0 (entA 0 av) [] (n, 0, 0) M) :
    CallOK d mc ms y (Cond.code y cc nL ret) av n M P := by
  intro l hl D cA ad sz
  refine ⟨d, Nat.le_refl d, vx_ofWF (cc := cc) (maxL := nL) (ret := ret) hy rfl (fun p e s m args below meth c s₁ B hml htb hv => ?_)⟩
  obtain ⟨rfl, hsz, hn, hP, hD, hK, ham⟩ := hv
  subst hsz
  have hts := atoms_spec (ws := Cond.code y cc nL ret :: PWS) B.pre
  have hown : s.vm.findClass own = some m.cls := by rw [← ho]; exact findClass_of_methodNamed B.named
  have hM : FM p l s m (av.map (trV ad)).toArray meth c D cA nL ad n s.heap.size cc own ret [] y.name := ⟨⟨B.exec, B.bytes, hml, hown, fun w h => hts w (List.mem_cons_of_mem _ h), hK, fun q h => Or.inr h, B.notSynchronized⟩, hl, ham, rfl, B.returns, by
    cases h9 : c.exceptionTable.toList with
    | nil => rfl
    | cons x t => exact (htb x (by rw [h9]; exact List.mem_cons_self)).elim, (name_of_methodNamed B.named B.method).1⟩
  have hsn := hT p l e s m (av.map (trV ad)).toArray below meth c D cA ad s.heap.size hM
  have hJ := hb (jM p l e s m (av.map (trV ad)).toArray below meth c D cA nL ad n s.heap.size d mc ms P) (fun k stops pc lv st nn M h => lk_snd hsn pc _ lv st nn M (fun pc lv st nn M h9 => wpN_snd hsn k pc lv st nn M h9) h)
  rw [lg_entry_eq]
  have hle := lv_entry (av.map (trV ad)) (n := nL) (by rw [lg_sl_len]; exact hw)
  refine hJ ad s.heap [] _ hP ⟨hD.1, fun k q hk => ?_⟩ va_S.rf (lvok_sub hle (fun j v hv => ?_)) ⟨fun _ _ => rfl, Nat.le_refl _, hn, fun _ => rfl⟩
  · by_cases hkn : k < n
    · rw [pw_get hkn] at hk
      cases hk
      exact Or.inl ⟨k, hkn, rfl⟩
    · rw [List.getElem?_eq_none (by simp [pw]; omega)] at hk
      cases hk
  · have h9 := entA_args ad av 0 j v hv
    refine ⟨?_, h9⟩
    have h8 := hle.2.2 _ h9
    have h7 := (Array.getElem?_eq_some_iff.mp h8).1
    rw [hle.1] at h7
    exact h7
