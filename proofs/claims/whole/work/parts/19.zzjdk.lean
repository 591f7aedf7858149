/-! ===== Math.min, Math.max of floats, Math.abs of doubles: as tables ===== -/
section JDKOPS
variable {p : Program} {l : Launch} {e : Env} {s : State} {m : MethodId} {args : Array Value} {below : List Frame} {meth : Method} {c : Code} {D : va_G} {cA : Nat → ClassId} {nL : Nat} {ad0 : Nat → Nat} {n0 sz d mc ms : Nat} {P : PO} {ret0 : Option FieldType} {cc : ByteArray} {own : String} {tb : List ExceptionTableEntry} {nm : String} {pc : Nat}
def oFmm (gr : Bool) (mc ms nx : Nat) : OP := fun K lv st nn M => match st with
  | .float y :: .float x :: r => ((r.map (fun v => v.category)).sum ≤ 8 ∧ nn.2.1 ≤ mc ∧ nn.2.2 ≤ ms) ∧ Jvm.Free.Fl.NoNaN32 x ∧ Jvm.Free.Fl.NoNaN32 y ∧ K nx lv (.float (Native.java_lang_Math.nans.pick32 gr x y) :: r) nn M
  | _ => False
def oDabs (mc ms nx : Nat) : OP := fun K lv st nn M => match st with
  | .double x :: r => ((r.map (fun v => v.category)).sum ≤ 8 ∧ nn.2.1 ≤ mc ∧ nn.2.2 ≤ ms) ∧ Jvm.Free.Fl.NoNaN64 x ∧ K nx lv (.double (x &&& 0x7fffffffffffffff) :: r) nn M
  | _ => False
theorem snd_fmax (hM : FM p l s m args meth c D cA nL ad0 n0 sz cc own ret0 tb nm) {idx : Nat} (h1 : Cond.methodLink own idx Jvm.Free.Fl.Abs.maxFN ∈ PWS) (h2 : Cond.static Jvm.Free.Fl.Abs.maxFN ∈ PWS) (h3 : Cond.initialized "java/lang/Math" ∈ PWS) (h4 : Cond.code Jvm.Free.Fl.Abs.maxFN Jvm.Free.Fl.Abs.maxFCode 2 (some .float) ∈ PWS) (hdg : decode cc pc = .ok (.invokestatic idx, 3)) : Snd (jM p l e s m args below meth c D cA nL ad0 n0 sz (d + 1) mc ms P) pc (oFmm true mc ms (pc + 3)) := by
  intro K lv st nn M hk h ad H locs ls hP hD hS hl hg
  obtain ⟨⟨hx, hb, hml, hown, hts, hK, hA, hlk⟩, hst, ham, hsz, hr, htb, hnm⟩ := hM
  unfold oFmm at h
  split at h
  · next y x r =>
    obtain ⟨⟨hc1, hc2, hc3⟩, hn1, hn2, h⟩ := h
    intro T hT X
    obtain ⟨v, vm₁, B, hW, X', ⟨hv, hB⟩, st9⟩ := callS X hx (own := own) (index := idx) (y := Jvm.Free.Fl.Abs.maxFN) (bytes := Jvm.Free.Fl.Abs.maxFCode) (maxL := 2) (ret := some .float) hown (hts _ h1) (hts _ h2) (hts _ h3) (hts _ h4) (by decide) (Jvm.Free.Fl.Abs.maxF_pays (W := 8) x y (hts _ h4) (by show 1 ≤ d + 1; omega) (by show 8 + 13 ≤ 40 * (d + 1); omega)) (g := F0 m pc ls (.float y :: .float x :: r.map (trV ad))) rfl (hl.1.1.trans hml.symm) (argsL := [.float x, .float y]) (rest := r.map (trV ad)) (fun sig hs => by
      have h9 : parseMethodDescriptor "(FF)F" = some { parameters := [.float, .float], returnType := some .float } := by decide +kernel
      rw [show (Jvm.Free.Fl.Abs.maxFN).desc = "(FF)F" from rfl, h9] at hs
      rw [← Option.some.inj hs]; rfl) rfl (by rw [cat_map]; exact lv_room hc1) (by rw [hb]; exact hdg) (fun vm₁ hW => ⟨hc2, hc3, rfl, hn1, hn2⟩)
    subst hv
    subst hB
    obtain ⟨t, a1, b1⟩ := hk _ _ _ _ _ h ad H locs ls hP hD hS hl hg (T.setVm vm₁) hT X'
    exact ⟨t, st9 t a1, b1⟩
  · exact h.elim
theorem snd_fmin (hM : FM p l s m args meth c D cA nL ad0 n0 sz cc own ret0 tb nm) {idx : Nat} (h1 : Cond.methodLink own idx Jvm.Free.Fl.Abs.minFN ∈ PWS) (h2 : Cond.static Jvm.Free.Fl.Abs.minFN ∈ PWS) (h3 : Cond.initialized "java/lang/Math" ∈ PWS) (h4 : Cond.code Jvm.Free.Fl.Abs.minFN Jvm.Free.Fl.Abs.minFCode 2 (some .float) ∈ PWS) (hdg : decode cc pc = .ok (.invokestatic idx, 3)) : Snd (jM p l e s m args below meth c D cA nL ad0 n0 sz (d + 1) mc ms P) pc (oFmm false mc ms (pc + 3)) := by
  intro K lv st nn M hk h ad H locs ls hP hD hS hl hg
  obtain ⟨⟨hx, hb, hml, hown, hts, hK, hA, hlk⟩, hst, ham, hsz, hr, htb, hnm⟩ := hM
  unfold oFmm at h
  split at h
  · next y x r =>
    obtain ⟨⟨hc1, hc2, hc3⟩, hn1, hn2, h⟩ := h
    intro T hT X
    obtain ⟨v, vm₁, B, hW, X', ⟨hv, hB⟩, st9⟩ := callS X hx (own := own) (index := idx) (y := Jvm.Free.Fl.Abs.minFN) (bytes := Jvm.Free.Fl.Abs.minFCode) (maxL := 2) (ret := some .float) hown (hts _ h1) (hts _ h2) (hts _ h3) (hts _ h4) (by decide) (Jvm.Free.Fl.Abs.minF_pays (W := 8) x y (hts _ h4) (by show 1 ≤ d + 1; omega) (by show 8 + 13 ≤ 40 * (d + 1); omega)) (g := F0 m pc ls (.float y :: .float x :: r.map (trV ad))) rfl (hl.1.1.trans hml.symm) (argsL := [.float x, .float y]) (rest := r.map (trV ad)) (fun sig hs => by
      have h9 : parseMethodDescriptor "(FF)F" = some { parameters := [.float, .float], returnType := some .float } := by decide +kernel
      rw [show (Jvm.Free.Fl.Abs.minFN).desc = "(FF)F" from rfl, h9] at hs
      rw [← Option.some.inj hs]; rfl) rfl (by rw [cat_map]; exact lv_room hc1) (by rw [hb]; exact hdg) (fun vm₁ hW => ⟨hc2, hc3, rfl, hn1, hn2⟩)
    subst hv
    subst hB
    obtain ⟨t, a1, b1⟩ := hk _ _ _ _ _ h ad H locs ls hP hD hS hl hg (T.setVm vm₁) hT X'
    exact ⟨t, st9 t a1, b1⟩
  · exact h.elim
theorem snd_dabs (hM : FM p l s m args meth c D cA nL ad0 n0 sz cc own ret0 tb nm) {idx : Nat} (h1 : Cond.methodLink own idx Jvm.Free.Fl.Abs.absDN ∈ PWS) (h2 : Cond.static Jvm.Free.Fl.Abs.absDN ∈ PWS) (h3 : Cond.initialized "java/lang/Math" ∈ PWS) (h4 : Cond.code Jvm.Free.Fl.Abs.absDN Jvm.Free.Fl.Abs.absDCode 2 (some .double) ∈ PWS) (hdg : decode cc pc = .ok (.invokestatic idx, 3)) : Snd (jM p l e s m args below meth c D cA nL ad0 n0 sz (d + 1) mc ms P) pc (oDabs mc ms (pc + 3)) := by
  intro K lv st nn M hk h ad H locs ls hP hD hS hl hg
  obtain ⟨⟨hx, hb, hml, hown, hts, hK, hA, hlk⟩, hst, ham, hsz, hr, htb, hnm⟩ := hM
  unfold oDabs at h
  split at h
  · next x r =>
    obtain ⟨⟨hc1, hc2, hc3⟩, hn1, h⟩ := h
    intro T hT X
    obtain ⟨v, vm₁, B, hW, X', ⟨hv, hB⟩, st9⟩ := callS X hx (own := own) (index := idx) (y := Jvm.Free.Fl.Abs.absDN) (bytes := Jvm.Free.Fl.Abs.absDCode) (maxL := 2) (ret := some .double) hown (hts _ h1) (hts _ h2) (hts _ h3) (hts _ h4) (by decide) (Jvm.Free.Fl.Abs.absD_pays (W := 8) x (hts _ h4) (by show 1 ≤ d + 1; omega) (by show 8 + 13 ≤ 40 * (d + 1); omega)) (g := F0 m pc ls (.double x :: r.map (trV ad))) rfl (hl.1.1.trans hml.symm) (argsL := [.double x]) (rest := r.map (trV ad)) (fun sig hs => by
      have h9 : parseMethodDescriptor "(D)D" = some { parameters := [.double], returnType := some .double } := by decide +kernel
      rw [show (Jvm.Free.Fl.Abs.absDN).desc = "(D)D" from rfl, h9] at hs
      rw [← Option.some.inj hs]; rfl) rfl (by rw [cat_map]; exact lv_room hc1) (by rw [hb]; exact hdg) (fun vm₁ hW => ⟨hc2, hc3, rfl, hn1⟩)
    subst hv
    subst hB
    obtain ⟨t, a1, b1⟩ := hk _ _ _ _ _ h ad H locs ls hP hD hS hl hg (T.setVm vm₁) hT X'
    exact ⟨t, st9 t a1, b1⟩
  · exact h.elim
end JDKOPS
