/-! THE CLAIM OUT OF ONE WALK OF THE LAW'S BODY. Your part is whole_start (and what it stands on); all else here is the same for every law, but numbers. -/
def R_law : String := "ReductionFinderLaw"
def lw_P (b : Addr) (xs : List Int32) (args : Array Value) (s : State) : Prop := args = #[.ref b] ∧ s.IntsAt b xs ∧ xs.length ≤ 2048 ∧ (Jvm.Cond.and given_1 narrow_1).before args s = true
/-- what a walk over the start with the record d0 says of its end, said of the start itself -/
theorem lw_closed {s t : State} {o : Outcome} {d0 : Drawn} {L : List Loc} {k n : Nat} (hd0 : s.drawn.sameBut d0 lw_cs) (hv : ∃ v, o = .returned v) (hW : (s.setDrawn d0).WarmedH t.vm) (hs : (s.setDrawn d0).sameButNew ({ t with vm := s.vm } : State) L k n) : State.butDraws s t lw_cs (fun t1 => Framed s o t1 L k n) := by
  have h2 : t.drawn = d0 := congrArg State.drawn hs.1
  refine ⟨⟨hv, hW, State.sameButNew.setDrawn hs s.drawn⟩, ?_, by decide⟩
  rw [h2]
  exact hd0
def lw_Q (_ : Array Value) (s : State) (o : Outcome) (t : State) : Prop := o = .returned (some (.int 1)) ∧ State.butDraws s t lw_cs (fun t1 => Framed s o t1 [] 601024 7293034)
def lw_Z (below : List Frame) (a : Array Value) (s : State) : State → Prop := fun t => ∃ o, t.status = .running ∧ Ended t below o ∧ lw_Q a s o t
/-- the law's own end, with 1 on the stack, nothing written that was there before, its room as the claim has it; d0: the record of draws at this point (at the entry s.drawn: begin with 'refine W.base ?_' and 'have hd0 := Drawn.sameBut.refl s.drawn lw_cs') -/
theorem lw_ret {p : Program} {l : Launch} {e : Env} {s : State} {m : MethodId} {below : List Frame} {meth : Method} {c : Code} {b : Nat} {d0 : Drawn} (hd0 : s.drawn.sameBut d0 lw_cs) (hx : p.tables.exec = Jvm.exec) (hb : c.code = code) (hr : meth.sig.returnType = ret) (hlocks : meth.locks = false) {pc : Nat} {H : Heap} {ls : Array Slot} (hdg : decode code pc = .ok (.ireturn, 1)) : W p l e room_1 (s.setDrawn d0) m #[Value.ref b] below meth c H [] 601024 7293034 (lw_Z below #[Value.ref b] s) (F0 m pc ls [.int 1]) := by
  intro T hT X
  obtain ⟨fs, hret, hrun, hended, hW, hframe⟩ := X.leave (v := some (.int 1)) (hlocks := hlocks) (fun h => by rw [hr] at h; cases h)
  have hmeth' : T.vm.method? m = some meth := X.method'
  refine ⟨T.setFrames fs, ?_, .returned (some (.int 1)), hrun, hended, rfl, lw_closed hd0 ⟨_, rfl⟩ hW hframe⟩
  jvm_step X.here [X.here.top, hx, hb, hdg, hmeth', hr, ret, narrow_b1]
  (try refine ⟨rfl, ?_⟩); (try refine ⟨rfl, ?_⟩)
  first | (intro acts; rw [hret _ acts rfl rfl rfl]) | rw [hret _ _ rfl rfl rfl]
  exact Steps.refl _
/-- what holds at the law's entry: the machine, the code, the tables' words (any of lw_tbl by 'hts w (by decide +kernel)'), the script of L ints xs at the cell b, what the Statement gives of the start (any of its parts by flat_of_before) -/
def lw_At (p : Program) (s : State) (m : MethodId) (meth : Method) (c : Code) (b L : Nat) (xs : Nat → Int32) : Prop :=
  p.tables.exec = Jvm.exec ∧ c.code = code ∧ meth.sig.returnType = ret ∧ c.maxLocals = 9 ∧ s.vm.findClass R_law = some m.cls ∧ (∀ w ∈ lw_tbl, w.before #[Value.ref b] s = true) ∧ va_X b L xs s s.heap ∧ b < s.heap.size ∧ meth.locks = false ∧ (Jvm.Cond.and given_1 narrow_1).before #[Value.ref b] s = true
/-! kinds of new arrays -/
section NA
variable {p : Program} {l : Launch} {e : Env} {R : Room} {s : State} {m : MethodId} {args : Array Value} {below : List Frame} {meth : Method} {c : Code} {Q : State → Prop} {D : va_G} {cA : Nat → ClassId} {A : Nat → Prop} {nL : Nat} {ad0 : Nat → Nat} {n0 : Nat} {cc : ByteArray} {own : String} {pc : Nat} {mc ms : Nat}
theorem snd_newA100 (hF : Fx p s m args meth c D cA A nL cc own) (hmc : mc ≤ R.cells) (hms : ms ≤ R.slots) (h1 : Cond.arrayClass .int ∈ PWS) (hdg : decode cc pc = .ok (.newarray .int, 2)) : Snd (jJ p l e R s m args below meth c Q D cA A nL ad0 n0) pc (oNewA mc ms 100 (pc + 2)) :=
  snd_newA hF (t := 100) (atype := .int) rfl (by decide) hmc hms h1 (by decide) (fun cI N ad M n => by
    unfold trA zM
    simp only [r2_row]
    rfl) (fun U x h => h) hdg
theorem snd_newA101 (hF : Fx p s m args meth c D cA A nL cc own) (hmc : mc ≤ R.cells) (hms : ms ≤ R.slots) (h1 : Cond.arrayClass .long ∈ PWS) (hdg : decode cc pc = .ok (.newarray .long, 2)) : Snd (jJ p l e R s m args below meth c Q D cA A nL ad0 n0) pc (oNewA mc ms 101 (pc + 2)) :=
  snd_newA hF (t := 101) (atype := .long) rfl (by decide) hmc hms h1 (by decide) (fun cI N ad M n => by
    unfold trA zM
    simp only [r2_row]
    rfl) (fun U x h => h) hdg
theorem snd_newA102 (hF : Fx p s m args meth c D cA A nL cc own) (hmc : mc ≤ R.cells) (hms : ms ≤ R.slots) (h1 : Cond.arrayClass .char ∈ PWS) (hdg : decode cc pc = .ok (.newarray .char, 2)) : Snd (jJ p l e R s m args below meth c Q D cA A nL ad0 n0) pc (oNewA mc ms 102 (pc + 2)) :=
  snd_newA hF (t := 102) (atype := .char) rfl (by decide) hmc hms h1 (by decide) (fun cI N ad M n => by
    unfold trA zM
    simp only [r2_row]
    rfl) (fun U x h => h) hdg
theorem snd_newA103 (hF : Fx p s m args meth c D cA A nL cc own) (hmc : mc ≤ R.cells) (hms : ms ≤ R.slots) (h1 : Cond.arrayClass .boolean ∈ PWS) (hdg : decode cc pc = .ok (.newarray .boolean, 2)) : Snd (jJ p l e R s m args below meth c Q D cA A nL ad0 n0) pc (oNewA mc ms 103 (pc + 2)) :=
  snd_newA hF (t := 103) (atype := .boolean) rfl (by decide) hmc hms h1 (by decide) (fun cI N ad M n => by
    unfold trA zM
    simp only [r2_row]
    rfl) (fun U x h => h) hdg
theorem snd_newA104 (hF : Fx p s m args meth c D cA A nL cc own) (hmc : mc ≤ R.cells) (hms : ms ≤ R.slots) (h1 : Cond.arrayClass .float ∈ PWS) (hdg : decode cc pc = .ok (.newarray .float, 2)) : Snd (jJ p l e R s m args below meth c Q D cA A nL ad0 n0) pc (oNewA mc ms 104 (pc + 2)) :=
  snd_newA hF (t := 104) (atype := .float) rfl (by decide) hmc hms h1 (by decide) (fun cI N ad M n => by
    unfold trA zM
    simp only [r2_row]
    rfl) (fun U x h => h) hdg
theorem snd_newA105 (hF : Fx p s m args meth c D cA A nL cc own) (hmc : mc ≤ R.cells) (hms : ms ≤ R.slots) (h1 : Cond.arrayClass .double ∈ PWS) (hdg : decode cc pc = .ok (.newarray .double, 2)) : Snd (jJ p l e R s m args below meth c Q D cA A nL ad0 n0) pc (oNewA mc ms 105 (pc + 2)) :=
  snd_newA hF (t := 105) (atype := .double) rfl (by decide) hmc hms h1 (by decide) (fun cI N ad M n => by
    unfold trA zM
    simp only [r2_row]
    rfl) (fun U x h => h) hdg
theorem snd_newG106 (hF : Fx p s m args meth c D cA A nL cc own) {idx : Nat} (hmc : mc ≤ R.cells) (hms : ms ≤ R.slots) (h1 : Cond.classLink own idx "[[I" ∈ PWS) (h2 : Cond.arrayOver (.array .int) ∈ PWS) (h3 : Cond.arrayClass .int ∈ PWS) (hdg : decode cc pc = .ok (.multianewarray idx 2, 4)) : Snd (jJ p l e R s m args below meth c Q D cA A nL ad0 n0) pc (oNewG mc ms 106 100 (pc + 4)) :=
  snd_newG hF (t := 106) (u := 100) (idx := idx) (ty := .int) (.inl (fun _ => 0)) (by decide) ⟨rfl, rfl⟩ hmc hms (by rw [show "[" ++ (FieldType.array .int).toString = "[[I" from by decide +kernel]; exact h1) h2 h3 (by decide) rfl rfl (fun cI K => arrV_new cI K (defaultValue .int)) (fun ad M n N i hi => by
    unfold trA zG
    simp only [zI_in _ _ (show n ≤ n + 1 + i by omega) (show n + 1 + i < n + (1 + N) by omega)]
    rfl) (fun U x h => h) (fun U x h => h) hdg
theorem snd_newG107 (hF : Fx p s m args meth c D cA A nL cc own) {idx : Nat} (hmc : mc ≤ R.cells) (hms : ms ≤ R.slots) (h1 : Cond.classLink own idx "[[F" ∈ PWS) (h2 : Cond.arrayOver (.array .float) ∈ PWS) (h3 : Cond.arrayClass .float ∈ PWS) (hdg : decode cc pc = .ok (.multianewarray idx 2, 4)) : Snd (jJ p l e R s m args below meth c Q D cA A nL ad0 n0) pc (oNewG mc ms 107 104 (pc + 4)) :=
  snd_newG hF (t := 107) (u := 104) (idx := idx) (ty := .float) (.inr (.inr (.inl (fun _ => 0)))) (by decide) ⟨rfl, rfl⟩ hmc hms (by rw [show "[" ++ (FieldType.array .float).toString = "[[F" from by decide +kernel]; exact h1) h2 h3 (by decide) rfl rfl (fun cI K => arrV_new cI K (defaultValue .float)) (fun ad M n N i hi => by
    unfold trA zG
    simp only [zI_in _ _ (show n ≤ n + 1 + i by omega) (show n + 1 + i < n + (1 + N) by omega)]
    rfl) (fun U x h => h) (fun U x h => h) hdg
end NA
/-! the law's own operations: the script, its end -/
section LAWOPS
variable {p : Program} {l : Launch} {e : Env} {s : State} {m : MethodId} {below : List Frame} {meth : Method} {c : Code} {D : va_G} {cA : Nat → ClassId} {ad0 : Nat → Nat} {pc b L : Nat} {xs : Nat → Int32}
abbrev jL (p : Program) (l : Launch) (e : Env) (s : State) (m : MethodId) (below : List Frame) (meth : Method) (c : Code) (D : va_G) (cA : Nat → ClassId) (ad0 : Nat → Nat) (b : Nat) : KT := jJ p l e room_1 s m #[Value.ref b] below meth c (lw_Z below #[Value.ref b] s) D cA (fun q => s.heap.size ≤ q) 9 ad0 0
def oSlen (b L nx : Nat) : OP := fun K lv st nn M => match st with
  | .ref a :: r => a = 1000000 + b ∧ K nx lv (.int (Int32.ofNat L) :: r) nn M
  | _ => False
def oSld (b L : Nat) (xs : Nat → Int32) (nx : Nat) : OP := fun K lv st nn M => match st with
  | .int i :: .ref a :: r => a = 1000000 + b ∧ vp_in i L ∧ K nx lv (.int (xs i.toNatClampNeg) :: r) nn M
  | _ => False
def oLret : OP := fun _ _ st nn _ => match st with
  | [.int x] => x = 1 ∧ nn.2.1 ≤ 601024 ∧ nn.2.2 ≤ 7293034
  | _ => False
theorem snd_slen (hF : Fx p s m #[Value.ref b] meth c D cA (fun q => s.heap.size ≤ q) 9 code R_law) (hX : va_X b L xs s s.heap) (hbl : b < s.heap.size) (hdg : decode code pc = .ok (.arraylength, 1)) : Snd (jL p l e s m below meth c D cA ad0 b) pc (oSlen b L (pc + 1)) := by
  intro K lv st nn M hk h ad H locs ls hP hD hS hl hg
  obtain ⟨hx, hb, hml, hown, hts, hK, hA, hlk⟩ := hF
  unfold oSlen at h
  split at h
  · next a r =>
    obtain ⟨ha, h⟩ := h
    subst ha
    have hw := hk _ _ _ _ _ h ad H locs ls hP hD hS hl hg
    have := va_slen hx hb hX hbl (Nat.not_le.mpr hbl) hS hdg hw
    simp only [List.map_cons, trV, adr_raw]
    exact this
  · exact h.elim
theorem snd_sld (hF : Fx p s m #[Value.ref b] meth c D cA (fun q => s.heap.size ≤ q) 9 code R_law) (hX : va_X b L xs s s.heap) (hbl : b < s.heap.size) (hdg : decode code pc = .ok (.iaload, 1)) : Snd (jL p l e s m below meth c D cA ad0 b) pc (oSld b L xs (pc + 1)) := by
  intro K lv st nn M hk h ad H locs ls hP hD hS hl hg
  obtain ⟨hx, hb, hml, hown, hts, hK, hA, hlk⟩ := hF
  unfold oSld at h
  split at h
  · next i a r =>
    obtain ⟨ha, hin, h⟩ := h
    subst ha
    have hw := hk _ _ _ _ _ h ad H locs ls hP hD hS hl hg
    have := va_sld hx hb hX hbl (Nat.not_le.mpr hbl) hS hin hdg hw
    simp only [List.map_cons, trV, adr_raw]
    exact this
  · exact h.elim
theorem snd_lret (hF : Fx p s m #[Value.ref b] meth c D cA (fun q => s.heap.size ≤ q) 9 code R_law) (hr : meth.sig.returnType = ret) (hdg : decode code pc = .ok (.ireturn, 1)) : Snd (jL p l e s m below meth c D cA ad0 b) pc oLret := by
  intro K lv st nn M hk h ad H locs ls hP hD hS hl hg
  obtain ⟨hx, hb, hml, hown, hts, hK, hA, hlk⟩ := hF
  unfold oLret at h
  split at h
  · next x =>
    obtain ⟨rfl, h1, h2⟩ := h
    refine va_forget (fun q hq => hS.2.2 q hq) (W.widen h1 h2 (W.base ?_))
    exact lw_ret (Drawn.sameBut.refl s.drawn lw_cs) hx hb hr hlk hdg
  · exact h.elim
end LAWOPS
