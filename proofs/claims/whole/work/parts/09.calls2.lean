/-! ===== returns, calls, throws ===== -/
abbrev jM (p : Program) (l : Launch) (e : Env) (s : State) (m : MethodId) (args : Array Value) (below : List Frame) (meth : Method) (c : Code) (D : va_G) (cA : Nat → ClassId) (nL : Nat) (ad0 : Nat → Nat) (n0 sz d mc ms : Nat) (P : PO) : KT :=
  jJ p l e (rmD d mc ms) s m args below meth c (vx_MQ below (QR D cA ad0 n0 sz P) (QX D cA ad0 n0 sz P) args s mc ms (pA ad0 n0 sz)) D cA (pA ad0 n0 sz) nL ad0 n0
def FM (p : Program) (l : Launch) (s : State) (m : MethodId) (args : Array Value) (meth : Method) (c : Code) (D : va_G) (cA : Nat → ClassId) (nL : Nat) (ad0 : Nat → Nat) (n0 sz : Nat) (cc : ByteArray) (own : String) (ret : Option FieldType) (tb : List ExceptionTableEntry) (nm : String) : Prop :=
  Fx p s m args meth c D cA (pA ad0 n0 sz) nL cc own ∧ l.stackTraces = false ∧ Amb (pA ad0 n0 sz) s s.heap ∧ s.heap.size = sz ∧ meth.sig.returnType = ret ∧ c.exceptionTable.toList = tb ∧ meth.name = nm
theorem selP {C : String} {x0 y0 y : MethodName} {C0 : String} {n : Nat} {args : Array Value} {s : State} (hcy : y0.cls = y.cls) (hy : y.cls ≠ "java/lang/invoke/MethodHandle" ∧ y.cls ≠ "java/lang/invoke/VarHandle") (h0 : (Cond.selects C0 x0 y0).before args s = true) (hins : (Cond.instantiable C n).before args s = true) (hpriv : (Cond.privateMethod y).before args s = true) (hinst : (Cond.instanceMethod y).before args s = true) : (Cond.selects C y y).before args s = true := by
  obtain ⟨c0, r0, m0, -, -, hn0, -, mk0, hmk0, hni⟩ := Cond.selects_spec h0
  obtain ⟨c, k, hc, hk, -⟩ := Cond.instantiable_spec hins
  obtain ⟨mk, methM, hnamed, hmethM, -, -⟩ := Cond.instanceMethod_spec hinst
  have hfound : s.methodFound? y.cls y.name y.desc = some mk := State.methodFound?_of_named hnamed hy
  have h1 := findClass_of_methodNamed hn0
  have h2 := findClass_of_methodNamed hnamed
  rw [hcy] at h1
  have hcls : m0.cls = mk.cls := Option.some.inj (h1.symm.trans h2)
  have hsel : selectMethod {} s.vm c mk = .method mk := selectMethod_private hmethM (Cond.privateMethod_at hpriv mk methM hnamed hmethM)
  rw [hcls] at hmk0
  simp only [Cond.before, Cond.holds, Cond.value, hc, hfound, hnamed, hsel, hmk0]
  simp; exact hni
section RET
variable {p : Program} {l : Launch} {e : Env} {s : State} {m : MethodId} {args : Array Value} {below : List Frame} {meth : Method} {c : Code} {D : va_G} {cA : Nat → ClassId} {nL : Nat} {ad0 : Nat → Nat} {n0 sz d mc ms : Nat} {P : PO} {ret0 : Option FieldType} {cc : ByteArray} {own : String} {tb : List ExceptionTableEntry} {nm : String} {pc : Nat}
def oRetI (mc ms : Nat) (P : PO) : OP := fun _ _ st nn M => match st with
  | [.int x] => nn.2.1 ≤ mc ∧ nn.2.2 ≤ ms ∧ P (.inl (some (.int x))) nn.1 M
  | _ => False
def oRetZ (mc ms : Nat) (P : PO) : OP := fun _ _ st nn M => match st with
  | [.int x] => (x = 0 ∨ x = 1) ∧ nn.2.1 ≤ mc ∧ nn.2.2 ≤ ms ∧ P (.inl (some (.int x))) nn.1 M
  | _ => False
def oRetC (mc ms : Nat) (P : PO) : OP := fun _ _ st nn M => match st with
  | [.int x] => narrow .char (.int x) = .int x ∧ nn.2.1 ≤ mc ∧ nn.2.2 ≤ ms ∧ P (.inl (some (.int x))) nn.1 M
  | _ => False
def oRetF (mc ms : Nat) (P : PO) : OP := fun _ _ st nn M => match st with
  | [.float x] => nn.2.1 ≤ mc ∧ nn.2.2 ≤ ms ∧ P (.inl (some (.float x))) nn.1 M
  | _ => False
def oRetD (mc ms : Nat) (P : PO) : OP := fun _ _ st nn M => match st with
  | [.double x] => nn.2.1 ≤ mc ∧ nn.2.2 ≤ ms ∧ P (.inl (some (.double x))) nn.1 M
  | _ => False
def oRetA (mc ms : Nat) (P : PO) : OP := fun _ _ st nn M => match st with
  | [.ref x] => nn.2.1 ≤ mc ∧ nn.2.2 ≤ ms ∧ P (.inl (some (.ref x))) nn.1 M
  | _ => False
def oRetV (mc ms : Nat) (P : PO) : OP := fun _ _ st nn M => match st with
  | [] => nn.2.1 ≤ mc ∧ nn.2.2 ≤ ms ∧ P (.inl none) nn.1 M
  | _ => False
theorem snd_retI (hM : FM p l s m args meth c D cA nL ad0 n0 sz cc own (some .int) tb nm) (hdg : decode cc pc = .ok (.ireturn, 1)) : Snd (jM p l e s m args below meth c D cA nL ad0 n0 sz d mc ms P) pc (oRetI mc ms P) := by
  intro K lv st nn M hk h ad H locs ls hP hD hS hl hg
  obtain ⟨⟨hx, hb, hml, hown, hts, hK, hA, hlk⟩, hst, ham, hsz, hr, htb, hnm⟩ := hM
  unfold oRetI at h
  split at h
  · obtain ⟨h1, h2, h⟩ := h
    exact vx_ret (W.widen h1 h2 (W.zret hx hb hr rfl (fun t ht hW => ⟨_, nn.1, M, ad, rfl, h, hg, by rw [ht]; exact hP, hD, hS.F ht⟩) hS.2.2 hdg hlk))
  · exact h.elim
theorem snd_retZ (hM : FM p l s m args meth c D cA nL ad0 n0 sz cc own (some .boolean) tb nm) (hdg : decode cc pc = .ok (.ireturn, 1)) : Snd (jM p l e s m args below meth c D cA nL ad0 n0 sz d mc ms P) pc (oRetZ mc ms P) := by
  intro K lv st nn M hk h ad H locs ls hP hD hS hl hg
  obtain ⟨⟨hx, hb, hml, hown, hts, hK, hA, hlk⟩, hst, ham, hsz, hr, htb, hnm⟩ := hM
  unfold oRetZ at h
  split at h
  · obtain ⟨hz, h1, h2, h⟩ := h
    exact vx_ret (W.widen h1 h2 (W.zret hx hb hr (by rcases hz with rfl | rfl <;> decide +kernel) (fun t ht hW => ⟨_, nn.1, M, ad, rfl, h, hg, by rw [ht]; exact hP, hD, hS.F ht⟩) hS.2.2 hdg hlk))
  · exact h.elim
theorem snd_retC (hM : FM p l s m args meth c D cA nL ad0 n0 sz cc own (some .char) tb nm) (hdg : decode cc pc = .ok (.ireturn, 1)) : Snd (jM p l e s m args below meth c D cA nL ad0 n0 sz d mc ms P) pc (oRetC mc ms P) := by
  intro K lv st nn M hk h ad H locs ls hP hD hS hl hg
  obtain ⟨⟨hx, hb, hml, hown, hts, hK, hA, hlk⟩, hst, ham, hsz, hr, htb, hnm⟩ := hM
  unfold oRetC at h
  split at h
  · obtain ⟨hz, h1, h2, h⟩ := h
    exact vx_ret (W.widen h1 h2 (W.zret hx hb hr hz (fun t ht hW => ⟨_, nn.1, M, ad, rfl, h, hg, by rw [ht]; exact hP, hD, hS.F ht⟩) hS.2.2 hdg hlk))
  · exact h.elim
theorem snd_retF (hM : FM p l s m args meth c D cA nL ad0 n0 sz cc own (some .float) tb nm) (hdg : decode cc pc = .ok (.freturn, 1)) : Snd (jM p l e s m args below meth c D cA nL ad0 n0 sz d mc ms P) pc (oRetF mc ms P) := by
  intro K lv st nn M hk h ad H locs ls hP hD hS hl hg
  obtain ⟨⟨hx, hb, hml, hown, hts, hK, hA, hlk⟩, hst, ham, hsz, hr, htb, hnm⟩ := hM
  unfold oRetF at h
  split at h
  · obtain ⟨h1, h2, h⟩ := h
    exact vx_ret (W.widen h1 h2 (W.fret hx hb hr (fun t ht hW => ⟨_, nn.1, M, ad, rfl, h, hg, by rw [ht]; exact hP, hD, hS.F ht⟩) hS.2.2 hdg hlk))
  · exact h.elim
theorem snd_retD (hM : FM p l s m args meth c D cA nL ad0 n0 sz cc own (some .double) tb nm) (hdg : decode cc pc = .ok (.dreturn, 1)) : Snd (jM p l e s m args below meth c D cA nL ad0 n0 sz d mc ms P) pc (oRetD mc ms P) := by
  intro K lv st nn M hk h ad H locs ls hP hD hS hl hg
  obtain ⟨⟨hx, hb, hml, hown, hts, hK, hA, hlk⟩, hst, ham, hsz, hr, htb, hnm⟩ := hM
  unfold oRetD at h
  split at h
  · obtain ⟨h1, h2, h⟩ := h
    exact vx_ret (W.widen h1 h2 (W.dret hx hb hr (fun t ht hW => ⟨_, nn.1, M, ad, rfl, h, hg, by rw [ht]; exact hP, hD, hS.F ht⟩) hS.2.2 hdg hlk))
  · exact h.elim
theorem snd_retV (hM : FM p l s m args meth c D cA nL ad0 n0 sz cc own none tb nm) (hdg : decode cc pc = .ok (.return_, 1)) : Snd (jM p l e s m args below meth c D cA nL ad0 n0 sz d mc ms P) pc (oRetV mc ms P) := by
  intro K lv st nn M hk h ad H locs ls hP hD hS hl hg
  obtain ⟨⟨hx, hb, hml, hown, hts, hK, hA, hlk⟩, hst, ham, hsz, hr, htb, hnm⟩ := hM
  unfold oRetV at h
  split at h
  · obtain ⟨h1, h2, h⟩ := h
    exact vx_ret (W.widen h1 h2 (W.vret hx hb hr (fun t ht hW => ⟨_, nn.1, M, ad, rfl, h, hg, by rw [ht]; exact hP, hD, hS.F ht⟩) hS.2.2 hdg hlk))
  · exact h.elim
theorem cb_ws {args : Array Value} {s : State} {y : MethodName} {cw : Cond} (hts : ∀ w ∈ PWS, w.before args s = true) (hc : cw ∈ PWS) : ∀ w ∈ cw :: PWS, ∀ (a' : Array Value) (U : State), s.WarmedH U.vm → w.before a' U = true := by
  intro w hw a' U hW
  have h9 : w ∈ PWS := by
    rcases List.mem_cons.mp hw with rfl | h
    · exact hc
    · exact h
  exact stW_move (pws_st h9) (hts w h9) hW
/-- what a call row asks of a callee -/
def CalOK (y : MethodName) (bytes : ByteArray) (maxL : Nat) (ret : Option FieldType) (n : Nat) : Prop :=
  Cond.code y bytes maxL ret ∈ PWS ∧ Cond.initialized y.cls ∈ PWS ∧ (y.cls ≠ "java/lang/invoke/MethodHandle" ∧ y.cls ≠ "java/lang/invoke/VarHandle") ∧ (parseMethodDescriptor y.desc).map (fun d => d.parameters.length) = some n ∧ maxL ≤ 21
theorem CalOK.len {y : MethodName} {bytes : ByteArray} {maxL n : Nat} {ret : Option FieldType} (h : CalOK y bytes maxL ret n) : ∀ sig, parseMethodDescriptor y.desc = some sig → n = sig.parameters.length := by
  intro sig h9
  have h2 := h.2.2.2.1
  rw [h9] at h2
  exact (Option.some.inj h2).symm
theorem cb_of {args : Array Value} {s : State} {y : MethodName} {bytes : ByteArray} {maxL n d d' mc ms mc' ms' idx : Nat} {ret : Option FieldType} {own : String} (hts : ∀ w ∈ PWS, w.before args s = true) (hC : CalOK y bytes maxL ret n) (hd : d' ≤ d) (hl : Cond.methodLink own idx y ∈ PWS) : CallB (rmD (d + 1) mc ms) s args own idx y bytes maxL ret (Cond.code y bytes maxL ret :: PWS) (rmD d' mc' ms') mc' ms' n :=
  ⟨rfl, rfl, by show d' + 1 ≤ d + 1; omega, by show 8 + (maxL + 11) + 40 * d' ≤ 40 * (d + 1); have := hC.2.2.2.2; omega, cb_ws (y := y) hts hC.1, List.mem_cons_self, hts _ hC.1, hts _ hC.2.1, hC.2.2.1, hC.len, hts _ hl⟩
theorem cn_of {args : Array Value} {s : State} {y : MethodName} {bytes : ByteArray} {maxL n d d' mc ms mc' ms' idx : Nat} {ret : Option FieldType} {own host : String} (hts : ∀ w ∈ PWS, w.before args s = true) (hC : CalOK y bytes maxL ret n) (hd : d' ≤ d) (hl : Cond.methodLinkNest own idx y host ∈ PWS) : va_CN (rmD (d + 1) mc ms) s args own idx y host bytes maxL ret (Cond.code y bytes maxL ret :: PWS) (rmD d' mc' ms') mc' ms' n :=
  ⟨⟨rfl, rfl, by show d' + 1 ≤ d + 1; omega, by show 8 + (maxL + 11) + 40 * d' ≤ 40 * (d + 1); have := hC.2.2.2.2; omega, cb_ws (y := y) hts hC.1, List.mem_cons_self⟩, hts _ hC.1, hts _ hC.2.1, hC.2.2.1, hC.len, hts _ hl⟩
def oCallS (d mc ms : Nat) (P : PO) (mc' ms' : Nat) (y : MethodName) (cw : Cond) (tot nx : Nat) : OP := fun K lv st nn M =>
  (tot ≤ st.length ∧ ((st.drop tot).map (fun v => v.category)).sum ≤ 8 ∧ nn.2.1 + mc' ≤ mc ∧ nn.2.2 + ms' ≤ ms) ∧ CallOK d mc' ms' y cw ((st.take tot).reverse) nn.1 M (fun o n' M' => match o with
    | .inl v => n' = nn.1 ∧ K nx lv (v.toList ++ st.drop tot) (nn.1, nn.2.1 + mc', nn.2.2 + ms') M'
    | .inr k => P (.inr k) n' M')
def recvP (ci n : Nat) : List Value → Prop
  | .ref b :: _ => (shp b).1 = ci ∧ b < n
  | _ => False
def oCallV (d mc ms : Nat) (P : PO) (mc' ms' : Nat) (y : MethodName) (cw : Cond) (tot ci nx : Nat) : OP := fun K lv st nn M =>
  recvP ci nn.1 ((st.take (tot + 1)).reverse) ∧ oCallS d mc ms P mc' ms' y cw (tot + 1) nx K lv st nn M
theorem map_split (ad : Nat → Nat) (st : List Value) (tot : Nat) : st.map (trV ad) = (((st.take tot).reverse.map (trV ad)).reverse) ++ (st.drop tot).map (trV ad) := by
  rw [← List.map_reverse, List.reverse_reverse, ← List.map_append, List.take_append_drop]
theorem cat_map (ad : Nat → Nat) (st : List Value) : ((st.map (trV ad)).map fun v => v.category).sum = (st.map fun v => v.category).sum := by
  rw [List.map_map]
  congr 1
  apply List.map_congr_left
  intro v _
  exact trV_cat ad v
set_option maxHeartbeats 200000 in
theorem snd_callS (hM : FM p l s m args meth c D cA nL ad0 n0 sz cc own ret0 [] nm) {y : MethodName} {bytes : ByteArray} {maxL n idx mc' ms' : Nat} {ret : Option FieldType} (hC : CalOK y bytes maxL ret n) (hl9 : Cond.methodLink own idx y ∈ PWS) (hs9 : Cond.static y ∈ PWS) (hdg : decode cc pc = .ok (.invokestatic idx, 3)) : Snd (jM p l e s m args below meth c D cA nL ad0 n0 sz (d + 1) mc ms P) pc (oCallS d mc ms P mc' ms' y (Cond.code y bytes maxL ret) n (pc + 3)) := by
  intro K lv st nn M hk h ad H locs ls hP hD hS hl hg
  obtain ⟨⟨hx, hb, hml, hown, hts, hK, hA, hlk⟩, hst, ham, hsz, hr, htb, hnm⟩ := hM
  unfold oCallS at h
  obtain ⟨⟨hlen, hcat, hmc, hms⟩, hcall⟩ := h
  obtain ⟨d', hd', hMet⟩ := hcall l hst D cA ad H.size
  have hpre := preP_of (av := (st.take n).reverse) hK hA ham hP hD hS hg.2.2.1
  have hrun := vx_runS (p := p) (e := e) (R := rmD (d + 1) mc ms) (below := below) (meth := meth) (H := H) (locs := locs) (cells := nn.2.1) (slots := nn.2.2) (g := F0 m pc ls (st.map (trV ad))) (rest := (st.drop n).map (trV ad)) (As := (st.take n).reverse.map (trV ad)) ⟨hx, hb, hml, hown, hts⟩ hMet ⟨cb_of hts hC hd' hl9, hts _ hs9⟩ ⟨preP_blind _ _ _ _ _ _ _, hpre⟩ rfl (by simp; omega) hl.1.1 (map_split ad st n) (by rw [cat_map]; exact lv_room hcat) hdg ⟨hmc, hms⟩
  exact call_core (P := P) (mc := mc) (ms := ms) rfl hk hA hD hS hl hg (rest := st.drop n) hrun (fun v n' M' h9 => h9) (fun k n' M' ad' H1 locs1 q ce hp hadx hPw hDw hS1 hce hcv hcl => vx_out (by rw [htb]; intro x hx9; cases hx9) hlk hce hcv hcl (fun t ht _ => ⟨k, n', M', ad', rfl, hp, ⟨fun i hi => (hadx.1 i (Nat.lt_of_lt_of_le hi hg.2.1)).trans (hg.1 i hi), Nat.le_trans hg.2.1 hadx.2.1, hadx.2.2.1, fun e9 => by have e8 : n' = nn.1 := Nat.le_antisymm (by rw [e9]; exact hg.2.1) hadx.2.1; rw [hadx.2.2.2 e8]; exact hg.2.2.2 (e8.symm.trans e9)⟩, by rw [ht]; exact hPw, hDw, hS1.F ht⟩) hS1.2.2 hmc hms)
set_option maxHeartbeats 200000 in
theorem snd_callSN (hM : FM p l s m args meth c D cA nL ad0 n0 sz cc own ret0 [] nm) {y : MethodName} {bytes : ByteArray} {maxL n idx mc' ms' : Nat} {ret : Option FieldType} (hC : CalOK y bytes maxL ret n) {host : String} (hl9 : Cond.methodLinkNest own idx y host ∈ PWS) (hs9 : Cond.static y ∈ PWS) (hdg : decode cc pc = .ok (.invokestatic idx, 3)) : Snd (jM p l e s m args below meth c D cA nL ad0 n0 sz (d + 1) mc ms P) pc (oCallS d mc ms P mc' ms' y (Cond.code y bytes maxL ret) n (pc + 3)) := by
  intro K lv st nn M hk h ad H locs ls hP hD hS hl hg
  obtain ⟨⟨hx, hb, hml, hown, hts, hK, hA, hlk⟩, hst, ham, hsz, hr, htb, hnm⟩ := hM
  unfold oCallS at h
  obtain ⟨⟨hlen, hcat, hmc, hms⟩, hcall⟩ := h
  obtain ⟨d', hd', hMet⟩ := hcall l hst D cA ad H.size
  have hpre := preP_of (av := (st.take n).reverse) hK hA ham hP hD hS hg.2.2.1
  have hrun := vx_runSN (p := p) (e := e) (R := rmD (d + 1) mc ms) (below := below) (meth := meth) (H := H) (locs := locs) (cells := nn.2.1) (slots := nn.2.2) (g := F0 m pc ls (st.map (trV ad))) (rest := (st.drop n).map (trV ad)) (As := (st.take n).reverse.map (trV ad)) ⟨hx, hb, hml, hown, hts⟩ hMet ⟨cn_of hts hC hd' hl9, hts _ hs9, trivial⟩ ⟨preP_blind _ _ _ _ _ _ _, hpre⟩ rfl (by simp; omega) hl.1.1 (map_split ad st n) (by rw [cat_map]; exact lv_room hcat) hdg ⟨hmc, hms⟩
  exact call_core (P := P) (mc := mc) (ms := ms) rfl hk hA hD hS hl hg (rest := st.drop n) hrun (fun v n' M' h9 => h9) (fun k n' M' ad' H1 locs1 q ce hp hadx hPw hDw hS1 hce hcv hcl => vx_out (by rw [htb]; intro x hx9; cases hx9) hlk hce hcv hcl (fun t ht _ => ⟨k, n', M', ad', rfl, hp, ⟨fun i hi => (hadx.1 i (Nat.lt_of_lt_of_le hi hg.2.1)).trans (hg.1 i hi), Nat.le_trans hg.2.1 hadx.2.1, hadx.2.2.1, fun e9 => by have e8 : n' = nn.1 := Nat.le_antisymm (by rw [e9]; exact hg.2.1) hadx.2.1; rw [hadx.2.2.2 e8]; exact hg.2.2.2 (e8.symm.trans e9)⟩, by rw [ht]; exact hPw, hDw, hS1.F ht⟩) hS1.2.2 hmc hms)
set_option maxHeartbeats 200000 in
theorem snd_callV (hM : FM p l s m args meth c D cA nL ad0 n0 sz cc own ret0 [] nm) {y : MethodName} {bytes : ByteArray} {maxL n idx mc' ms' : Nat} {ret : Option FieldType} (hC : CalOK y bytes maxL ret n) {C : String} {T : u_T} {N ci : Nat} {ty0 : Nat → FieldType} (hCl : ClsOK ci C T N ty0) (hl9 : Cond.methodLink own idx y ∈ PWS) (hi9 : Cond.instanceMethod y ∈ PWS) (hse : (Cond.selects C y y).before args s = true) (hdg : decode cc pc = .ok (.invokevirtual idx, 3)) : Snd (jM p l e s m args below meth c D cA nL ad0 n0 sz (d + 1) mc ms P) pc (oCallV d mc ms P mc' ms' y (Cond.code y bytes maxL ret) n ci (pc + 3)) := by
  intro K lv st nn M hk h ad H locs ls hP hD hS hl hg
  obtain ⟨⟨hx, hb, hml, hown, hts, hK, hA, hlk⟩, hst, ham, hsz, hr, htb, hnm⟩ := hM
  unfold oCallV at h
  obtain ⟨hrec, h⟩ := h
  unfold oCallS at h
  obtain ⟨⟨hlen, hcat, hmc, hms⟩, hcall⟩ := h
  obtain ⟨d', hd', hMet⟩ := hcall l hst D cA ad H.size
  have hpre := preP_of (av := (st.take (n + 1)).reverse) hK hA ham hP hD hS hg.2.2.1
  cases hsp : (st.take (n + 1)).reverse with
  | nil => rw [hsp] at hrec; exact hrec.elim
  | cons v0 as0 =>
    rw [hsp] at hrec hMet hpre
    cases v0 with
    | ref b =>
      obtain ⟨hsb, hbn⟩ := hrec
      have hlen2 : as0.length = n := by have h9 := congrArg List.length hsp; simp at h9; omega
      have hstk : st.map (trV ad) = (as0.map (trV ad)).reverse ++ Value.ref (adr ad b) :: (st.drop (n + 1)).map (trV ad) := by
        rw [map_split ad st (n + 1), hsp]
        simp [trV]
      have hcell := va_recv hK hP (a := adr ad b) (q0 := b) (ci := ci) hCl.1 (by rw [pw_get hbn, trE_obj hsb hCl.2.2.2.2.2, adr_lt hbn hg.2.2.1])
      have hrun := vx_runV (p := p) (e := e) (R := rmD (d + 1) mc ms) (below := below) (meth := meth) (H := H) (locs := locs) (cells := nn.2.1) (slots := nn.2.2) (g := F0 m pc ls (st.map (trV ad))) (rest := (st.drop (n + 1)).map (trV ad)) (b := adr ad b) (As := as0.map (trV ad)) (C := C) ⟨hx, hb, hml, hown, hts⟩ hMet ⟨cb_of hts hC hd' hl9, hts _ hi9, hse⟩ ⟨preP_blind _ _ _ _ _ _ _, hcell, hpre⟩ rfl (by simpa using hlen2) hl.1.1 hstk (by rw [cat_map]; exact lv_room hcat) hdg ⟨hmc, hms⟩
      exact call_core (P := P) (mc := mc) (ms := ms) rfl hk hA hD hS hl hg (rest := st.drop (n + 1)) hrun (fun v n' M' h9 => h9) (fun k n' M' ad' H1 locs1 q ce hp hadx hPw hDw hS1 hce hcv hcl => vx_out (by rw [htb]; intro x hx9; cases hx9) hlk hce hcv hcl (fun t ht _ => ⟨k, n', M', ad', rfl, hp, ⟨fun i hi => (hadx.1 i (Nat.lt_of_lt_of_le hi hg.2.1)).trans (hg.1 i hi), Nat.le_trans hg.2.1 hadx.2.1, hadx.2.2.1, fun e9 => by have e8 : n' = nn.1 := Nat.le_antisymm (by rw [e9]; exact hg.2.1) hadx.2.1; rw [hadx.2.2.2 e8]; exact hg.2.2.2 (e8.symm.trans e9)⟩, by rw [ht]; exact hPw, hDw, hS1.F ht⟩) hS1.2.2 hmc hms)
    | _ => exact hrec.elim
set_option maxHeartbeats 200000 in
theorem snd_callVN (hM : FM p l s m args meth c D cA nL ad0 n0 sz cc own ret0 [] nm) {y : MethodName} {bytes : ByteArray} {maxL n idx mc' ms' : Nat} {ret : Option FieldType} (hC : CalOK y bytes maxL ret n) {C host : String} {T : u_T} {N ci : Nat} {ty0 : Nat → FieldType} (hCl : ClsOK ci C T N ty0) (hl9 : Cond.methodLinkNest own idx y host ∈ PWS) (hi9 : Cond.instanceMethod y ∈ PWS) (hse : (Cond.selects C y y).before args s = true) (hdg : decode cc pc = .ok (.invokevirtual idx, 3)) : Snd (jM p l e s m args below meth c D cA nL ad0 n0 sz (d + 1) mc ms P) pc (oCallV d mc ms P mc' ms' y (Cond.code y bytes maxL ret) n ci (pc + 3)) := by
  intro K lv st nn M hk h ad H locs ls hP hD hS hl hg
  obtain ⟨⟨hx, hb, hml, hown, hts, hK, hA, hlk⟩, hst, ham, hsz, hr, htb, hnm⟩ := hM
  unfold oCallV at h
  obtain ⟨hrec, h⟩ := h
  unfold oCallS at h
  obtain ⟨⟨hlen, hcat, hmc, hms⟩, hcall⟩ := h
  obtain ⟨d', hd', hMet⟩ := hcall l hst D cA ad H.size
  have hpre := preP_of (av := (st.take (n + 1)).reverse) hK hA ham hP hD hS hg.2.2.1
  cases hsp : (st.take (n + 1)).reverse with
  | nil => rw [hsp] at hrec; exact hrec.elim
  | cons v0 as0 =>
    rw [hsp] at hrec hMet hpre
    cases v0 with
    | ref b =>
      obtain ⟨hsb, hbn⟩ := hrec
      have hlen2 : as0.length = n := by have h9 := congrArg List.length hsp; simp at h9; omega
      have hstk : st.map (trV ad) = (as0.map (trV ad)).reverse ++ Value.ref (adr ad b) :: (st.drop (n + 1)).map (trV ad) := by
        rw [map_split ad st (n + 1), hsp]
        simp [trV]
      have hcell := va_recv hK hP (a := adr ad b) (q0 := b) (ci := ci) hCl.1 (by rw [pw_get hbn, trE_obj hsb hCl.2.2.2.2.2, adr_lt hbn hg.2.2.1])
      have hrun := vx_runVN (p := p) (e := e) (R := rmD (d + 1) mc ms) (below := below) (meth := meth) (H := H) (locs := locs) (cells := nn.2.1) (slots := nn.2.2) (g := F0 m pc ls (st.map (trV ad))) (rest := (st.drop (n + 1)).map (trV ad)) (b := adr ad b) (As := as0.map (trV ad)) (C := C) ⟨hx, hb, hml, hown, hts⟩ hMet ⟨cn_of hts hC hd' hl9, hts _ hi9, hse⟩ ⟨preP_blind _ _ _ _ _ _ _, hcell, hpre⟩ rfl (by simpa using hlen2) hl.1.1 hstk (by rw [cat_map]; exact lv_room hcat) hdg ⟨hmc, hms⟩
      exact call_core (P := P) (mc := mc) (ms := ms) rfl hk hA hD hS hl hg (rest := st.drop (n + 1)) hrun (fun v n' M' h9 => h9) (fun k n' M' ad' H1 locs1 q ce hp hadx hPw hDw hS1 hce hcv hcl => vx_out (by rw [htb]; intro x hx9; cases hx9) hlk hce hcv hcl (fun t ht _ => ⟨k, n', M', ad', rfl, hp, ⟨fun i hi => (hadx.1 i (Nat.lt_of_lt_of_le hi hg.2.1)).trans (hg.1 i hi), Nat.le_trans hg.2.1 hadx.2.1, hadx.2.2.1, fun e9 => by have e8 : n' = nn.1 := Nat.le_antisymm (by rw [e9]; exact hg.2.1) hadx.2.1; rw [hadx.2.2.2 e8]; exact hg.2.2.2 (e8.symm.trans e9)⟩, by rw [ht]; exact hPw, hDw, hS1.F ht⟩) hS1.2.2 hmc hms)
    | _ => exact hrec.elim
set_option maxHeartbeats 200000 in
theorem snd_callU (hM : FM p l s m args meth c D cA nL ad0 n0 sz cc own ret0 [] nm) {y : MethodName} {bytes : ByteArray} {maxL n idx mc' ms' : Nat} {ret : Option FieldType} (hC : CalOK y bytes maxL ret n) {C owner : String} {x : MethodName} {T : u_T} {N ci : Nat} {ty0 : Nat → FieldType} (hCl : ClsOK ci C T N ty0) (hl9 : Cond.methodLink own idx x ∈ PWS) (hs9 : Cond.sameMethod x.cls owner x.name x.desc ∈ PWS) (hd9 : Cond.declares ⟨owner, x.name, x.desc⟩ ∈ PWS) (hsx : Cond.selects C x y ∈ PWS) (hi9 : Cond.instanceMethod y ∈ PWS) (ho9 : owner ≠ "java/lang/invoke/MethodHandle" ∧ owner ≠ "java/lang/invoke/VarHandle") (hde : x.desc = y.desc) (hdg : decode cc pc = .ok (.invokevirtual idx, 3)) : Snd (jM p l e s m args below meth c D cA nL ad0 n0 sz (d + 1) mc ms P) pc (oCallV d mc ms P mc' ms' y (Cond.code y bytes maxL ret) n ci (pc + 3)) := by
  intro K lv st nn M hk h ad H locs ls hP hD hS hl hg
  obtain ⟨⟨hx, hb, hml, hown, hts, hK, hA, hlk⟩, hst, ham, hsz, hr, htb, hnm⟩ := hM
  unfold oCallV at h
  obtain ⟨hrec, h⟩ := h
  unfold oCallS at h
  obtain ⟨⟨hlen, hcat, hmc, hms⟩, hcall⟩ := h
  obtain ⟨d', hd', hMet⟩ := hcall l hst D cA ad H.size
  have hpre := preP_of (av := (st.take (n + 1)).reverse) hK hA ham hP hD hS hg.2.2.1
  cases hsp : (st.take (n + 1)).reverse with
  | nil => rw [hsp] at hrec; exact hrec.elim
  | cons v0 as0 =>
    rw [hsp] at hrec hMet hpre
    cases v0 with
    | ref b =>
      obtain ⟨hsb, hbn⟩ := hrec
      have hlen2 : as0.length = n := by have h9 := congrArg List.length hsp; simp at h9; omega
      have hstk : st.map (trV ad) = (as0.map (trV ad)).reverse ++ Value.ref (adr ad b) :: (st.drop (n + 1)).map (trV ad) := by
        rw [map_split ad st (n + 1), hsp]
        simp [trV]
      have hcell := va_recv hK hP (a := adr ad b) (q0 := b) (ci := ci) hCl.1 (by rw [pw_get hbn, trE_obj hsb hCl.2.2.2.2.2, adr_lt hbn hg.2.2.1])
      have hrun := vx_runU (p := p) (e := e) (R := rmD (d + 1) mc ms) (below := below) (meth := meth) (H := H) (locs := locs) (cells := nn.2.1) (slots := nn.2.2) (g := F0 m pc ls (st.map (trV ad))) (rest := (st.drop (n + 1)).map (trV ad)) (b := adr ad b) (As := as0.map (trV ad)) (C := C) (x := x) (owner := owner) ⟨hx, hb, hml, hown, hts⟩ hMet ⟨⟨rfl, rfl, by show d' + 1 ≤ d + 1; omega, by show 8 + (maxL + 11) + 40 * d' ≤ 40 * (d + 1); have := hC.2.2.2.2; omega, cb_ws (y := y) hts hC.1, List.mem_cons_self⟩, hts _ hC.1, hts _ hC.2.1, ho9, (by rw [hde]; exact hC.len), hts _ hl9, hts _ hs9, va_Decl.abs (va_Nw.of rfl (hts _ hd9)), hts _ hsx, hts _ hi9⟩ ⟨preP_blind _ _ _ _ _ _ _, hcell, hpre⟩ rfl (by simpa using hlen2) hl.1.1 hstk (by rw [cat_map]; exact lv_room hcat) hdg ⟨hmc, hms⟩
      exact call_core (P := P) (mc := mc) (ms := ms) rfl hk hA hD hS hl hg (rest := st.drop (n + 1)) hrun (fun v n' M' h9 => h9) (fun k n' M' ad' H1 locs1 q ce hp hadx hPw hDw hS1 hce hcv hcl => vx_out (by rw [htb]; intro x hx9; cases hx9) hlk hce hcv hcl (fun t ht _ => ⟨k, n', M', ad', rfl, hp, ⟨fun i hi => (hadx.1 i (Nat.lt_of_lt_of_le hi hg.2.1)).trans (hg.1 i hi), Nat.le_trans hg.2.1 hadx.2.1, hadx.2.2.1, fun e9 => by have e8 : n' = nn.1 := Nat.le_antisymm (by rw [e9]; exact hg.2.1) hadx.2.1; rw [hadx.2.2.2 e8]; exact hg.2.2.2 (e8.symm.trans e9)⟩, by rw [ht]; exact hPw, hDw, hS1.F ht⟩) hS1.2.2 hmc hms)
    | _ => exact hrec.elim
end RET
