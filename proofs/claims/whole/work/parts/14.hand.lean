/-! ===== methods with handlers; the law's own calls ===== -/
section HAND
variable {p : Program} {l : Launch} {e : Env} {s : State} {m : MethodId} {args : Array Value} {below : List Frame} {meth : Method} {c : Code} {D : va_G} {cA : Nat → ClassId} {nL : Nat} {ad0 : Nat → Nat} {n0 sz d mc ms : Nat} {P : PO} {ret0 : Option FieldType} {cc : ByteArray} {own : String} {tb : List ExceptionTableEntry} {nm : String} {pc : Nat}
def hcase (hs : List (Nat × Nat)) (K : KT) (lv : LV) (nn : NN) (M' : PM) (k : Nat) : Prop := match hs.lookup k with
  | some h => ∀ q, K h lv [.ref (1000000 + q)] nn M'
  | none => False
def oCallH (d mc ms mc' ms' : Nat) (y : MethodName) (cw : Cond) (tot ci nx : Nat) (hs : List (Nat × Nat)) : OP := fun K lv st nn M =>
  recvP ci nn.1 ((st.take (tot + 1)).reverse) ∧ (tot + 1 ≤ st.length ∧ ((st.drop (tot + 1)).map (fun v => v.category)).sum ≤ 8 ∧ nn.2.1 + mc' ≤ mc ∧ nn.2.2 + ms' ≤ ms) ∧ CallOK d mc' ms' y cw ((st.take (tot + 1)).reverse) nn.1 M (fun o n' M' => n' = nn.1 ∧ match o with
    | .inl v => K nx lv (v.toList ++ st.drop (tot + 1)) (nn.1, nn.2.1 + mc', nn.2.2 + ms') M'
    | .inr k => hcase hs K lv (nn.1, nn.2.1 + mc', nn.2.2 + ms') M' k)
def HdOK (tb : List ExceptionTableEntry) (own : String) (pc k h : Nat) : Prop := ∃ pre x suf, tb = pre ++ x :: suf ∧ x.handlerPc = h ∧ covers x pc = true ∧ x.catchType ≠ 0 ∧ Cond.classLink own x.catchType (exN k) ∈ PWS ∧ Cond.castable (exN k) (exN k) ∈ PWS ∧ ∀ z ∈ pre, z.catchType ≠ 0 ∧ ∃ j, k < 5 ∧ j < 5 ∧ k ≠ j ∧ Cond.classLink own z.catchType (exN j) ∈ PWS
theorem hsN {Q : Nat → Nat → Prop} : ∀ k h, ([] : List (Nat × Nat)).lookup k = some h → Q k h := fun k h hk => by cases hk
theorem hsC {a b : Nat} {t : List (Nat × Nat)} {Q : Nat → Nat → Prop} (h1 : Q a b) (h2 : ∀ k h, t.lookup k = some h → Q k h) : ∀ k h, ((a, b) :: t).lookup k = some h → Q k h := by
  intro k h hk
  by_cases hka : k = a
  · subst hka
    rw [List.lookup_cons_self] at hk
    cases hk
    exact h1
  · have h9 : (k == a) = false := by simpa using hka
    rw [List.lookup_cons, h9] at hk
    exact h2 k h hk
theorem snd_callH (hM : FM p l s m args meth c D cA nL ad0 n0 sz cc own ret0 tb nm) {y : MethodName} {bytes : ByteArray} {maxL n idx mc' ms' : Nat} {ret : Option FieldType} {hs : List (Nat × Nat)} (hC : CalOK y bytes maxL ret n) {C : String} {T : u_T} {N ci : Nat} {ty0 : Nat → FieldType} (hCl : ClsOK ci C T N ty0) (hl9 : Cond.methodLink own idx y ∈ PWS) (hi9 : Cond.instanceMethod y ∈ PWS) (hse : (Cond.selects C y y).before args s = true) (hH : ∀ k h, hs.lookup k = some h → HdOK tb own pc k h) (hdg : decode cc pc = .ok (.invokevirtual idx, 3)) : Snd (jM p l e s m args below meth c D cA nL ad0 n0 sz (d + 1) mc ms P) pc (oCallH d mc ms mc' ms' y (Cond.code y bytes maxL ret) n ci (pc + 3) hs) := by
  intro K lv st nn M hk h ad H locs ls hP hD hS hl hg
  obtain ⟨⟨hx, hb, hml, hown, hts, hK, hA, hlk⟩, hst, ham, hsz, hr, htb, hnm⟩ := hM
  unfold oCallH at h
  obtain ⟨hrec, ⟨hlen, hcat, hmc, hms⟩, hcall⟩ := h
  obtain ⟨d', hd', hMet⟩ := hcall l hst D cA ad H.size
  have hpre := preP_of (av := (st.take (n + 1)).reverse) hK hA ham hP hD hS hg.2.2.1
  cases hsp : (st.take (n + 1)).reverse with
  | nil => rw [hsp] at hrec; exact hrec.elim
  | cons v0 as0 =>
    rw [hsp] at hrec hMet hpre
    cases v0 with
    | ref b =>
      obtain ⟨hsb, hbn⟩ := hrec
      have hlen2 : as0.length = n := by have h9 := congrArg List.length hsp; simp at h9; omega
      have hstk : st.map (trV ad) = (as0.map (trV ad)).reverse ++ Value.ref (adr ad b) :: (st.drop (n + 1)).map (trV ad) := by
        rw [map_split ad st (n + 1), hsp]
        simp [trV]
      have hcell := va_recv hK hP (a := adr ad b) (q0 := b) (ci := ci) hCl.1 (by rw [pw_get hbn, trE_obj hsb hCl.2.2.2.2.2, adr_lt hbn hg.2.2.1])
      have hrun := vx_runV (p := p) (e := e) (R := rmD (d + 1) mc ms) (below := below) (meth := meth) (H := H) (locs := locs) (cells := nn.2.1) (slots := nn.2.2) (g := F0 m pc ls (st.map (trV ad))) (rest := (st.drop (n + 1)).map (trV ad)) (b := adr ad b) (As := as0.map (trV ad)) (C := C) ⟨hx, hb, hml, hown, hts⟩ hMet ⟨cb_of hts hC hd' hl9, hts _ hi9, hse⟩ ⟨preP_blind _ _ _ _ _ _ _, hcell, hpre⟩ rfl (by simpa using hlen2) hl.1.1 hstk (by rw [cat_map]; exact lv_room hcat) hdg ⟨hmc, hms⟩
      refine call_core (P := P) (mc := mc) (ms := ms) rfl hk hA hD hS hl hg (rest := st.drop (n + 1)) hrun (fun v n' M' h9 => h9) ?_
      intro k n' M' ad' H1 locs1 q ce hp hadx hPw hDw hS1 hce hcv hcl
      obtain ⟨hn', hp⟩ := hp
      subst hn'
      have hae := hadx.2.2.2 rfl
      subst hae
      have hp : hcase hs K lv (nn.1, nn.2.1 + mc', nn.2.2 + ms') M' k := hp
      unfold hcase at hp
      split at hp
      · next h9 hlook =>
        obtain ⟨pre, x, suf, t1, t2, t3, t4, t5, t6, t7⟩ := hH k h9 hlook
        subst t2
        have hw := hk _ _ _ _ _ (hp q) ad' H1 locs1 ls hPw hDw hS1 hl hg
        simp only [List.map_cons, List.map_nil, trV, adr_raw] at hw
        exact vx_catch hown pre x suf (htb.trans t1) (fun z hz => Or.inr ⟨(t7 z hz).1, by obtain ⟨j, j1, j2, j3, j4⟩ := (t7 z hz).2; exact ⟨exN j, hts _ j4, ham.2.2.2.2 k j j1 j2 j3⟩⟩) t3 t4 (hts _ t5) (hts _ t6) hce hcv hcl hw
      · exact hp.elim
    | _ => exact hrec.elim
theorem call_introH {y : MethodName} {cc : ByteArray} {nL d mc ms n : Nat} {ret : Option FieldType} {own : String} {av : List Value} {M : PM} {P : PO} {T : List (Nat × OP)} {hh : List (Nat × Nat × Nat × Nat)} (hy : plainName y.cls = true) (ho : y.cls = own) (hw : wid av ≤ nL)
    (hT : ∀ (p : Program) (l : Launch) (e : Env) (s : State) (m : MethodId) (args : Array Value) (below : List Frame) (meth : Method) (c : Code) (D : va_G) (cA : Nat → ClassId) (ad0 : Nat → Nat) (sz : Nat), FM p l s m args meth c D cA nL ad0 n sz cc own ret (tableOf hh) y.name → ∀ q ∈ T, Snd (jM p l e s m args below meth c D cA nL ad0 n sz d mc ms P) q.1 q.2)
    (hb : ∀ J : KT, (∀ (k : Nat) (stops : Nat → Bool) (pc : Nat) (lv : LV) (st : List Value) (nn : NN) (M : PM), lk T pc (wpN T stops k J) lv st nn M → J pc lv st nn M) → J 0 (entA 0 av) [] (n, 0, 0) M) :
    CallOK d mc ms y (Cond.codeWith y cc nL ret hh) av n M P := by
  intro l hl D cA ad sz
  refine ⟨d, Nat.le_refl d, vx_ofWH (cc := cc) (maxL := nL) (ret := ret) (hh := hh) hy rfl (fun p e s m args below meth c s₁ B hml hv => ?_)⟩
  obtain ⟨rfl, hsz, hn, hP, hD, hK, ham⟩ := hv
  subst hsz
  have hts := atoms_spec (ws := Cond.codeWith y cc nL ret hh :: PWS) B.pre
  have hown : s.vm.findClass own = some m.cls := by rw [← ho]; exact findClass_of_methodNamed B.named
  have hM : FM p l s m (av.map (trV ad)).toArray meth c D cA nL ad n s.heap.size cc own ret (tableOf hh) y.name := ⟨⟨B.exec, B.bytes, hml, hown, fun w h => hts w (List.mem_cons_of_mem _ h), hK, fun q h => Or.inr h, B.notSynchronized⟩, hl, ham, rfl, B.returns, vx_table (x := y) B (hts _ List.mem_cons_self), (name_of_methodNamed B.named B.method).1⟩
  have hsn := hT p l e s m (av.map (trV ad)).toArray below meth c D cA ad s.heap.size hM
  have hJ := hb (jM p l e s m (av.map (trV ad)).toArray below meth c D cA nL ad n s.heap.size d mc ms P) (fun k stops pc lv st nn M h => lk_snd hsn pc _ lv st nn M (fun pc lv st nn M h9 => wpN_snd hsn k pc lv st nn M h9) h)
  rw [lg_entry_eq]
  have hle := lv_entry (av.map (trV ad)) (n := nL) (by rw [lg_sl_len]; exact hw)
  refine hJ ad s.heap [] _ hP ⟨hD.1, fun k q hk => ?_⟩ va_S.rf (lvok_sub hle (fun j v hv => ?_)) ⟨fun _ _ => rfl, Nat.le_refl _, hn, fun _ => rfl⟩
  · by_cases hkn : k < n
    · rw [pw_get hkn] at hk
      cases hk
      exact Or.inl ⟨k, hkn, rfl⟩
    · rw [List.getElem?_eq_none (by simp [pw]; omega)] at hk
      cases hk
  · have h9 := entA_args ad av 0 j v hv
    refine ⟨?_, h9⟩
    have h8 := hle.2.2 _ h9
    have h7 := (Array.getElem?_eq_some_iff.mp h8).1
    rw [hle.1] at h7
    exact h7
end HAND
