/-! ===== contracts over the pure memory; calls, returns ===== -/
def exN (k : Nat) : String := ["java/lang/IllegalArgumentException", "java/lang/IllegalStateException", "java/lang/IndexOutOfBoundsException", "java/lang/UnsupportedOperationException", "java/util/NoSuchElementException"].getD k ""
def STRS : List (Nat × String) := [(85, "a byte is not a character of a text"), (95, "the buffer would have too many characters"), (109, "the text has a fault"), (119, "there are too many statements or nodes"), (132, "there is no such mode"), (137, "the number of iterations is out of range"), (256, "there is no such array or index"), (146, "the value is out of range"), (253, "there is no such variable"), (260, "the variable has no chain"), (263, "no cursor is open"), (192, "there is no further node"), (265, "there is no such order"), (267, "the width is out of range"), (272, "a statement has an operator for ints only"), (274, "the loop is not parallel"), (222, "no ints are kept as results"), (227, "no floats are kept as results"), (232, "no results of this mode are kept"), (249, "there is no snapshot")]
/-- what holds of the start beside the words: statics, text constants -/
def Amb (A : Nat → Prop) (U : State) (H : Heap) : Prop :=
  vx_Zq Bundle.tN "UNASSIGNED_STACK" Bundle.steD A U H ∧ vx_Zq Bundle.tN "SUPPRESSED_SENTINEL" Bundle.listD A U H ∧ (∀ q ∈ STRS, ∃ a, vk_R RX9 q.1 q.2 a U) ∧ va_Z "java/lang/Math" "negativeZeroFloatBits" "J" (.long (-2147483648)) A U H ∧ (∀ i j, i < 5 → j < 5 → i ≠ j → va_Nc (exN i) (exN j) U)
theorem Amb.next {A B : Nat → Prop} {s U : State} {H H1 : Heap} (h : Amb A s H) (hq : ∀ a : Nat, a < H.size → ¬ A a → H1[a]? = H[a]?) (hAB : ∀ q, B q → A q) (hW : s.WarmedH U.vm) : Amb B U H1 :=
  ⟨((h.1.kept hq).moved hW.alike).narrow hAB, ((h.2.1.kept hq).moved hW.alike).narrow hAB, fun q hq9 => by obtain ⟨a, ha⟩ := h.2.2.1 q hq9; exact ⟨a, vk_R.warm hW ha⟩, ((h.2.2.2.1.kept hq).moved hW.alike).narrow hAB, fun i j h1 h2 h3 => (h.2.2.2.2 i j h1 h2 h3).moved hW.alike⟩
theorem Amb.same {A : Nat → Prop} {s U : State} {H : Heap} (h : Amb A s H) (hv : U.vm = s.vm) : Amb A U H :=
  have ha : s.vm.Alike U.vm := by rw [hv]; exact Vm.Alike.refl s.vm
  ⟨h.1.moved ha, h.2.1.moved ha, fun q hq9 => by obtain ⟨a, h9⟩ := h.2.2.1 q hq9; exact ⟨a, vk_R.same hv h9⟩, h.2.2.2.1.moved ha, fun i j h1 h2 h3 => (h.2.2.2.2 i j h1 h2 h3).moved ha⟩
def pA (ad : Nat → Nat) (n sz : Nat) : Nat → Prop := fun q => (∃ k, k < n ∧ q = ad k) ∨ sz ≤ q
def rmD (d mc ms : Nat) : Room := { frames := d, cells := mc, slots := ms, locals := 40 * d }
def PreP (D : va_G) (cA : Nat → ClassId) (ad : Nat → Nat) (n sz : Nat) (M : PM) (av : List Value) : Array Value → State → Prop :=
  va_Pc (av.map (trV ad)) (fun U => U.heap.size = sz ∧ n < 1000000 ∧ va_P D pcl (pw cA ad n M) U.heap ∧ va_D (fun _ => True) (pw cA ad n M) ∧ va_K D pcl (ptys cA) U ∧ Amb (pA ad n sz) U U.heap)
def adx (ad ad' : Nat → Nat) (n n' : Nat) : Prop := (∀ k, k < n → ad' k = ad k) ∧ n ≤ n' ∧ n' < 1000000 ∧ (n' = n → ad' = ad)
def QR (D : va_G) (cA : Nat → ClassId) (ad : Nat → Nat) (n sz : Nat) (P : PO) : Array Value → State → Outcome → State → Prop := fun _ st oc t =>
  ∃ (v : Option Value) (n' : Nat) (M' : PM) (ad' : Nat → Nat), oc = .returned (v.map (trV ad')) ∧ P (.inl v) n' M' ∧ adx ad ad' n n' ∧ va_P D pcl (pw cA ad' n' M') t.heap ∧ va_D (pA ad n sz) (pw cA ad' n' M') ∧ va_F (pA ad n sz) st t
def QX (D : va_G) (cA : Nat → ClassId) (ad : Nat → Nat) (n sz : Nat) (P : PO) : String → State → State → Prop := fun E st t =>
  ∃ (k : Nat) (n' : Nat) (M' : PM) (ad' : Nat → Nat), E = exN k ∧ P (.inr k) n' M' ∧ adx ad ad' n n' ∧ va_P D pcl (pw cA ad' n' M') t.heap ∧ va_D (pA ad n sz) (pw cA ad' n' M') ∧ va_F (pA ad n sz) st t
/-- a call of y with arguments av in the memory M of n cells comes back, with P of what it answers (or throws) and leaves; d frames below, mc cells of ms slots at most are new -/
def CallOK (d mc ms : Nat) (y : MethodName) (cw : Cond) (av : List Value) (n : Nat) (M : PM) (P : PO) : Prop :=
  ∀ (l : Launch), l.stackTraces = false → ∀ (D : va_G) (cA : Nat → ClassId) (ad : Nat → Nat) (sz : Nat), ∃ d', d' ≤ d ∧ vx_Met l y (cw :: PWS) (rmD d' mc ms) (PreP D cA ad n sz M av) (QR D cA ad n sz P) (QX D cA ad n sz P) mc ms (pA ad n sz)
theorem CallOK.mono {d d' mc ms : Nat} {y : MethodName} {cw : Cond} {av : List Value} {n : Nat} {M : PM} {P : PO} (h : CallOK d mc ms y cw av n M P) (hd : d ≤ d') : CallOK d' mc ms y cw av n M P := by
  intro l hl D cA ad sz
  obtain ⟨k, hk, hM⟩ := h l hl D cA ad sz
  exact ⟨k, Nat.le_trans hk hd, hM⟩
theorem CallOK.weaken {d mc ms : Nat} {y : MethodName} {cw : Cond} {av : List Value} {n : Nat} {M : PM} {P P' : PO} (h : CallOK d mc ms y cw av n M P) (hP : ∀ o n' M', P o n' M' → P' o n' M') : CallOK d mc ms y cw av n M P' := by
  intro l hl D cA ad sz
  obtain ⟨k, hk, hM⟩ := h l hl D cA ad sz
  refine ⟨k, hk, ?_⟩
  intro p e ha hc hk9 s m args below hf happ hpre htr
  obtain ⟨t, o, h1, h2, h3, h4⟩ := hM p e ha hc hk9 s m args below hf happ hpre htr
  refine ⟨t, o, h1, h2, h3, ?_⟩
  rcases h4 with ⟨⟨v, n', M', ad', e1, e2, e3⟩, hL⟩ | ⟨q, e0, E, ce, L, ⟨k9, n', M', ad', e1, e2, e3⟩, e4⟩
  · exact Or.inl ⟨⟨v, n', M', ad', e1, hP _ _ _ e2, e3⟩, hL⟩
  · exact Or.inr ⟨q, e0, E, ce, L, ⟨k9, n', M', ad', e1, hP _ _ _ e2, e3⟩, e4⟩
theorem pA_sub {ad ad0 : Nat → Nat} {n n0 : Nat} {A : Nat → Prop} {cA : Nat → ClassId} {M : PM} {H0 H : Heap} {locs : List Loc} (hD : va_D A (pw cA ad n M)) (hS : va_S A H0 H locs) (hA : ∀ q, H0.size ≤ q → A q) : ∀ q, pA ad n H.size q → A q := by
  intro q h
  rcases h with ⟨k, hk, rfl⟩ | h
  · exact hD.2 k _ (pw_get hk)
  · exact hA q (Nat.le_trans hS.1 h)
theorem preP_blind (D : va_G) (cA : Nat → ClassId) (ad : Nat → Nat) (n sz : Nat) (M : PM) (av : List Value) : FrameBlind (PreP D cA ad n sz M av) := by
  intro a U g mk h
  obtain ⟨h1, h2, h3, h4, h5, h6, h7⟩ := h
  exact ⟨h1, h2, h3, h4, h5, va_K.moved (u := U) (U := U.calling g mk a) (Vm.Alike.refl U.vm) h6, h7.same rfl⟩
section CALLS
variable {p : Program} {l : Launch} {e : Env} {R : Room} {s : State} {m : MethodId} {args : Array Value} {below : List Frame} {meth : Method} {c : Code} {Q : State → Prop} {D : va_G} {cA : Nat → ClassId} {A : Nat → Prop} {nL : Nat} {ad0 : Nat → Nat} {n0 : Nat} {cc : ByteArray} {own : String} {pc : Nat}
theorem preP_of {D : va_G} {cA : Nat → ClassId} {ad : Nat → Nat} {n : Nat} {M : PM} {H : Heap} {locs : List Loc} {av : List Value} (hK : va_K D pcl (ptys cA) s) (hA : ∀ q, s.heap.size ≤ q → A q) (ham : Amb A s s.heap) (hP : va_P D pcl (pw cA ad n M) H) (hD : va_D A (pw cA ad n M)) (hS : va_S A s.heap H locs) (hn : n < 1000000) : ∀ U : State, U.heap = H → s.WarmedH U.vm → PreP D cA ad n H.size M av (av.map (trV ad)).toArray U := by
  intro U hU hW
  subst hU
  exact ⟨rfl, rfl, hn, hP, hD.weaken (fun _ _ _ _ => trivial), va_K.moved hW.alike hK, ham.next hS.2.1 (pA_sub (ad0 := ad) (n0 := n) hD hS hA) hW⟩
/-- behind a call -/
theorem call_core {K : KT} {lv : LV} {nn : NN} {M : PM} {P P' : PO} {ad : Nat → Nat} {H : Heap} {locs : List Loc} {ls : Array Slot} {mc ms mc' ms' : Nat} {st0 rest : List Value} {a : Array Value} {nx : Nat} (hnx : nx = pc + 3)
    (hk : ∀ pc lv st nn M, K pc lv st nn M → jJ p l e R s m args below meth c Q D cA A nL ad0 n0 pc lv st nn M)
    (hA : ∀ q, s.heap.size ≤ q → A q) (hD : va_D A (pw cA ad nn.1 M)) (hS : va_S A s.heap H locs) (hl : lvok ad ls nL lv) (hg : adx ad0 ad n0 nn.1)
    (run : vx_Run p l e R s m args below meth c H locs nn.2.1 nn.2.2 mc' ms' (F0 m pc ls st0) (rest.map (trV ad)) (QR D cA ad nn.1 H.size P' a) (QX D cA ad nn.1 H.size P') (pA ad nn.1 H.size))
    (hr : ∀ v n' M', P' (.inl v) n' M' → n' = nn.1 ∧ K nx lv (v.toList ++ rest) (nn.1, nn.2.1 + mc', nn.2.2 + ms') M')
    (hx : ∀ k n' M' ad' H1 locs1 q ce, P' (.inr k) n' M' → adx ad ad' nn.1 n' → va_P D pcl (pw cA ad' n' M') H1 → va_D A (pw cA ad' n' M') → va_S A s.heap H1 locs1 → H1[q]? = some ce → ce.vm = .none → s.vm.findClass (exN k) = some ce.cls → vx_W p l e R s m args below meth c H1 locs1 (nn.2.1 + mc') (nn.2.2 + ms') Q (F0 m pc ls (rest.map (trV ad))) q) :
    W p l e R s m args below meth c H locs nn.2.1 nn.2.2 Q (F0 m pc ls st0) := by
  have hsub := pA_sub (ad0 := ad) (n0 := 0) hD hS hA
  intro T hT X
  rcases run T hT X with ⟨v, st₀, t, T', L, h0, X', hL, e1, e2, ⟨v9, n', M', ad', hv, hp, hadx, hPw, hDw, hF⟩, go⟩ | ⟨q, st₀, t, T', L, E, ce, h0, X', hL, e1, e2, ⟨k9, n', M', ad', hE, hp, hadx, hPw, hDw, hF⟩, hce, hcv, hcl, go⟩
  · have hv : v = v9.map (trV ad') := by injection hv
    subst hv
    obtain ⟨k1, k2, k3⟩ := vx_keep h0 e1 hS (fun q _ h => hsub q h) hsub hL hF
    obtain ⟨hn', hK⟩ := hr v9 n' M' hp
    have hae : ad' = ad := hadx.2.2.2 hn'
    subst hae
    subst hn'
    subst hnx
    obtain ⟨t2, a1, b1⟩ := hk _ _ _ _ _ hK ad' T'.heap (locs ++ L) ls (by rw [e1]; exact hPw) (hDw.weaken (fun _ q _ h => hsub q.1 h)) k3 hl hg T' rfl X'
    refine ⟨t2, go t2 ?_, b1⟩
    have e9 : (v9.toList ++ rest).map (trV ad') = (v9.map (trV ad')).toList ++ rest.map (trV ad') := by cases v9 <;> simp
    rw [e9] at a1
    exact a1
  · subst hE
    obtain ⟨k1, k2, k3⟩ := vx_keep h0 e1 hS (fun q _ h => hsub q h) hsub hL hF
    obtain ⟨t2, a1, b1⟩ := hx k9 n' M' ad' T'.heap (locs ++ L) q ce hp hadx (by rw [e1]; exact hPw) (hDw.weaken (fun _ q _ h => hsub q.1 h)) k3 (by rw [e1]; exact hce) hcv hcl T' rfl X'
    exact ⟨t2, go.trans a1, b1⟩
end CALLS
