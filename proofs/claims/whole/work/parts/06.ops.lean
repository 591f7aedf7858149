/-! ===== operations as predicate transformers, each sound over the machine ===== -/
def stW : Cond → Bool
  | .fieldLinkNest .. => true
  | .methodLinkNest .. => true
  | .castable .. => true
  | .declares _ => true
  | .privateMethod _ => true
  | .arrayOver (.object _) => true
  | .arrayOver (.array _) => true
  | w => goodWord w
noncomputable def PWS : List Cond := Classical.choose (⟨lw_tbl.filter stW, rfl⟩ : ∃ l : List Cond, l = lw_tbl.filter stW)
theorem PWS_eq : PWS = lw_tbl.filter stW := Classical.choose_spec (⟨lw_tbl.filter stW, rfl⟩ : ∃ l : List Cond, l = lw_tbl.filter stW)
theorem stW_move {w : Cond} {args a' : Array Value} {s U : State} (h : stW w = true) (hb : w.before args s = true) (hW : s.WarmedH U.vm) : w.before a' U = true := by
  by_cases hg : goodWord w = true
  · exact word_at hW (good_of_word hg) hb
  · cases w with
    | fieldLinkNest a i b n d h => exact va_Nw.use rfl (va_Nw.warmF hW (va_Nw.of rfl hb))
    | methodLinkNest a i x h => exact va_Nw.use rfl (va_Nw.warmM hW (va_Nw.of rfl hb))
    | castable a b => exact va_tabs rfl (rfl : (s.setVm U.vm).vm = U.vm) ((Cond.castable_setVm (args := args) hW.alike a b).trans hb)
    | declares x => exact va_tabs rfl (rfl : (s.setVm U.vm).vm = U.vm) ((Cond.declares_setVm (args := args) hW.alike x).trans hb)
    | privateMethod x => exact va_tabs rfl (rfl : (s.setVm U.vm).vm = U.vm) ((Cond.privateMethod_setVm (args := args) hW.alike x).trans hb)
    | arrayOver ty =>
      cases ty with
      | object C => exact va_AO.use (va_AO.moved hW.alike (va_AO.of hb))
      | array ty => exact va_AOA.use (va_AOA.moved hW.alike (va_AOA.of hb))
      | _ => exact absurd h hg
    | _ => exact absurd h hg
theorem pws_mem {w : Cond} (i : Nat) (h : lw_tbl[i]? = some w) (hw : stW w = true) : w ∈ PWS := by rw [PWS_eq]; exact List.mem_filter.mpr ⟨List.mem_of_getElem? h, hw⟩
theorem pws_st {w : Cond} (h : w ∈ PWS) : stW w = true := by rw [PWS_eq] at h; exact (List.mem_filter.mp h).2
/-- what a method's body rests on -/
def Fx (p : Program) (s : State) (m : MethodId) (args : Array Value) (meth : Method) (c : Code) (D : va_G) (cA : Nat → ClassId) (A : Nat → Prop) (nL : Nat) (cc : ByteArray) (own : String) : Prop :=
  p.tables.exec = Jvm.exec ∧ c.code = cc ∧ c.maxLocals = nL ∧ s.vm.findClass own = some m.cls ∧ (∀ w ∈ PWS, w.before args s = true) ∧ va_K D pcl (ptys cA) s ∧ (∀ q, s.heap.size ≤ q → A q) ∧ meth.locks = false
def jJ (p : Program) (l : Launch) (e : Env) (R : Room) (s : State) (m : MethodId) (args : Array Value) (below : List Frame) (meth : Method) (c : Code) (Q : State → Prop) (D : va_G) (cA : Nat → ClassId) (A : Nat → Prop) (nL : Nat) (ad0 : Nat → Nat) (n0 : Nat) : KT := fun pc lv st nn M =>
  ∀ (ad : Nat → Nat) (H : Heap) (locs : List Loc) (ls : Array Slot), va_P D pcl (pw cA ad nn.1 M) H → va_D A (pw cA ad nn.1 M) → va_S A s.heap H locs → lvok ad ls nL lv → ((∀ k, k < n0 → ad k = ad0 k) ∧ n0 ≤ nn.1 ∧ nn.1 < 1000000 ∧ (nn.1 = n0 → ad = ad0)) → W p l e R s m args below meth c H locs nn.2.1 nn.2.2 Q (F0 m pc ls (st.map (trV ad)))
def Snd (J : KT) (pc : Nat) (op : OP) : Prop := ∀ (K : KT) (lv : LV) (st : List Value) (nn : NN) (M : PM), (∀ pc lv st nn M, K pc lv st nn M → J pc lv st nn M) → op K lv st nn M → J pc lv st nn M
section OPS
variable {p : Program} {l : Launch} {e : Env} {R : Room} {s : State} {m : MethodId} {args : Array Value} {below : List Frame} {meth : Method} {c : Code} {Q : State → Prop} {D : va_G} {cA : Nat → ClassId} {A : Nat → Prop} {nL : Nat} {ad0 : Nat → Nat} {n0 : Nat} {cc : ByteArray} {own : String} {pc : Nat}
def oPush (v : Value) (nx : Nat) : OP := fun K lv st nn M => K nx lv (v :: st) nn M
theorem snd_iconst (hF : Fx p s m args meth c D cA A nL cc own) {n : Int} {v : Int32} (hv : Int32.ofInt n = v) (hdg : decode cc pc = .ok (.iconst n, 1)) : Snd (jJ p l e R s m args below meth c Q D cA A nL ad0 n0) pc (oPush (.int v) (pc + 1)) := by
  intro K lv st nn M hk h ad H locs ls hP hD hS hl hg
  obtain ⟨hx, hb, hml, hown, hts, hK, hA, hlk⟩ := hF
  exact lv_iconst hx hb hdg hv (hk _ _ _ _ _ h ad H locs ls hP hD hS hl hg)
theorem snd_bipush (hF : Fx p s m args meth c D cA A nL cc own) {n : Int} {v : Int32} (hv : (Int8.ofInt n).toInt32 = v) (hdg : decode cc pc = .ok (.bipush n, 2)) : Snd (jJ p l e R s m args below meth c Q D cA A nL ad0 n0) pc (oPush (.int v) (pc + 2)) := by
  intro K lv st nn M hk h ad H locs ls hP hD hS hl hg
  obtain ⟨hx, hb, hml, hown, hts, hK, hA, hlk⟩ := hF
  exact lv_bipush hx hb hdg hv (hk _ _ _ _ _ h ad H locs ls hP hD hS hl hg)
theorem snd_sipush (hF : Fx p s m args meth c D cA A nL cc own) {n : Int} {v : Int32} (hv : (Int16.ofInt n).toInt32 = v) (hdg : decode cc pc = .ok (.sipush n, 3)) : Snd (jJ p l e R s m args below meth c Q D cA A nL ad0 n0) pc (oPush (.int v) (pc + 3)) := by
  intro K lv st nn M hk h ad H locs ls hP hD hS hl hg
  obtain ⟨hx, hb, hml, hown, hts, hK, hA, hlk⟩ := hF
  exact lv_sipush hx hb hdg hv (hk _ _ _ _ _ h ad H locs ls hP hD hS hl hg)
theorem snd_lconst (hF : Fx p s m args meth c D cA A nL cc own) {n : Fin 2} {v : Int64} (hv : Int64.ofNat (n : Nat) = v) (hdg : decode cc pc = .ok (.lconst n, 1)) : Snd (jJ p l e R s m args below meth c Q D cA A nL ad0 n0) pc (oPush (.long v) (pc + 1)) := by
  intro K lv st nn M hk h ad H locs ls hP hD hS hl hg
  obtain ⟨hx, hb, hml, hown, hts, hK, hA, hlk⟩ := hF
  exact lv_lconst hx hb hdg hv (hk _ _ _ _ _ h ad H locs ls hP hD hS hl hg)
theorem snd_fconst0 (hF : Fx p s m args meth c D cA A nL cc own) (hdg : decode cc pc = .ok (.fconst 0, 1)) : Snd (jJ p l e R s m args below meth c Q D cA A nL ad0 n0) pc (oPush (.float FP.fconst0) (pc + 1)) := by
  intro K lv st nn M hk h ad H locs ls hP hD hS hl hg
  obtain ⟨hx, hb, hml, hown, hts, hK, hA, hlk⟩ := hF
  exact lv_fconst0 hx hb hdg (hk _ _ _ _ _ h ad H locs ls hP hD hS hl hg)
theorem snd_fconst1 (hF : Fx p s m args meth c D cA A nL cc own) (hdg : decode cc pc = .ok (.fconst 1, 1)) : Snd (jJ p l e R s m args below meth c Q D cA A nL ad0 n0) pc (oPush (.float FP.fconst1) (pc + 1)) := by
  intro K lv st nn M hk h ad H locs ls hP hD hS hl hg
  obtain ⟨hx, hb, hml, hown, hts, hK, hA, hlk⟩ := hF
  exact lv_fconst1 hx hb hdg (hk _ _ _ _ _ h ad H locs ls hP hD hS hl hg)
theorem snd_dconst0 (hF : Fx p s m args meth c D cA A nL cc own) (hdg : decode cc pc = .ok (.dconst 0, 1)) : Snd (jJ p l e R s m args below meth c Q D cA A nL ad0 n0) pc (oPush (.double FP.dconst0) (pc + 1)) := by
  intro K lv st nn M hk h ad H locs ls hP hD hS hl hg
  obtain ⟨hx, hb, hml, hown, hts, hK, hA, hlk⟩ := hF
  exact lv_dconst0 hx hb hdg (hk _ _ _ _ _ h ad H locs ls hP hD hS hl hg)
theorem snd_null (hF : Fx p s m args meth c D cA A nL cc own) (hdg : decode cc pc = .ok (.aconst_null, 1)) : Snd (jJ p l e R s m args below meth c Q D cA A nL ad0 n0) pc (oPush .null (pc + 1)) := by
  intro K lv st nn M hk h ad H locs ls hP hD hS hl hg
  obtain ⟨hx, hb, hml, hown, hts, hK, hA, hlk⟩ := hF
  exact lv_null hx hb hdg (hk _ _ _ _ _ h ad H locs ls hP hD hS hl hg)
theorem snd_ldc (hF : Fx p s m args meth c D cA A nL cc own) {i : Nat} {v : Int32} (hw : (Cond.constant own i v) ∈ PWS) (hdg : decode cc pc = .ok (.ldc i, 2)) : Snd (jJ p l e R s m args below meth c Q D cA A nL ad0 n0) pc (oPush (.int v) (pc + 2)) := by
  intro K lv st nn M hk h ad H locs ls hP hD hS hl hg
  obtain ⟨hx, hb, hml, hown, hts, hK, hA, hlk⟩ := hF
  exact lv_ldc hx hb hown (hts _ hw) hdg (hk _ _ _ _ _ h ad H locs ls hP hD hS hl hg)
theorem snd_ldcw (hF : Fx p s m args meth c D cA A nL cc own) {i : Nat} {v : Int32} (hw : (Cond.constant own i v) ∈ PWS) (hdg : decode cc pc = .ok (.ldc_w i, 3)) : Snd (jJ p l e R s m args below meth c Q D cA A nL ad0 n0) pc (oPush (.int v) (pc + 3)) := by
  intro K lv st nn M hk h ad H locs ls hP hD hS hl hg
  obtain ⟨hx, hb, hml, hown, hts, hK, hA, hlk⟩ := hF
  exact lv_ldcw hx hb hown (hts _ hw) hdg (hk _ _ _ _ _ h ad H locs ls hP hD hS hl hg)
theorem snd_ldcf (hF : Fx p s m args meth c D cA A nL cc own) {i : Nat} {v : UInt32} (hw : (Cond.constantFloat own i v) ∈ PWS) (hdg : decode cc pc = .ok (.ldc i, 2)) : Snd (jJ p l e R s m args below meth c Q D cA A nL ad0 n0) pc (oPush (.float v) (pc + 2)) := by
  intro K lv st nn M hk h ad H locs ls hP hD hS hl hg
  obtain ⟨hx, hb, hml, hown, hts, hK, hA, hlk⟩ := hF
  exact lv_ldcf hx hb hown (hts _ hw) hdg (hk _ _ _ _ _ h ad H locs ls hP hD hS hl hg)
def oIld (i nx : Nat) : OP := fun K lv st nn M => match lv i with
  | some (.int x) => K nx lv (.int x :: st) nn M
  | _ => False
def oFld (i nx : Nat) : OP := fun K lv st nn M => match lv i with
  | some (.float x) => K nx lv (.float x :: st) nn M
  | _ => False
def oDld (i nx : Nat) : OP := fun K lv st nn M => match lv i with
  | some (.double x) => K nx lv (.double x :: st) nn M
  | _ => False
def oAld (i nx : Nat) : OP := fun K lv st nn M => match lv i with
  | some (.ref x) => K nx lv (.ref x :: st) nn M
  | some .null => K nx lv (.null :: st) nn M
  | _ => False
theorem snd_iload (hF : Fx p s m args meth c D cA A nL cc own) {i : Nat} (hdg : decode cc pc = .ok (.iload i, 2)) : Snd (jJ p l e R s m args below meth c Q D cA A nL ad0 n0) pc (oIld i (pc + 2)) := by
  intro K lv st nn M hk h ad H locs ls hP hD hS hl hg
  obtain ⟨hx, hb, hml, hown, hts, hK, hA, hlk⟩ := hF
  unfold oIld at h
  split at h
  · next x hv => exact lv_iload hx hb hdg (lvok_at hl hv) (hk _ _ _ _ _ h ad H locs ls hP hD hS hl hg)
  · exact h.elim
theorem snd_iloadn (hF : Fx p s m args meth c D cA A nL cc own) {k : Fin 4} {i : Nat} (hi : (k : Nat) = i) (hdg : decode cc pc = .ok (.iload_n k, 1)) : Snd (jJ p l e R s m args below meth c Q D cA A nL ad0 n0) pc (oIld i (pc + 1)) := by
  intro K lv st nn M hk h ad H locs ls hP hD hS hl hg
  obtain ⟨hx, hb, hml, hown, hts, hK, hA, hlk⟩ := hF
  unfold oIld at h
  split at h
  · next x hv => exact lv_iload_n hx hb hdg hi (lvok_at hl hv) (hk _ _ _ _ _ h ad H locs ls hP hD hS hl hg)
  · exact h.elim
theorem snd_fload (hF : Fx p s m args meth c D cA A nL cc own) {i : Nat} (hdg : decode cc pc = .ok (.fload i, 2)) : Snd (jJ p l e R s m args below meth c Q D cA A nL ad0 n0) pc (oFld i (pc + 2)) := by
  intro K lv st nn M hk h ad H locs ls hP hD hS hl hg
  obtain ⟨hx, hb, hml, hown, hts, hK, hA, hlk⟩ := hF
  unfold oFld at h
  split at h
  · next x hv => exact lv_fload hx hb hdg (lvok_at hl hv) (hk _ _ _ _ _ h ad H locs ls hP hD hS hl hg)
  · exact h.elim
theorem snd_floadn (hF : Fx p s m args meth c D cA A nL cc own) {k : Fin 4} {i : Nat} (hi : (k : Nat) = i) (hdg : decode cc pc = .ok (.fload_n k, 1)) : Snd (jJ p l e R s m args below meth c Q D cA A nL ad0 n0) pc (oFld i (pc + 1)) := by
  intro K lv st nn M hk h ad H locs ls hP hD hS hl hg
  obtain ⟨hx, hb, hml, hown, hts, hK, hA, hlk⟩ := hF
  unfold oFld at h
  split at h
  · next x hv => exact lv_fload_n hx hb hdg hi (lvok_at hl hv) (hk _ _ _ _ _ h ad H locs ls hP hD hS hl hg)
  · exact h.elim
theorem snd_dload (hF : Fx p s m args meth c D cA A nL cc own) {i : Nat} (hdg : decode cc pc = .ok (.dload i, 2)) : Snd (jJ p l e R s m args below meth c Q D cA A nL ad0 n0) pc (oDld i (pc + 2)) := by
  intro K lv st nn M hk h ad H locs ls hP hD hS hl hg
  obtain ⟨hx, hb, hml, hown, hts, hK, hA, hlk⟩ := hF
  unfold oDld at h
  split at h
  · next x hv => exact lv_dload hx hb hdg (lvok_at hl hv) (hk _ _ _ _ _ h ad H locs ls hP hD hS hl hg)
  · exact h.elim
theorem snd_dloadn (hF : Fx p s m args meth c D cA A nL cc own) {k : Fin 4} {i : Nat} (hi : (k : Nat) = i) (hdg : decode cc pc = .ok (.dload_n k, 1)) : Snd (jJ p l e R s m args below meth c Q D cA A nL ad0 n0) pc (oDld i (pc + 1)) := by
  intro K lv st nn M hk h ad H locs ls hP hD hS hl hg
  obtain ⟨hx, hb, hml, hown, hts, hK, hA, hlk⟩ := hF
  unfold oDld at h
  split at h
  · next x hv => exact lv_dload_n hx hb hdg hi (lvok_at hl hv) (hk _ _ _ _ _ h ad H locs ls hP hD hS hl hg)
  · exact h.elim
theorem snd_aload (hF : Fx p s m args meth c D cA A nL cc own) {i : Nat} (hdg : decode cc pc = .ok (.aload i, 2)) : Snd (jJ p l e R s m args below meth c Q D cA A nL ad0 n0) pc (oAld i (pc + 2)) := by
  intro K lv st nn M hk h ad H locs ls hP hD hS hl hg
  obtain ⟨hx, hb, hml, hown, hts, hK, hA, hlk⟩ := hF
  unfold oAld at h
  split at h
  · next x hv => exact lv_aload hx hb hdg (lvok_at hl hv) (hk _ _ _ _ _ h ad H locs ls hP hD hS hl hg)
  · next hv => exact lv_aloadN hx hb hdg (lvok_at hl hv) (hk _ _ _ _ _ h ad H locs ls hP hD hS hl hg)
  · exact h.elim
theorem snd_aloadn (hF : Fx p s m args meth c D cA A nL cc own) {k : Fin 4} {i : Nat} (hi : (k : Nat) = i) (hdg : decode cc pc = .ok (.aload_n k, 1)) : Snd (jJ p l e R s m args below meth c Q D cA A nL ad0 n0) pc (oAld i (pc + 1)) := by
  intro K lv st nn M hk h ad H locs ls hP hD hS hl hg
  obtain ⟨hx, hb, hml, hown, hts, hK, hA, hlk⟩ := hF
  unfold oAld at h
  split at h
  · next x hv => exact lv_aload_n hx hb hdg hi (lvok_at hl hv) (hk _ _ _ _ _ h ad H locs ls hP hD hS hl hg)
  · next hv => exact lv_aload_nN hx hb hdg hi (lvok_at hl hv) (hk _ _ _ _ _ h ad H locs ls hP hD hS hl hg)
  · exact h.elim
def oIst (i nx : Nat) : OP := fun K lv st nn M => match st with
  | .int x :: r => K nx (lset lv i (.int x)) r nn M
  | _ => False
def oFst (i nx : Nat) : OP := fun K lv st nn M => match st with
  | .float x :: r => K nx (lset lv i (.float x)) r nn M
  | _ => False
def oDst (i nx : Nat) : OP := fun K lv st nn M => match st with
  | .double x :: r => K nx (lset2 lv i (.double x)) r nn M
  | _ => False
def oAst (i nx : Nat) : OP := fun K lv st nn M => match st with
  | .ref x :: r => K nx (lset lv i (.ref x)) r nn M
  | .null :: r => K nx (lset lv i .null) r nn M
  | _ => False
def oInc (i : Nat) (v : Int32) (nx : Nat) : OP := fun K lv st nn M => match lv i with
  | some (.int x) => K nx (lset lv i (.int (x + v))) st nn M
  | _ => False
theorem snd_istore (hF : Fx p s m args meth c D cA A nL cc own) {i : Nat} (hn : i < nL) (hdg : decode cc pc = .ok (.istore i, 2)) : Snd (jJ p l e R s m args below meth c Q D cA A nL ad0 n0) pc (oIst i (pc + 2)) := by
  intro K lv st nn M hk h ad H locs ls hP hD hS hl hg
  obtain ⟨hx, hb, hml, hown, hts, hK, hA, hlk⟩ := hF
  unfold oIst at h
  split at h
  · next x r => exact lv_istore hx hb hdg hl.1 hn rfl (fun ls1 hl1 => hk _ _ _ _ _ h ad H locs ls1 hP hD hS (lvok_set hl hn hl1) hg)
  · exact h.elim
theorem snd_istoren (hF : Fx p s m args meth c D cA A nL cc own) {k : Fin 4} {i : Nat} (hi : (k : Nat) = i) (hn : i < nL) (hdg : decode cc pc = .ok (.istore_n k, 1)) : Snd (jJ p l e R s m args below meth c Q D cA A nL ad0 n0) pc (oIst i (pc + 1)) := by
  intro K lv st nn M hk h ad H locs ls hP hD hS hl hg
  obtain ⟨hx, hb, hml, hown, hts, hK, hA, hlk⟩ := hF
  unfold oIst at h
  split at h
  · next x r => exact lv_istore_n hx hb hdg hi hl.1 hn rfl (fun ls1 hl1 => hk _ _ _ _ _ h ad H locs ls1 hP hD hS (lvok_set hl hn hl1) hg)
  · exact h.elim
theorem snd_fstore (hF : Fx p s m args meth c D cA A nL cc own) {i : Nat} (hn : i < nL) (hdg : decode cc pc = .ok (.fstore i, 2)) : Snd (jJ p l e R s m args below meth c Q D cA A nL ad0 n0) pc (oFst i (pc + 2)) := by
  intro K lv st nn M hk h ad H locs ls hP hD hS hl hg
  obtain ⟨hx, hb, hml, hown, hts, hK, hA, hlk⟩ := hF
  unfold oFst at h
  split at h
  · next x r => exact lv_fstore hx hb hdg hl.1 hn rfl (fun ls1 hl1 => hk _ _ _ _ _ h ad H locs ls1 hP hD hS (lvok_set hl hn hl1) hg)
  · exact h.elim
theorem snd_fstoren (hF : Fx p s m args meth c D cA A nL cc own) {k : Fin 4} {i : Nat} (hi : (k : Nat) = i) (hn : i < nL) (hdg : decode cc pc = .ok (.fstore_n k, 1)) : Snd (jJ p l e R s m args below meth c Q D cA A nL ad0 n0) pc (oFst i (pc + 1)) := by
  intro K lv st nn M hk h ad H locs ls hP hD hS hl hg
  obtain ⟨hx, hb, hml, hown, hts, hK, hA, hlk⟩ := hF
  unfold oFst at h
  split at h
  · next x r => exact lv_fstore_n hx hb hdg hi hl.1 hn rfl (fun ls1 hl1 => hk _ _ _ _ _ h ad H locs ls1 hP hD hS (lvok_set hl hn hl1) hg)
  · exact h.elim
theorem snd_dstore (hF : Fx p s m args meth c D cA A nL cc own) {i : Nat} (hn : i + 1 < nL) (hdg : decode cc pc = .ok (.dstore i, 2)) : Snd (jJ p l e R s m args below meth c Q D cA A nL ad0 n0) pc (oDst i (pc + 2)) := by
  intro K lv st nn M hk h ad H locs ls hP hD hS hl hg
  obtain ⟨hx, hb, hml, hown, hts, hK, hA, hlk⟩ := hF
  unfold oDst at h
  split at h
  · next x r => exact lv_dstore hx hb hdg hl.1 hn rfl (fun ls1 hl1 => hk _ _ _ _ _ h ad H locs ls1 hP hD hS (lvok_set2 hl hn hl1) hg)
  · exact h.elim
theorem snd_dstoren (hF : Fx p s m args meth c D cA A nL cc own) {k : Fin 4} {i : Nat} (hi : (k : Nat) = i) (hn : i + 1 < nL) (hdg : decode cc pc = .ok (.dstore_n k, 1)) : Snd (jJ p l e R s m args below meth c Q D cA A nL ad0 n0) pc (oDst i (pc + 1)) := by
  intro K lv st nn M hk h ad H locs ls hP hD hS hl hg
  obtain ⟨hx, hb, hml, hown, hts, hK, hA, hlk⟩ := hF
  unfold oDst at h
  split at h
  · next x r => exact lv_dstore_n hx hb hdg hi hl.1 hn rfl (fun ls1 hl1 => hk _ _ _ _ _ h ad H locs ls1 hP hD hS (lvok_set2 hl hn hl1) hg)
  · exact h.elim
theorem snd_astore (hF : Fx p s m args meth c D cA A nL cc own) {i : Nat} (hn : i < nL) (hdg : decode cc pc = .ok (.astore i, 2)) : Snd (jJ p l e R s m args below meth c Q D cA A nL ad0 n0) pc (oAst i (pc + 2)) := by
  intro K lv st nn M hk h ad H locs ls hP hD hS hl hg
  obtain ⟨hx, hb, hml, hown, hts, hK, hA, hlk⟩ := hF
  unfold oAst at h
  split at h
  · next x r => exact lv_astore hx hb hdg hl.1 hn rfl (fun ls1 hl1 => hk _ _ _ _ _ h ad H locs ls1 hP hD hS (lvok_set hl hn hl1) hg)
  · next r => exact lv_astoreN hx hb hdg hl.1 hn rfl (fun ls1 hl1 => hk _ _ _ _ _ h ad H locs ls1 hP hD hS (lvok_set hl hn hl1) hg)
  · exact h.elim
theorem snd_astoren (hF : Fx p s m args meth c D cA A nL cc own) {k : Fin 4} {i : Nat} (hi : (k : Nat) = i) (hn : i < nL) (hdg : decode cc pc = .ok (.astore_n k, 1)) : Snd (jJ p l e R s m args below meth c Q D cA A nL ad0 n0) pc (oAst i (pc + 1)) := by
  intro K lv st nn M hk h ad H locs ls hP hD hS hl hg
  obtain ⟨hx, hb, hml, hown, hts, hK, hA, hlk⟩ := hF
  unfold oAst at h
  split at h
  · next x r => exact lv_astore_n hx hb hdg hi hl.1 hn rfl (fun ls1 hl1 => hk _ _ _ _ _ h ad H locs ls1 hP hD hS (lvok_set hl hn hl1) hg)
  · next r => exact lv_astore_nN hx hb hdg hi hl.1 hn rfl (fun ls1 hl1 => hk _ _ _ _ _ h ad H locs ls1 hP hD hS (lvok_set hl hn hl1) hg)
  · exact h.elim
theorem snd_iinc (hF : Fx p s m args meth c D cA A nL cc own) {i : Nat} {n : Int} {v : Int32} (hv : Int32.ofInt n = v) (hn : i < nL) (hdg : decode cc pc = .ok (.iinc i n, 3)) : Snd (jJ p l e R s m args below meth c Q D cA A nL ad0 n0) pc (oInc i v (pc + 3)) := by
  intro K lv st nn M hk h ad H locs ls hP hD hS hl hg
  obtain ⟨hx, hb, hml, hown, hts, hK, hA, hlk⟩ := hF
  unfold oInc at h
  split at h
  · next x hx9 =>
    subst hv
    obtain ⟨k9, hk9⟩ := List.getElem?_of_mem (lls_mem (ad := ad) hn hx9)
    exact lv_iinc hx hb hdg hl.1 hk9 rfl hn rfl (fun ls1 hl1 => hk _ _ _ _ _ h ad H locs ls1 hP hD hS (lvok_set hl hn hl1) hg)
  · exact h.elim
def oI2 (f : Int32 → Int32 → Int32) (nx : Nat) : OP := fun K lv st nn M => match st with
  | .int y :: .int x :: r => K nx lv (.int (f x y) :: r) nn M
  | _ => False
def oI2n (f : Int32 → Int32 → Int32) (nx : Nat) : OP := fun K lv st nn M => match st with
  | .int y :: .int x :: r => ¬ y = 0 ∧ K nx lv (.int (f x y) :: r) nn M
  | _ => False
theorem snd_iadd (hF : Fx p s m args meth c D cA A nL cc own) (hdg : decode cc pc = .ok (.iadd, 1)) : Snd (jJ p l e R s m args below meth c Q D cA A nL ad0 n0) pc (oI2 (fun x y => x + y) (pc + 1)) := by
  intro K lv st nn M hk h ad H locs ls hP hD hS hl hg
  obtain ⟨hx, hb, hml, hown, hts, hK, hA, hlk⟩ := hF
  unfold oI2 at h
  split at h
  · exact lv_iadd hx hb hdg (hk _ _ _ _ _ h ad H locs ls hP hD hS hl hg)
  · exact h.elim
theorem snd_isub (hF : Fx p s m args meth c D cA A nL cc own) (hdg : decode cc pc = .ok (.isub, 1)) : Snd (jJ p l e R s m args below meth c Q D cA A nL ad0 n0) pc (oI2 (fun x y => x - y) (pc + 1)) := by
  intro K lv st nn M hk h ad H locs ls hP hD hS hl hg
  obtain ⟨hx, hb, hml, hown, hts, hK, hA, hlk⟩ := hF
  unfold oI2 at h
  split at h
  · exact lv_isub hx hb hdg (hk _ _ _ _ _ h ad H locs ls hP hD hS hl hg)
  · exact h.elim
theorem snd_imul (hF : Fx p s m args meth c D cA A nL cc own) (hdg : decode cc pc = .ok (.imul, 1)) : Snd (jJ p l e R s m args below meth c Q D cA A nL ad0 n0) pc (oI2 (fun x y => x * y) (pc + 1)) := by
  intro K lv st nn M hk h ad H locs ls hP hD hS hl hg
  obtain ⟨hx, hb, hml, hown, hts, hK, hA, hlk⟩ := hF
  unfold oI2 at h
  split at h
  · exact lv_imul hx hb hdg (hk _ _ _ _ _ h ad H locs ls hP hD hS hl hg)
  · exact h.elim
theorem snd_iand (hF : Fx p s m args meth c D cA A nL cc own) (hdg : decode cc pc = .ok (.iand, 1)) : Snd (jJ p l e R s m args below meth c Q D cA A nL ad0 n0) pc (oI2 (fun x y => x &&& y) (pc + 1)) := by
  intro K lv st nn M hk h ad H locs ls hP hD hS hl hg
  obtain ⟨hx, hb, hml, hown, hts, hK, hA, hlk⟩ := hF
  unfold oI2 at h
  split at h
  · exact lv_iand hx hb hdg (hk _ _ _ _ _ h ad H locs ls hP hD hS hl hg)
  · exact h.elim
theorem snd_ior (hF : Fx p s m args meth c D cA A nL cc own) (hdg : decode cc pc = .ok (.ior, 1)) : Snd (jJ p l e R s m args below meth c Q D cA A nL ad0 n0) pc (oI2 (fun x y => x ||| y) (pc + 1)) := by
  intro K lv st nn M hk h ad H locs ls hP hD hS hl hg
  obtain ⟨hx, hb, hml, hown, hts, hK, hA, hlk⟩ := hF
  unfold oI2 at h
  split at h
  · exact lv_ior hx hb hdg (hk _ _ _ _ _ h ad H locs ls hP hD hS hl hg)
  · exact h.elim
theorem snd_ixor (hF : Fx p s m args meth c D cA A nL cc own) (hdg : decode cc pc = .ok (.ixor, 1)) : Snd (jJ p l e R s m args below meth c Q D cA A nL ad0 n0) pc (oI2 (fun x y => x ^^^ y) (pc + 1)) := by
  intro K lv st nn M hk h ad H locs ls hP hD hS hl hg
  obtain ⟨hx, hb, hml, hown, hts, hK, hA, hlk⟩ := hF
  unfold oI2 at h
  split at h
  · exact lv_ixor hx hb hdg (hk _ _ _ _ _ h ad H locs ls hP hD hS hl hg)
  · exact h.elim
theorem snd_ishl (hF : Fx p s m args meth c D cA A nL cc own) (hdg : decode cc pc = .ok (.ishl, 1)) : Snd (jJ p l e R s m args below meth c Q D cA A nL ad0 n0) pc (oI2 (fun x y => x <<< (y &&& 31)) (pc + 1)) := by
  intro K lv st nn M hk h ad H locs ls hP hD hS hl hg
  obtain ⟨hx, hb, hml, hown, hts, hK, hA, hlk⟩ := hF
  unfold oI2 at h
  split at h
  · exact lv_ishl hx hb hdg (hk _ _ _ _ _ h ad H locs ls hP hD hS hl hg)
  · exact h.elim
theorem snd_ishr (hF : Fx p s m args meth c D cA A nL cc own) (hdg : decode cc pc = .ok (.ishr, 1)) : Snd (jJ p l e R s m args below meth c Q D cA A nL ad0 n0) pc (oI2 (fun x y => x >>> (y &&& 31)) (pc + 1)) := by
  intro K lv st nn M hk h ad H locs ls hP hD hS hl hg
  obtain ⟨hx, hb, hml, hown, hts, hK, hA, hlk⟩ := hF
  unfold oI2 at h
  split at h
  · exact lv_ishr hx hb hdg (hk _ _ _ _ _ h ad H locs ls hP hD hS hl hg)
  · exact h.elim
theorem snd_iushr (hF : Fx p s m args meth c D cA A nL cc own) (hdg : decode cc pc = .ok (.iushr, 1)) : Snd (jJ p l e R s m args below meth c Q D cA A nL ad0 n0) pc (oI2 (fun x y => (x.toUInt32 >>> (y.toUInt32 &&& Int32.toUInt32 31)).toInt32) (pc + 1)) := by
  intro K lv st nn M hk h ad H locs ls hP hD hS hl hg
  obtain ⟨hx, hb, hml, hown, hts, hK, hA, hlk⟩ := hF
  unfold oI2 at h
  split at h
  · exact lv_iushr hx hb hdg rfl (hk _ _ _ _ _ h ad H locs ls hP hD hS hl hg)
  · exact h.elim
theorem snd_idiv (hF : Fx p s m args meth c D cA A nL cc own) (hdg : decode cc pc = .ok (.idiv, 1)) : Snd (jJ p l e R s m args below meth c Q D cA A nL ad0 n0) pc (oI2n (fun x y => x / y) (pc + 1)) := by
  intro K lv st nn M hk h ad H locs ls hP hD hS hl hg
  obtain ⟨hx, hb, hml, hown, hts, hK, hA, hlk⟩ := hF
  unfold oI2n at h
  split at h
  · obtain ⟨h0, h⟩ := h
    exact lv_idiv hx hb hdg h0 (hk _ _ _ _ _ h ad H locs ls hP hD hS hl hg)
  · exact h.elim
theorem snd_irem (hF : Fx p s m args meth c D cA A nL cc own) (hdg : decode cc pc = .ok (.irem, 1)) : Snd (jJ p l e R s m args below meth c Q D cA A nL ad0 n0) pc (oI2n (fun x y => x - x / y * y) (pc + 1)) := by
  intro K lv st nn M hk h ad H locs ls hP hD hS hl hg
  obtain ⟨hx, hb, hml, hown, hts, hK, hA, hlk⟩ := hF
  unfold oI2n at h
  split at h
  · obtain ⟨h0, h⟩ := h
    exact lv_irem hx hb hdg h0 (hk _ _ _ _ _ h ad H locs ls hP hD hS hl hg)
  · exact h.elim
def oF2 (f : UInt32 → UInt32 → UInt32) (nx : Nat) : OP := fun K lv st nn M => match st with
  | .float y :: .float x :: r => vf_n32 (f x y) ∧ K nx lv (.float (f x y) :: r) nn M
  | _ => False
def oD2 (f : UInt64 → UInt64 → UInt64) (nx : Nat) : OP := fun K lv st nn M => match st with
  | .double y :: .double x :: r => vf_n64 (f x y) ∧ K nx lv (.double (f x y) :: r) nn M
  | _ => False
def oF2d (nx : Nat) : OP := fun K lv st nn M => match st with
  | .float x :: r => vf_n64 (FP.f2d x) ∧ K nx lv (.double (FP.f2d x) :: r) nn M
  | _ => False
def oIcv (f : Int32 → Value) (nx : Nat) : OP := fun K lv st nn M => match st with
  | .int x :: r => K nx lv (f x :: r) nn M
  | _ => False
def oFcmp (op : CmpOp) (nx : Nat) : OP := fun K lv st nn M => match st with
  | .float y :: .float x :: r => K nx lv (.int (Op.cmpValue (FP.fcmp x y) op) :: r) nn M
  | _ => False
def oDcmp (op : CmpOp) (nx : Nat) : OP := fun K lv st nn M => match st with
  | .double y :: .double x :: r => K nx lv (.int (Op.cmpValue (FP.dcmp x y) op) :: r) nn M
  | _ => False
def oLcmp (nx : Nat) : OP := fun K lv st nn M => match st with
  | .long y :: .long x :: r => K nx lv (.int (lg_cmp x y) :: r) nn M
  | _ => False
theorem snd_fadd (hF : Fx p s m args meth c D cA A nL cc own) (hdg : decode cc pc = .ok (.fadd, 1)) : Snd (jJ p l e R s m args below meth c Q D cA A nL ad0 n0) pc (oF2 FP.fadd (pc + 1)) := by
  intro K lv st nn M hk h ad H locs ls hP hD hS hl hg
  obtain ⟨hx, hb, hml, hown, hts, hK, hA, hlk⟩ := hF
  unfold oF2 at h
  split at h
  · obtain ⟨h0, h⟩ := h
    exact lv_fadd hx hb hdg h0 (hk _ _ _ _ _ h ad H locs ls hP hD hS hl hg)
  · exact h.elim
theorem snd_fsub (hF : Fx p s m args meth c D cA A nL cc own) (hdg : decode cc pc = .ok (.fsub, 1)) : Snd (jJ p l e R s m args below meth c Q D cA A nL ad0 n0) pc (oF2 FP.fsub (pc + 1)) := by
  intro K lv st nn M hk h ad H locs ls hP hD hS hl hg
  obtain ⟨hx, hb, hml, hown, hts, hK, hA, hlk⟩ := hF
  unfold oF2 at h
  split at h
  · obtain ⟨h0, h⟩ := h
    exact lv_fsub hx hb hdg h0 (hk _ _ _ _ _ h ad H locs ls hP hD hS hl hg)
  · exact h.elim
theorem snd_fmul (hF : Fx p s m args meth c D cA A nL cc own) (hdg : decode cc pc = .ok (.fmul, 1)) : Snd (jJ p l e R s m args below meth c Q D cA A nL ad0 n0) pc (oF2 FP.fmul (pc + 1)) := by
  intro K lv st nn M hk h ad H locs ls hP hD hS hl hg
  obtain ⟨hx, hb, hml, hown, hts, hK, hA, hlk⟩ := hF
  unfold oF2 at h
  split at h
  · obtain ⟨h0, h⟩ := h
    exact lv_fmul hx hb hdg h0 (hk _ _ _ _ _ h ad H locs ls hP hD hS hl hg)
  · exact h.elim
theorem snd_dsub (hF : Fx p s m args meth c D cA A nL cc own) (hdg : decode cc pc = .ok (.dsub, 1)) : Snd (jJ p l e R s m args below meth c Q D cA A nL ad0 n0) pc (oD2 FP.dsub (pc + 1)) := by
  intro K lv st nn M hk h ad H locs ls hP hD hS hl hg
  obtain ⟨hx, hb, hml, hown, hts, hK, hA, hlk⟩ := hF
  unfold oD2 at h
  split at h
  · obtain ⟨h0, h⟩ := h
    exact lv_dsub hx hb hdg h0 (hk _ _ _ _ _ h ad H locs ls hP hD hS hl hg)
  · exact h.elim
theorem snd_f2d (hF : Fx p s m args meth c D cA A nL cc own) (hdg : decode cc pc = .ok (.f2d, 1)) : Snd (jJ p l e R s m args below meth c Q D cA A nL ad0 n0) pc (oF2d (pc + 1)) := by
  intro K lv st nn M hk h ad H locs ls hP hD hS hl hg
  obtain ⟨hx, hb, hml, hown, hts, hK, hA, hlk⟩ := hF
  unfold oF2d at h
  split at h
  · obtain ⟨h0, h⟩ := h
    exact lv_f2d hx hb hdg h0 (hk _ _ _ _ _ h ad H locs ls hP hD hS hl hg)
  · exact h.elim
theorem snd_i2f (hF : Fx p s m args meth c D cA A nL cc own) (hdg : decode cc pc = .ok (.i2f, 1)) : Snd (jJ p l e R s m args below meth c Q D cA A nL ad0 n0) pc (oIcv (fun x => .float (FP.i2f x)) (pc + 1)) := by
  intro K lv st nn M hk h ad H locs ls hP hD hS hl hg
  obtain ⟨hx, hb, hml, hown, hts, hK, hA, hlk⟩ := hF
  unfold oIcv at h
  split at h
  · exact lv_i2f hx hb hdg (hk _ _ _ _ _ h ad H locs ls hP hD hS hl hg)
  · exact h.elim
theorem snd_i2d (hF : Fx p s m args meth c D cA A nL cc own) (hdg : decode cc pc = .ok (.i2d, 1)) : Snd (jJ p l e R s m args below meth c Q D cA A nL ad0 n0) pc (oIcv (fun x => .double (FP.i2d x)) (pc + 1)) := by
  intro K lv st nn M hk h ad H locs ls hP hD hS hl hg
  obtain ⟨hx, hb, hml, hown, hts, hK, hA, hlk⟩ := hF
  unfold oIcv at h
  split at h
  · exact lv_i2d hx hb hdg (hk _ _ _ _ _ h ad H locs ls hP hD hS hl hg)
  · exact h.elim
theorem snd_i2l (hF : Fx p s m args meth c D cA A nL cc own) (hdg : decode cc pc = .ok (.i2l, 1)) : Snd (jJ p l e R s m args below meth c Q D cA A nL ad0 n0) pc (oIcv (fun x => .long x.toInt64) (pc + 1)) := by
  intro K lv st nn M hk h ad H locs ls hP hD hS hl hg
  obtain ⟨hx, hb, hml, hown, hts, hK, hA, hlk⟩ := hF
  unfold oIcv at h
  split at h
  · exact lv_i2l hx hb hdg rfl (hk _ _ _ _ _ h ad H locs ls hP hD hS hl hg)
  · exact h.elim
theorem snd_i2c (hF : Fx p s m args meth c D cA A nL cc own) (hdg : decode cc pc = .ok (.i2c, 1)) : Snd (jJ p l e R s m args below meth c Q D cA A nL ad0 n0) pc (oIcv (fun x => .int (x.toUInt32 % 65536).toInt32) (pc + 1)) := by
  intro K lv st nn M hk h ad H locs ls hP hD hS hl hg
  obtain ⟨hx, hb, hml, hown, hts, hK, hA, hlk⟩ := hF
  unfold oIcv at h
  split at h
  · exact lv_i2c hx hb hdg rfl (hk _ _ _ _ _ h ad H locs ls hP hD hS hl hg)
  · exact h.elim
theorem snd_fcmp (hF : Fx p s m args meth c D cA A nL cc own) {op : CmpOp} (hdg : decode cc pc = .ok (.fcmp op, 1)) : Snd (jJ p l e R s m args below meth c Q D cA A nL ad0 n0) pc (oFcmp op (pc + 1)) := by
  intro K lv st nn M hk h ad H locs ls hP hD hS hl hg
  obtain ⟨hx, hb, hml, hown, hts, hK, hA, hlk⟩ := hF
  unfold oFcmp at h
  split at h
  · exact lv_fcmp hx hb hdg (hk _ _ _ _ _ h ad H locs ls hP hD hS hl hg)
  · exact h.elim
theorem snd_dcmp (hF : Fx p s m args meth c D cA A nL cc own) {op : CmpOp} (hdg : decode cc pc = .ok (.dcmp op, 1)) : Snd (jJ p l e R s m args below meth c Q D cA A nL ad0 n0) pc (oDcmp op (pc + 1)) := by
  intro K lv st nn M hk h ad H locs ls hP hD hS hl hg
  obtain ⟨hx, hb, hml, hown, hts, hK, hA, hlk⟩ := hF
  unfold oDcmp at h
  split at h
  · exact lv_dcmp hx hb hdg (hk _ _ _ _ _ h ad H locs ls hP hD hS hl hg)
  · exact h.elim
theorem snd_lcmp (hF : Fx p s m args meth c D cA A nL cc own) (hdg : decode cc pc = .ok (.lcmp, 1)) : Snd (jJ p l e R s m args below meth c Q D cA A nL ad0 n0) pc (oLcmp (pc + 1)) := by
  intro K lv st nn M hk h ad H locs ls hP hD hS hl hg
  obtain ⟨hx, hb, hml, hown, hts, hK, hA, hlk⟩ := hF
  unfold oLcmp at h
  split at h
  · exact W.lcmp hx hb hdg (hk _ _ _ _ _ h ad H locs ls hP hD hS hl hg)
  · exact h.elim
def oDup (nx : Nat) : OP := fun K lv st nn M => match st with
  | v :: r => v.category = 1 ∧ K nx lv (v :: v :: r) nn M
  | _ => False
def oDupx1 (nx : Nat) : OP := fun K lv st nn M => match st with
  | v :: u :: r => (v.category = 1 ∧ u.category = 1) ∧ K nx lv (v :: u :: v :: r) nn M
  | _ => False
def oPop (nx : Nat) : OP := fun K lv st nn M => match st with
  | v :: r => v.category = 1 ∧ K nx lv r nn M
  | _ => False
theorem snd_dup (hF : Fx p s m args meth c D cA A nL cc own) (hdg : decode cc pc = .ok (.dup, 1)) : Snd (jJ p l e R s m args below meth c Q D cA A nL ad0 n0) pc (oDup (pc + 1)) := by
  intro K lv st nn M hk h ad H locs ls hP hD hS hl hg
  obtain ⟨hx, hb, hml, hown, hts, hK, hA, hlk⟩ := hF
  unfold oDup at h
  split at h
  · next v r =>
    obtain ⟨h0, h⟩ := h
    exact lv_dup hx hb hdg (by rw [trV_cat]; exact h0) (hk _ _ _ _ _ h ad H locs ls hP hD hS hl hg)
  · exact h.elim
theorem snd_dupx1 (hF : Fx p s m args meth c D cA A nL cc own) (hdg : decode cc pc = .ok (.dup_x1, 1)) : Snd (jJ p l e R s m args below meth c Q D cA A nL ad0 n0) pc (oDupx1 (pc + 1)) := by
  intro K lv st nn M hk h ad H locs ls hP hD hS hl hg
  obtain ⟨hx, hb, hml, hown, hts, hK, hA, hlk⟩ := hF
  unfold oDupx1 at h
  split at h
  · next v u r =>
    obtain ⟨h0, h⟩ := h
    exact lv_dup_x1 hx hb hdg (by rw [trV_cat]; exact h0.1) (by rw [trV_cat]; exact h0.2) (hk _ _ _ _ _ h ad H locs ls hP hD hS hl hg)
  · exact h.elim
theorem snd_pop (hF : Fx p s m args meth c D cA A nL cc own) (hdg : decode cc pc = .ok (.pop, 1)) : Snd (jJ p l e R s m args below meth c Q D cA A nL ad0 n0) pc (oPop (pc + 1)) := by
  intro K lv st nn M hk h ad H locs ls hP hD hS hl hg
  obtain ⟨hx, hb, hml, hown, hts, hK, hA, hlk⟩ := hF
  unfold oPop at h
  split at h
  · next v r =>
    obtain ⟨h0, h⟩ := h
    exact lv_pop hx hb hdg (by rw [trV_cat]; exact h0) (hk _ _ _ _ _ h ad H locs ls hP hD hS hl hg)
  · exact h.elim
def oIf (P : Int32 → Prop) (tgt nx : Nat) : OP := fun K lv st nn M => match st with
  | .int x :: r => (P x → K tgt lv r nn M) ∧ (¬ P x → K nx lv r nn M)
  | _ => False
def oIc (P : Int32 → Int32 → Prop) (tgt nx : Nat) : OP := fun K lv st nn M => match st with
  | .int y :: .int x :: r => (P x y → K tgt lv r nn M) ∧ (¬ P x y → K nx lv r nn M)
  | _ => False
def oGoto (tgt : Nat) : OP := fun K lv st nn M => K tgt lv st nn M
def oNonnull (tgt nx : Nat) : OP := fun K lv st nn M => match st with
  | .ref x :: r => K tgt lv r nn M
  | .null :: r => K nx lv r nn M
  | _ => False
theorem snd_if_eq (hF : Fx p s m args meth c D cA A nL cc own) {off : Int} {tgt : Nat} (ht : (pc : Int) + off = (tgt : Int)) (hdg : decode cc pc = .ok (.ifCond .eq off, 3)) : Snd (jJ p l e R s m args below meth c Q D cA A nL ad0 n0) pc (oIf (fun x => x = 0) tgt (pc + 3)) := by
  intro K lv st nn M hk h ad H locs ls hP hD hS hl hg
  obtain ⟨hx, hb, hml, hown, hts, hK, hA, hlk⟩ := hF
  unfold oIf at h
  split at h
  · exact lv_if_eq hx hb hdg ht (fun h9 => hk _ _ _ _ _ (h.1 h9) ad H locs ls hP hD hS hl hg) (fun h9 => hk _ _ _ _ _ (h.2 h9) ad H locs ls hP hD hS hl hg)
  · exact h.elim
theorem snd_icmp_eq (hF : Fx p s m args meth c D cA A nL cc own) {off : Int} {tgt : Nat} (ht : (pc : Int) + off = (tgt : Int)) (hdg : decode cc pc = .ok (.if_icmp .eq off, 3)) : Snd (jJ p l e R s m args below meth c Q D cA A nL ad0 n0) pc (oIc (fun x y => x = y) tgt (pc + 3)) := by
  intro K lv st nn M hk h ad H locs ls hP hD hS hl hg
  obtain ⟨hx, hb, hml, hown, hts, hK, hA, hlk⟩ := hF
  unfold oIc at h
  split at h
  · exact lv_icmp_eq hx hb hdg ht (fun h9 => hk _ _ _ _ _ (h.1 h9) ad H locs ls hP hD hS hl hg) (fun h9 => hk _ _ _ _ _ (h.2 h9) ad H locs ls hP hD hS hl hg)
  · exact h.elim
theorem snd_if_ne (hF : Fx p s m args meth c D cA A nL cc own) {off : Int} {tgt : Nat} (ht : (pc : Int) + off = (tgt : Int)) (hdg : decode cc pc = .ok (.ifCond .ne off, 3)) : Snd (jJ p l e R s m args below meth c Q D cA A nL ad0 n0) pc (oIf (fun x => x = 0) (pc + 3) tgt) := by
  intro K lv st nn M hk h ad H locs ls hP hD hS hl hg
  obtain ⟨hx, hb, hml, hown, hts, hK, hA, hlk⟩ := hF
  unfold oIf at h
  split at h
  · exact lv_if_ne hx hb hdg ht (fun h9 => hk _ _ _ _ _ (h.2 h9) ad H locs ls hP hD hS hl hg) (fun h9 => hk _ _ _ _ _ (h.1 h9) ad H locs ls hP hD hS hl hg)
  · exact h.elim
theorem snd_icmp_ne (hF : Fx p s m args meth c D cA A nL cc own) {off : Int} {tgt : Nat} (ht : (pc : Int) + off = (tgt : Int)) (hdg : decode cc pc = .ok (.if_icmp .ne off, 3)) : Snd (jJ p l e R s m args below meth c Q D cA A nL ad0 n0) pc (oIc (fun x y => x = y) (pc + 3) tgt) := by
  intro K lv st nn M hk h ad H locs ls hP hD hS hl hg
  obtain ⟨hx, hb, hml, hown, hts, hK, hA, hlk⟩ := hF
  unfold oIc at h
  split at h
  · exact lv_icmp_ne hx hb hdg ht (fun h9 => hk _ _ _ _ _ (h.2 h9) ad H locs ls hP hD hS hl hg) (fun h9 => hk _ _ _ _ _ (h.1 h9) ad H locs ls hP hD hS hl hg)
  · exact h.elim
theorem snd_if_lt (hF : Fx p s m args meth c D cA A nL cc own) {off : Int} {tgt : Nat} (ht : (pc : Int) + off = (tgt : Int)) (hdg : decode cc pc = .ok (.ifCond .lt off, 3)) : Snd (jJ p l e R s m args below meth c Q D cA A nL ad0 n0) pc (oIf (fun x => x < 0) tgt (pc + 3)) := by
  intro K lv st nn M hk h ad H locs ls hP hD hS hl hg
  obtain ⟨hx, hb, hml, hown, hts, hK, hA, hlk⟩ := hF
  unfold oIf at h
  split at h
  · exact lv_if_lt hx hb hdg ht (fun h9 => hk _ _ _ _ _ (h.1 h9) ad H locs ls hP hD hS hl hg) (fun h9 => hk _ _ _ _ _ (h.2 h9) ad H locs ls hP hD hS hl hg)
  · exact h.elim
theorem snd_icmp_lt (hF : Fx p s m args meth c D cA A nL cc own) {off : Int} {tgt : Nat} (ht : (pc : Int) + off = (tgt : Int)) (hdg : decode cc pc = .ok (.if_icmp .lt off, 3)) : Snd (jJ p l e R s m args below meth c Q D cA A nL ad0 n0) pc (oIc (fun x y => x < y) tgt (pc + 3)) := by
  intro K lv st nn M hk h ad H locs ls hP hD hS hl hg
  obtain ⟨hx, hb, hml, hown, hts, hK, hA, hlk⟩ := hF
  unfold oIc at h
  split at h
  · exact lv_icmp_lt hx hb hdg ht (fun h9 => hk _ _ _ _ _ (h.1 h9) ad H locs ls hP hD hS hl hg) (fun h9 => hk _ _ _ _ _ (h.2 h9) ad H locs ls hP hD hS hl hg)
  · exact h.elim
theorem snd_if_ge (hF : Fx p s m args meth c D cA A nL cc own) {off : Int} {tgt : Nat} (ht : (pc : Int) + off = (tgt : Int)) (hdg : decode cc pc = .ok (.ifCond .ge off, 3)) : Snd (jJ p l e R s m args below meth c Q D cA A nL ad0 n0) pc (oIf (fun x => 0 ≤ x) tgt (pc + 3)) := by
  intro K lv st nn M hk h ad H locs ls hP hD hS hl hg
  obtain ⟨hx, hb, hml, hown, hts, hK, hA, hlk⟩ := hF
  unfold oIf at h
  split at h
  · exact lv_if_ge hx hb hdg ht (fun h9 => hk _ _ _ _ _ (h.1 h9) ad H locs ls hP hD hS hl hg) (fun h9 => hk _ _ _ _ _ (h.2 h9) ad H locs ls hP hD hS hl hg)
  · exact h.elim
theorem snd_icmp_ge (hF : Fx p s m args meth c D cA A nL cc own) {off : Int} {tgt : Nat} (ht : (pc : Int) + off = (tgt : Int)) (hdg : decode cc pc = .ok (.if_icmp .ge off, 3)) : Snd (jJ p l e R s m args below meth c Q D cA A nL ad0 n0) pc (oIc (fun x y => y ≤ x) tgt (pc + 3)) := by
  intro K lv st nn M hk h ad H locs ls hP hD hS hl hg
  obtain ⟨hx, hb, hml, hown, hts, hK, hA, hlk⟩ := hF
  unfold oIc at h
  split at h
  · exact lv_icmp_ge hx hb hdg ht (fun h9 => hk _ _ _ _ _ (h.1 h9) ad H locs ls hP hD hS hl hg) (fun h9 => hk _ _ _ _ _ (h.2 h9) ad H locs ls hP hD hS hl hg)
  · exact h.elim
theorem snd_if_gt (hF : Fx p s m args meth c D cA A nL cc own) {off : Int} {tgt : Nat} (ht : (pc : Int) + off = (tgt : Int)) (hdg : decode cc pc = .ok (.ifCond .gt off, 3)) : Snd (jJ p l e R s m args below meth c Q D cA A nL ad0 n0) pc (oIf (fun x => 0 < x) tgt (pc + 3)) := by
  intro K lv st nn M hk h ad H locs ls hP hD hS hl hg
  obtain ⟨hx, hb, hml, hown, hts, hK, hA, hlk⟩ := hF
  unfold oIf at h
  split at h
  · exact lv_if_gt hx hb hdg ht (fun h9 => hk _ _ _ _ _ (h.1 h9) ad H locs ls hP hD hS hl hg) (fun h9 => hk _ _ _ _ _ (h.2 h9) ad H locs ls hP hD hS hl hg)
  · exact h.elim
theorem snd_icmp_gt (hF : Fx p s m args meth c D cA A nL cc own) {off : Int} {tgt : Nat} (ht : (pc : Int) + off = (tgt : Int)) (hdg : decode cc pc = .ok (.if_icmp .gt off, 3)) : Snd (jJ p l e R s m args below meth c Q D cA A nL ad0 n0) pc (oIc (fun x y => y < x) tgt (pc + 3)) := by
  intro K lv st nn M hk h ad H locs ls hP hD hS hl hg
  obtain ⟨hx, hb, hml, hown, hts, hK, hA, hlk⟩ := hF
  unfold oIc at h
  split at h
  · exact lv_icmp_gt hx hb hdg ht (fun h9 => hk _ _ _ _ _ (h.1 h9) ad H locs ls hP hD hS hl hg) (fun h9 => hk _ _ _ _ _ (h.2 h9) ad H locs ls hP hD hS hl hg)
  · exact h.elim
theorem snd_if_le (hF : Fx p s m args meth c D cA A nL cc own) {off : Int} {tgt : Nat} (ht : (pc : Int) + off = (tgt : Int)) (hdg : decode cc pc = .ok (.ifCond .le off, 3)) : Snd (jJ p l e R s m args below meth c Q D cA A nL ad0 n0) pc (oIf (fun x => x ≤ 0) tgt (pc + 3)) := by
  intro K lv st nn M hk h ad H locs ls hP hD hS hl hg
  obtain ⟨hx, hb, hml, hown, hts, hK, hA, hlk⟩ := hF
  unfold oIf at h
  split at h
  · exact lv_if_le hx hb hdg ht (fun h9 => hk _ _ _ _ _ (h.1 h9) ad H locs ls hP hD hS hl hg) (fun h9 => hk _ _ _ _ _ (h.2 h9) ad H locs ls hP hD hS hl hg)
  · exact h.elim
theorem snd_icmp_le (hF : Fx p s m args meth c D cA A nL cc own) {off : Int} {tgt : Nat} (ht : (pc : Int) + off = (tgt : Int)) (hdg : decode cc pc = .ok (.if_icmp .le off, 3)) : Snd (jJ p l e R s m args below meth c Q D cA A nL ad0 n0) pc (oIc (fun x y => x ≤ y) tgt (pc + 3)) := by
  intro K lv st nn M hk h ad H locs ls hP hD hS hl hg
  obtain ⟨hx, hb, hml, hown, hts, hK, hA, hlk⟩ := hF
  unfold oIc at h
  split at h
  · exact lv_icmp_le hx hb hdg ht (fun h9 => hk _ _ _ _ _ (h.1 h9) ad H locs ls hP hD hS hl hg) (fun h9 => hk _ _ _ _ _ (h.2 h9) ad H locs ls hP hD hS hl hg)
  · exact h.elim
theorem snd_goto (hF : Fx p s m args meth c D cA A nL cc own) {off : Int} {tgt : Nat} (ht : (pc : Int) + off = (tgt : Int)) (hdg : decode cc pc = .ok (.goto off, 3)) : Snd (jJ p l e R s m args below meth c Q D cA A nL ad0 n0) pc (oGoto tgt) := by
  intro K lv st nn M hk h ad H locs ls hP hD hS hl hg
  obtain ⟨hx, hb, hml, hown, hts, hK, hA, hlk⟩ := hF
  exact lv_goto hx hb hdg ht (hk _ _ _ _ _ h ad H locs ls hP hD hS hl hg)
theorem snd_nonnull (hF : Fx p s m args meth c D cA A nL cc own) {off : Int} {tgt : Nat} (ht : (pc : Int) + off = (tgt : Int)) (hdg : decode cc pc = .ok (.ifnonnull off, 3)) : Snd (jJ p l e R s m args below meth c Q D cA A nL ad0 n0) pc (oNonnull tgt (pc + 3)) := by
  intro K lv st nn M hk h ad H locs ls hP hD hS hl hg
  obtain ⟨hx, hb, hml, hown, hts, hK, hA, hlk⟩ := hF
  unfold oNonnull at h
  split at h
  · exact lv_ifnonnull hx hb hdg ht (hk _ _ _ _ _ h ad H locs ls hP hD hS hl hg)
  · exact lv_ifnonnullN hx hb hdg (hk _ _ _ _ _ h ad H locs ls hP hD hS hl hg)
  · exact h.elim
end OPS
