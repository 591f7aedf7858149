/-! ===== more operations: switches, dispatch, Math, arraycopy, references ===== -/
theorem ref_ok {ty : FieldType} (h : ty.isReference = true) : ∀ v : Value, (∃ q, v = .ref q) ∨ v = .null → narrow ty v = v ∧ fits ty v = true := by
  intro v hv
  cases ty with
  | object C => rcases hv with ⟨q, rfl⟩ | rfl <;> exact ⟨rfl, rfl⟩
  | array t => rcases hv with ⟨q, rfl⟩ | rfl <;> exact ⟨rfl, rfl⟩
  | _ => cases h
theorem fmS {J : KT} {pc : Nat} {op : OP} {t : List (Nat × OP)} (h : Snd J pc op) (ht : ∀ q ∈ t, Snd J q.1 q.2) : ∀ q ∈ (pc, op) :: t, Snd J q.1 q.2 := List.forall_mem_cons.mpr ⟨h, ht⟩
theorem fmE {J : KT} : ∀ q ∈ ([] : List (Nat × OP)), Snd J q.1 q.2 := fun _ h => absurd h List.not_mem_nil
theorem fmA {J : KT} {t u : List (Nat × OP)} (h : ∀ q ∈ t, Snd J q.1 q.2) (hu : ∀ q ∈ u, Snd J q.1 q.2) : ∀ q ∈ t ++ u, Snd J q.1 q.2 := fun q hq => (List.mem_append.mp hq).elim (h q) (hu q)
theorem fmD {J : KT} {pc k : Nat} {op : OP} {t : List (Nat × OP)} (h : Snd J pc op) (ht : ∀ q ∈ t, Snd J pc q.2) : ∀ q ∈ (k, op) :: t, Snd J pc q.2 := List.forall_mem_cons.mpr ⟨h, ht⟩
theorem fmN {J : KT} {pc : Nat} : ∀ q ∈ ([] : List (Nat × OP)), Snd J pc q.2 := fun _ h => absurd h List.not_mem_nil
def dispA (L : List (Nat × OP)) (K : KT) (lv : LV) (st : List Value) (nn : NN) (M : PM) : List Value → Prop
  | .ref b :: _ => lk L (shp b).1 K lv st nn M
  | _ => False
def oDisp (tot : Nat) (L : List (Nat × OP)) : OP := fun K lv st nn M => dispA L K lv st nn M ((st.take (tot + 1)).reverse)
theorem lk_sndD {J : KT} {pc : Nat} : ∀ {L : List (Nat × OP)}, (∀ q ∈ L, Snd J pc q.2) → ∀ k, Snd J pc (lk L k)
  | [], _, k => by intro K lv st nn M _ h9; exact h9.elim
  | (a, o) :: t, h, k => by
    unfold lk
    cases hq : Nat.beq a k with
    | true => exact h (a, o) List.mem_cons_self
    | false => exact lk_sndD (fun q hq9 => h q (List.mem_cons_of_mem _ hq9)) k
theorem snd_disp {J : KT} {pc tot : Nat} {L : List (Nat × OP)} (h : ∀ q ∈ L, Snd J pc q.2) : Snd J pc (oDisp tot L) := by
  intro K lv st nn M hk h9
  unfold oDisp at h9
  generalize (st.take (tot + 1)).reverse = as at h9
  cases as with
  | nil => exact h9.elim
  | cons v as =>
    cases v with
    | ref b => exact lk_sndD h _ K lv st nn M hk h9
    | _ => exact h9.elim
section OPM
variable {p : Program} {l : Launch} {e : Env} {R : Room} {s : State} {m : MethodId} {args : Array Value} {below : List Frame} {meth : Method} {c : Code} {Q : State → Prop} {D : va_G} {cA : Nat → ClassId} {A : Nat → Prop} {nL : Nat} {ad0 : Nat → Nat} {n0 sz d mc ms : Nat} {P : PO} {ret0 : Option FieldType} {tb : List ExceptionTableEntry} {nm : String} {cc : ByteArray} {own : String} {pc : Nat}
/-- a switch: its cases, then the default -/
def oSw (cs : List (Int32 × Nat)) (df : Nat) : OP := fun K lv st nn M => match st with
  | .int x :: r => (∀ q ∈ cs, x = q.1 → K q.2 lv r nn M) ∧ ((∀ q ∈ cs, ¬ x = q.1) → K df lv r nn M)
  | _ => False
def swOK (pc : Nat) (lo hi dflt : Int) (offs : Array Int) (cs : List (Int32 × Nat)) (df : Nat) : Bool :=
  decide ((pc : Int) + dflt = (df : Int)) && decide ((offs.size : Int) = hi - lo + 1) && decide (cs.length = offs.size) && (List.range cs.length).all (fun k => match offs[k]?, cs[k]? with
    | some off, some q => decide (q.1.toInt = lo + k) && decide ((pc : Int) + off = (q.2 : Int))
    | _, _ => false)
theorem snd_tsw (hF : Fx p s m args meth c D cA A nL cc own) {lo hi dflt : Int} {offs : Array Int} {len : Nat} {cs : List (Int32 × Nat)} {df : Nat} (hdg : decode cc pc = .ok (.tableswitch dflt lo hi offs, len)) (hs : swOK pc lo hi dflt offs cs df = true) : Snd (jJ p l e R s m args below meth c Q D cA A nL ad0 n0) pc (oSw cs df) := by
  intro K lv st nn M hk h ad H locs ls hP hD hS hl hg
  obtain ⟨hx, hb, hml, hown, hts, hK, hA, hlk⟩ := hF
  unfold oSw at h
  split at h
  · next x r =>
    unfold swOK at hs
    simp only [Bool.and_eq_true, decide_eq_true_eq] at hs
    obtain ⟨⟨⟨h1, h2⟩, h3⟩, h4⟩ := hs
    by_cases hin : x.toInt < lo ∨ hi < x.toInt
    · refine lv_tableOut hx hb hdg hin h1 (hk _ _ _ _ _ (h.2 (fun q hq he => ?_)) ad H locs ls hP hD hS hl hg)
      obtain ⟨k, hkl⟩ := List.getElem?_of_mem hq
      have hlt : k < cs.length := (List.getElem?_eq_some_iff.mp hkl).1
      have h5 := List.all_eq_true.mp h4 k (List.mem_range.mpr hlt)
      rw [hkl] at h5
      have ho : k < offs.size := by omega
      rw [Array.getElem?_eq_getElem ho] at h5
      simp only [Bool.and_eq_true, decide_eq_true_eq] at h5
      have h6 := h5.1
      rw [← he] at h6
      omega
    · have hkn : ∃ k : Nat, x.toInt = lo + k ∧ k < cs.length := ⟨(x.toInt - lo).toNat, by omega, by omega⟩
      obtain ⟨k, hk1, hlt⟩ := hkn
      have h5 := List.all_eq_true.mp h4 k (List.mem_range.mpr hlt)
      have ho : k < offs.size := by omega
      rw [Array.getElem?_eq_getElem ho, List.getElem?_eq_getElem hlt] at h5
      simp only [Bool.and_eq_true, decide_eq_true_eq] at h5
      have hxe : x = cs[k].1 := Int32.toInt_inj.mp (by rw [h5.1]; exact hk1)
      refine lv_tableIn hx hb hdg (by omega) (by omega) (off := offs[k]) ?_ h5.2 (hk _ _ _ _ _ (h.1 _ (List.getElem_mem hlt) hxe) ad H locs ls hP hD hS hl hg)
      rw [show (x.toInt - lo).toNat = k by omega]
      exact Array.getElem?_eq_getElem ho
  · exact h.elim
theorem snd_lsw (hF : Fx p s m args meth c D cA A nL cc own) {dflt : Int} {ps : Array (Int × Int)} {len : Nat} {cs : List (Int32 × Nat)} {df : Nat} (hdg : decode cc pc = .ok (.lookupswitch dflt ps, len)) (hp : (ps.toList.zip (ps.toList.drop 1)).all (fun (a, next) => a.1 < next.1) = true) (hd0 : (pc : Int) + dflt = (df : Int))
    (hs : ∀ x : Int32, (∃ q ∈ cs, x = q.1 ∧ (pc : Int) + Op.lookupswitch.offset ps.toList dflt x.toInt = (q.2 : Int)) ∨ ((∀ q ∈ cs, ¬ x = q.1) ∧ Op.lookupswitch.offset ps.toList dflt x.toInt = dflt)) : Snd (jJ p l e R s m args below meth c Q D cA A nL ad0 n0) pc (oSw cs df) := by
  intro K lv st nn M hk h ad H locs ls hP hD hS hl hg
  obtain ⟨hx, hb, hml, hown, hts, hK, hA, hlk⟩ := hF
  unfold oSw at h
  split at h
  · next x r =>
    rcases hs x with ⟨q, hq, he, ho⟩ | ⟨hn, ho⟩
    · exact lv_lookup hx hb hdg hp rfl ho (hk _ _ _ _ _ (h.1 q hq he) ad H locs ls hP hD hS hl hg)
    · exact lv_lookup hx hb hdg hp ho hd0 (hk _ _ _ _ _ (h.2 hn) ad H locs ls hP hD hS hl hg)
  · exact h.elim
def oMm (f : Int32 → Int32 → Int32) (mc ms nx : Nat) : OP := fun K lv st nn M => match st with
  | .int y :: .int x :: r => ((r.map (fun v => v.category)).sum ≤ 8 ∧ nn.2.1 ≤ mc ∧ nn.2.2 ≤ ms) ∧ K nx lv (.int (f x y) :: r) nn M
  | _ => False
theorem snd_mmax (hM : FM p l s m args meth c D cA nL ad0 n0 sz cc own ret0 tb nm) {idx : Nat} (h1 : Cond.methodLink own idx Lib.Math.max.name ∈ PWS) (h2 : Cond.static Lib.Math.max.name ∈ PWS) (h3 : Cond.initialized "java/lang/Math" ∈ PWS) (h4 : Cond.code Lib.Math.max.name Lib.Math.max.code 2 (some .int) ∈ PWS) (hdg : decode cc pc = .ok (.invokestatic idx, 3)) : Snd (jM p l e s m args below meth c D cA nL ad0 n0 sz (d + 1) mc ms P) pc (oMm (fun x y => if x < y then y else x) mc ms (pc + 3)) := by
  intro K lv st nn M hk h ad H locs ls hP hD hS hl hg
  obtain ⟨⟨hx, hb, hml, hown, hts, hK, hA, hlk⟩, hst, ham, hsz, hr, htb, hnm⟩ := hM
  unfold oMm at h
  split at h
  · next y x r =>
    obtain ⟨⟨hc1, hc2, hc3⟩, h⟩ := h
    exact va_mmax hx hb (hml.trans hl.1.1.symm) hown (hts _ h1) (hts _ h2) (hts _ h3) (hts _ h4) (by show 1 ≤ d + 1; omega) (by rw [cat_map]; show _ + 13 ≤ 40 * (d + 1); omega) hc2 hc3 hdg (hk _ _ _ _ _ h ad H locs ls hP hD hS hl hg)
  · exact h.elim
theorem snd_mmin (hM : FM p l s m args meth c D cA nL ad0 n0 sz cc own ret0 tb nm) {idx : Nat} (h1 : Cond.methodLink own idx Lib.Math.min.name ∈ PWS) (h2 : Cond.static Lib.Math.min.name ∈ PWS) (h3 : Cond.initialized "java/lang/Math" ∈ PWS) (h4 : Cond.code Lib.Math.min.name Lib.Math.min.code 2 (some .int) ∈ PWS) (hdg : decode cc pc = .ok (.invokestatic idx, 3)) : Snd (jM p l e s m args below meth c D cA nL ad0 n0 sz (d + 1) mc ms P) pc (oMm (fun x y => if y < x then y else x) mc ms (pc + 3)) := by
  intro K lv st nn M hk h ad H locs ls hP hD hS hl hg
  obtain ⟨⟨hx, hb, hml, hown, hts, hK, hA, hlk⟩, hst, ham, hsz, hr, htb, hnm⟩ := hM
  unfold oMm at h
  split at h
  · next y x r =>
    obtain ⟨⟨hc1, hc2, hc3⟩, h⟩ := h
    exact va_mmin hx hb (hml.trans hl.1.1.symm) hown (hts _ h1) (hts _ h2) (hts _ h3) (hts _ h4) (by show 1 ≤ d + 1; omega) (by rw [cat_map]; show _ + 13 ≤ 40 * (d + 1); omega) hc2 hc3 hdg (hk _ _ _ _ _ h ad H locs ls hP hD hS hl hg)
  · exact h.elim
def oCopy (nx : Nat) : OP := fun K lv st nn M => match st with
  | .int n :: .int dp :: .ref a :: .int sp :: .ref a0 :: r => ((shp a0).1 = 100 ∧ (shp a).1 = 100 ∧ a0 < nn.1 ∧ a < nn.1 ∧ (r.map (fun v => v.category)).sum ≤ 8) ∧ (¬ sp < 0 ∧ ¬ dp < 0 ∧ ¬ n < 0 ∧ sp.toNatClampNeg + n.toNatClampNeg ≤ (shp a0).2 ∧ dp.toNatClampNeg + n.toNatClampNeg ≤ (shp a).2) ∧ K nx lv r nn (r2 M.1 a (va_cpy (M.1 a0) (M.1 a) sp.toNatClampNeg dp.toNatClampNeg n.toNatClampNeg), M.2)
  | _ => False
theorem snd_copy (hM : FM p l s m args meth c D cA nL ad0 n0 sz cc own ret0 tb nm) {idx : Nat} (h1 : Cond.methodLink own idx arraycopyName ∈ PWS) (h2 : Cond.native arraycopyName ∈ PWS) (h3 : Cond.static arraycopyName ∈ PWS) (h4 : Cond.initialized "java/lang/System" ∈ PWS) (hdg : decode cc pc = .ok (.invokestatic idx, 3)) : Snd (jM p l e s m args below meth c D cA nL ad0 n0 sz (d + 1) mc ms P) pc (oCopy (pc + 3)) := by
  intro K lv st nn M hk h ad H locs ls hP hD hS hl hg
  obtain ⟨⟨hx, hb, hml, hown, hts, hK, hA, hlk⟩, hst, ham, hsz, hr, htb, hnm⟩ := hM
  unfold oCopy at h
  split at h
  · next n dp a sp a0 r =>
    obtain ⟨⟨hs0, hs, ha0, ha, hcat⟩, ⟨g1, g2, g3, g4, g5⟩, h⟩ := h
    have he0 : (pw cA ad nn.1 M)[a0]? = some (adr ad a0, .inl (cA 100, (shp a0).2, .inl (M.1 a0))) := by rw [pw_get ha0, trE_arr hs0 (by decide), adr_lt ha0 hg.2.2.1]; rfl
    have he : (pw cA ad nn.1 M)[a]? = some (adr ad a, .inl (cA 100, (shp a).2, .inl (M.1 a))) := by rw [pw_get ha, trE_arr hs (by decide), adr_lt ha hg.2.2.1]; rfl
    refine va_copyi hx hb (hml.trans hl.1.1.symm) hown (hts _ h1) (hts _ h2) (hts _ h3) (hts _ h4) hK hP hD hS a0 a 0 0 he0 he (ptys_get cA (by decide)) (ptys_get cA (by decide)) rfl g1 g2 g3 g4 g5 (fun i _ => rfl) (by show 1 ≤ d + 1; omega) (by rw [cat_map]; show _ + (5 + 2 + 11) ≤ 40 * (d + 1); omega) hdg (fun H1 locs1 hP1 hD1 hS1 => ?_)
    have e9 : (pw cA ad nn.1 M).set a (adr ad a, .inl (cA 100, (shp a).2, .inl (va_cpy (M.1 a0) (M.1 a) sp.toNatClampNeg dp.toNatClampNeg n.toNatClampNeg))) = pw cA ad nn.1 (r2 M.1 a (va_cpy (M.1 a0) (M.1 a) sp.toNatClampNeg dp.toNatClampNeg n.toNatClampNeg), M.2) := by
      rw [adr_lt ha hg.2.2.1]
      refine pw_set ha ?_ (fun j hj hja => trE_same (r2_ne _ _ hja) rfl rfl rfl rfl)
      rw [trE_arr hs (by decide), trA_int (Or.inl rfl)]
      dsimp only
      rw [r2_row]
    rw [e9] at hP1 hD1
    exact hk _ _ _ _ _ h ad H1 locs1 ls hP1 hD1 hS1 hl hg
  · exact h.elim
def oAlen (nx : Nat) : OP := fun K lv st nn M => match st with
  | .ref a :: r => (shp a).1 = 100 ∧ a < nn.1 ∧ K nx lv (.int (Int32.ofNat (shp a).2) :: r) nn M
  | _ => False
theorem snd_alen (hF : Fx p s m args meth c D cA A nL cc own) (hdg : decode cc pc = .ok (.arraylength, 1)) : Snd (jJ p l e R s m args below meth c Q D cA A nL ad0 n0) pc (oAlen (pc + 1)) := by
  intro K lv st nn M hk h ad H locs ls hP hD hS hl hg
  obtain ⟨hx, hb, hml, hown, hts, hK, hA, hlk⟩ := hF
  unfold oAlen at h
  split at h
  · next a r =>
    obtain ⟨hs, ha, h⟩ := h
    have he : (pw cA ad nn.1 M)[a]? = some (adr ad a, .inl (cA 100, (shp a).2, .inl (M.1 a))) := by rw [pw_get ha, trE_arr hs (by decide), adr_lt ha hg.2.2.1]; rfl
    exact va_alen hx hb hK hP a 0 he (ptys_get cA (by decide)) rfl hdg (hk _ _ _ _ _ h ad H locs ls hP hD hS hl hg)
  · exact h.elim
def oAcmp (tgt nx : Nat) : OP := fun K lv st nn M => match st with
  | .ref b :: .ref a :: r => (a < nn.1 ∧ b < nn.1) ∧ (a = b → K tgt lv r nn M) ∧ (¬ a = b → K nx lv r nn M)
  | .null :: .ref a :: r => K nx lv r nn M
  | _ => False
theorem snd_acmp (hF : Fx p s m args meth c D cA A nL cc own) {off : Int} {tgt : Nat} (ht : (pc : Int) + off = (tgt : Int)) (hdg : decode cc pc = .ok (.if_acmp .eq off, 3)) : Snd (jJ p l e R s m args below meth c Q D cA A nL ad0 n0) pc (oAcmp tgt (pc + 3)) := by
  intro K lv st nn M hk h ad H locs ls hP hD hS hl hg
  obtain ⟨hx, hb, hml, hown, hts, hK, hA, hlk⟩ := hF
  unfold oAcmp at h
  split at h
  · next b a r =>
    obtain ⟨⟨ha, hbn⟩, h1, h2⟩ := h
    refine lv_acmp_eq (rx := some (adr ad a)) (ry := some (adr ad b)) hx hb hdg ht (fun h9 => ?_) (fun h9 => ?_)
    · have h8 : adr ad a = adr ad b := Option.some.inj h9
      rw [adr_lt ha hg.2.2.1, adr_lt hbn hg.2.2.1] at h8
      exact hk _ _ _ _ _ (h1 (hD.1 a b _ _ (pw_get ha) (pw_get hbn) h8)) ad H locs ls hP hD hS hl hg
    · exact hk _ _ _ _ _ (h2 (fun q => h9 (by rw [q]))) ad H locs ls hP hD hS hl hg
  · next a r => exact lv_acmp_eq (rx := some (adr ad a)) (ry := none) hx hb hdg ht (fun h9 => by cases h9) (fun _ => hk _ _ _ _ _ h ad H locs ls hP hD hS hl hg)
  · exact h.elim
theorem snd_retA {rt : FieldType} (hM : FM p l s m args meth c D cA nL ad0 n0 sz cc own (some rt) tb nm) (hrt : ∃ n, rt = .object n) (hdg : decode cc pc = .ok (.areturn, 1)) : Snd (jM p l e s m args below meth c D cA nL ad0 n0 sz d mc ms P) pc (oRetA mc ms P) := by
  intro K lv st nn M hk h ad H locs ls hP hD hS hl hg
  obtain ⟨⟨hx, hb, hml, hown, hts, hK, hA, hlk⟩, hst, ham, hsz, hr, htb, hnm⟩ := hM
  unfold oRetA at h
  split at h
  · obtain ⟨h1, h2, h⟩ := h
    exact vx_ret (W.widen h1 h2 (W.aret hx hb hr (Or.inl hrt) (Or.inr ⟨_, rfl⟩) (fun t ht hW => ⟨_, nn.1, M, ad, rfl, h, hg, by rw [ht]; exact hP, hD, hS.F ht⟩) hS.2.2 hdg hlk))
  · exact h.elim
end OPM
