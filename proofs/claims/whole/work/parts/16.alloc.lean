/-! ===== cells that come: new, newarray, anewarray, multianewarray, constructors ===== -/
def rokV (n : Nat) : Value → Prop
  | .ref k => k < n ∨ 1000000 ≤ k
  | _ => True
def Cl (n : Nat) (M : PM) : Prop := ∀ a k r, a < n → M.2.2.1 a k = some r → r < n
def exA (ad ad' : Nat → Nat) (n : Nat) : Prop := ∀ k, k < n → ad' k = ad k
theorem trV_ext {ad ad' : Nat → Nat} {n : Nat} {v : Value} (h : exA ad ad' n) (hn : n < 1000000) (hv : rokV n v) : trV ad' v = trV ad v := by
  cases v with
  | ref k =>
    show Value.ref (adr ad' k) = Value.ref (adr ad k)
    unfold adr
    have hv : k < n ∨ 1000000 ≤ k := hv
    rcases hv with hv | hv
    · have h1 : k < 1000000 := Nat.lt_trans hv hn
      rw [if_pos h1, if_pos h1, h k hv]
    · have h1 : ¬ k < 1000000 := Nat.not_lt.mpr hv
      rw [if_neg h1, if_neg h1]
  | _ => rfl
theorem map_ext {ad ad' : Nat → Nat} {n : Nat} {st : List Value} (h : exA ad ad' n) (hn : n < 1000000) (hv : ∀ v ∈ st, rokV n v) : st.map (trV ad') = st.map (trV ad) := List.map_congr_left (fun v hm => trV_ext h hn (hv v hm))
theorem lvok_ext {ad ad' : Nat → Nat} {n nL : Nat} {lv : LV} {ls : Array Slot} (h : exA ad ad' n) (hn : n < 1000000) (hv : ∀ j v, lv j = some v → rokV n v) (hl : lvok ad ls nL lv) : lvok ad' ls nL lv := by
  refine lvok_sub hl.1 (fun j v hj => ⟨hl.2 j v hj, ?_⟩)
  rw [trV_ext h hn (hv j v hj)]
  exact lls_mem (hl.2 j v hj) hj
theorem trE_ext {cA : Nat → ClassId} {ad ad' : Nat → Nat} {n a : Nat} {M M' : PM} (h : exA ad ad' n) (hn : n < 1000000) (hc : Cl n M) (ha : a < n) (h1 : M'.1 a = M.1 a) (h2 : M'.2.1 a = M.2.1 a) (h3 : M'.2.2.1 a = M.2.2.1 a) (h4 : M'.2.2.2.1 a = M.2.2.2.1 a) (h5 : M'.2.2.2.2 a = M.2.2.2.2 a) : trE cA ad' M' a = trE cA ad M a := by
  have hm : ∀ j, (M.2.2.1 a j).map (adr ad') = (M.2.2.1 a j).map (adr ad) := by
    intro j
    cases hr : M.2.2.1 a j with
    | none => rfl
    | some r =>
      have hrn := hc a j r ha hr
      simp only [Option.map_some]
      rw [adr_lt hrn hn, adr_lt hrn hn, h r hrn]
  unfold trE trF trA
  rw [h1, h2, h3, h4, h5]
  simp only [hm]
theorem pw_add {cA : Nat → ClassId} {ad ad' : Nat → Nat} {n k : Nat} {M M' : PM} (h : exA ad ad' n) (hn : n < 1000000) (hc : Cl n M) (h1 : ∀ a, a < n → M'.1 a = M.1 a) (h2 : ∀ a, a < n → M'.2.1 a = M.2.1 a) (h3 : ∀ a, a < n → M'.2.2.1 a = M.2.2.1 a) (h4 : ∀ a, a < n → M'.2.2.2.1 a = M.2.2.2.1 a) (h5 : ∀ a, a < n → M'.2.2.2.2 a = M.2.2.2.2 a) : pw cA ad' (n + k) M' = pw cA ad n M ++ (List.range k).map (fun i => (ad' (n + i), trE cA ad' M' (n + i))) := by
  unfold pw
  rw [List.range_add, List.map_append, List.map_map]
  congr 1
  apply List.map_congr_left
  intro a ha
  have ha := List.mem_range.mp ha
  rw [h a ha, trE_ext h hn hc ha (h1 a ha) (h2 a ha) (h3 a ha) (h4 a ha) (h5 a ha)]
/-- all rows from n on, below n + k, empty -/
def zM (M : PM) (n : Nat) : PM := (r2 M.1 n (fun _ => 0), r2 M.2.1 n (fun _ => 0), r2 M.2.2.1 n (fun _ => none), r2 M.2.2.2.1 n (fun _ => 0), r2 M.2.2.2.2 n (fun _ => 0))
def zI {α : Type} (f : Nat → Nat → α) (n k : Nat) (z : α) : Nat → Nat → α := fun a j => if n ≤ a ∧ a < n + k then z else f a j
def zG (M : PM) (n k : Nat) : PM := (zI M.1 n (1 + k) 0, zI M.2.1 n (1 + k) 0, r2 (zI M.2.2.1 n (1 + k) none) n (fun i => if i < k then some (n + 1 + i) else none), zI M.2.2.2.1 n (1 + k) 0, zI M.2.2.2.2 n (1 + k) 0)
theorem zI_lt {α : Type} (f : Nat → Nat → α) {n k a : Nat} (z : α) (h : a < n) : zI f n k z a = f a := by funext j; unfold zI; rw [if_neg (by omega)]
theorem zI_in {α : Type} (f : Nat → Nat → α) {n k a : Nat} (z : α) (h : n ≤ a) (h2 : a < n + k) : zI f n k z a = fun _ => z := by funext j; unfold zI; rw [if_pos ⟨h, h2⟩]
def alOK (nn : NN) (lv : LV) (st : List Value) (M : PM) : Prop := Cl nn.1 M ∧ (∀ j v, lv j = some v → rokV nn.1 v) ∧ ∀ v ∈ st, rokV nn.1 v
section ALLOC
variable {p : Program} {l : Launch} {e : Env} {R : Room} {s : State} {m : MethodId} {args : Array Value} {below : List Frame} {meth : Method} {c : Code} {Q : State → Prop} {D : va_G} {cA : Nat → ClassId} {A : Nat → Prop} {nL : Nat} {ad0 : Nat → Nat} {n0 : Nat} {cc : ByteArray} {own : String} {pc : Nat} {mc ms : Nat}
def oNew (mc ms ci N nx : Nat) : OP := fun K lv st nn M => (shp nn.1 = (ci, 0) ∧ nn.1 + 1 < 1000000 ∧ nn.2.1 + 1 ≤ mc ∧ nn.2.2 + N ≤ ms ∧ alOK nn lv st M) ∧ K nx lv (.ref nn.1 :: st) (nn.1 + 1, nn.2.1 + 1, nn.2.2 + N) (zM M nn.1)
theorem grow1 {nn : NN} {M : PM} {ad : Nat → Nat} {q : Nat} {H1 : Heap} {e9 : va_E} {cells slots : Nat} {lv : LV} {st st1 : List Value} {pc1 : Nat} {locs : List Loc} {ls : Array Slot}
    (hJ : jJ p l e R s m args below meth c Q D cA A nL ad0 n0 pc1 lv st1 (nn.1 + 1, cells, slots) (zM M nn.1)) (hal : alOK nn lv st M) (h1 : nn.1 + 1 < 1000000) (hst1 : ∀ v ∈ st1, rokV (nn.1 + 1) v)
    (he : ∀ ad' : Nat → Nat, trE cA ad' (zM M nn.1) nn.1 = e9) (hP : va_P D pcl (pw cA ad nn.1 M ++ [(q, e9)]) H1) (hD : va_D A (pw cA ad nn.1 M ++ [(q, e9)])) (hS : va_S A s.heap H1 locs) (hl : lvok ad ls nL lv) (hg : adx ad0 ad n0 nn.1) :
    W p l e R s m args below meth c H1 locs cells slots Q (F0 m pc1 ls (st1.map (trV (fun k => if k = nn.1 then q else ad k)))) := by
  have hex : exA ad (fun k => if k = nn.1 then q else ad k) nn.1 := fun k hk => by show (if k = nn.1 then q else ad k) = ad k; rw [if_neg (by omega)]
  have hn : nn.1 < 1000000 := by omega
  have hpw : pw cA (fun k => if k = nn.1 then q else ad k) (nn.1 + 1) (zM M nn.1) = pw cA ad nn.1 M ++ [(q, e9)] := by
    rw [pw_add (k := 1) hex hn hal.1 (fun a ha => r2_ne _ _ (by omega)) (fun a ha => r2_ne _ _ (by omega)) (fun a ha => r2_ne _ _ (by omega)) (fun a ha => r2_ne _ _ (by omega)) (fun a ha => r2_ne _ _ (by omega))]
    congr 1
    show [((if nn.1 + 0 = nn.1 then q else ad (nn.1 + 0)), trE cA _ (zM M nn.1) (nn.1 + 0))] = _
    rw [Nat.add_zero, if_pos rfl, he]
  refine hJ (fun k => if k = nn.1 then q else ad k) H1 locs ls (by show va_P D pcl (pw cA _ (nn.1 + 1) _) H1; rw [hpw]; exact hP) (by show va_D A (pw cA _ (nn.1 + 1) _); rw [hpw]; exact hD) hS (lvok_ext hex hn hal.2.1 hl) ⟨fun k hk => ?_, Nat.le_trans hg.2.1 (Nat.le_succ _), h1, fun h9 => ?_⟩
  · have := hg.2.1
    exact (hex k (by omega)).trans (hg.1 k hk)
  · have h8 : nn.1 + 1 = n0 := h9
    have := hg.2.1
    omega
theorem trV_self {q n : Nat} {ad : Nat → Nat} (hn : n < 1000000) : trV (fun k => if k = n then q else ad k) (.ref n) = .ref q := by
  show Value.ref (adr _ n) = _
  unfold adr
  rw [if_pos hn]
  show Value.ref (if n = n then q else ad n) = _
  rw [if_pos rfl]
theorem snd_new (hF : Fx p s m args meth c D cA A nL cc own) {ci N idx : Nat} {C : String} {T : u_T} {ty0 : Nat → FieldType} (hC : ClsOK ci C T N ty0) (hmc : mc ≤ R.cells) (hms : ms ≤ R.slots) (h1 : Cond.classLink own idx C ∈ PWS) (h2 : Cond.instantiable C N ∈ PWS) (h3 : Cond.initialized C ∈ PWS) (hz : ∀ j, j < N → defaultValue (ty0 j) = if (fts ci).getD j false = true then Value.null else .int 0) (hdg : decode cc pc = .ok (.new idx, 3)) : Snd (jJ p l e R s m args below meth c Q D cA A nL ad0 n0) pc (oNew mc ms ci N (pc + 3)) := by
  intro K lv st nn M hk h ad H locs ls hP hD hS hl hg
  obtain ⟨hx, hb, hml, hown, hts, hK, hA, hlk⟩ := hF
  obtain ⟨⟨hs, hn1, g1, g2, hal⟩, h⟩ := h
  have hfs : ∀ ad' : Nat → Nat, trE cA ad' (zM M nn.1) nn.1 = .inr (ci, trF ad (zM M nn.1) nn.1 ci) := by
    intro ad'
    rw [trE_obj (by rw [hs]) hC.2.2.2.2.2]
    unfold trF zM
    simp only [r2_row, Option.map_none]
  refine va_new (ci := ci) (fs := trF ad (zM M nn.1) nn.1 ci) (C := C) (T := T) (N := N) hx hb hts hC.2.1 ty0 hC.2.2.1 hown (hts _ h1) (hts _ h2) (hts _ h3) hK hP hD hS hA hC.1 (fun j hj => ?_) (Nat.le_trans g1 hmc) (Nat.le_trans g2 hms) hdg (fun q H1 hP1 hD1 hS1 => ?_)
  · rw [hz j hj]
    have e8 := trF_get (ad := ad) (M := zM M nn.1) (a := nn.1) (ci := ci) (k := j) (by rw [hC.2.2.2.2.1]; exact hj)
    have e9 : (trF ad (zM M nn.1) nn.1 ci).getD j Value.null = (if (fts ci).getD j false = true then Value.null else .int 0) := by
      rw [List.getD_eq_getElem?_getD, e8]
      unfold zM
      simp only [r2_row, Option.map_none, Option.getD_some]
      rfl
    exact e9.symm
  · have hw := grow1 (hk _ _ _ _ _ h) hal hn1 (fun v hv => by
      rcases List.mem_cons.mp hv with rfl | hv
      · exact Or.inl (Nat.lt_succ_self _)
      · have := hal.2.2 v hv; cases v with | ref k => exact this.elim (fun z => Or.inl (Nat.lt_succ_of_lt z)) Or.inr | _ => trivial) hfs hP1 hD1 hS1 hl hg
    rw [List.map_cons, trV_self (by omega), map_ext (n := nn.1) (ad := ad) (fun k hk9 => by show (if k = nn.1 then q else ad k) = ad k; rw [if_neg (by omega)]) (by omega) hal.2.2] at hw
    exact hw
/-- an array of kind t -/
def oNewA (mc ms t nx : Nat) : OP := fun K lv st nn M => match st with
  | .int x :: r => (shp nn.1 = (t, x.toNatClampNeg) ∧ ¬ x < 0 ∧ x.toNatClampNeg ≤ 10000 ∧ nn.1 + 1 < 1000000 ∧ nn.2.1 + 1 ≤ mc ∧ nn.2.2 + x.toNatClampNeg ≤ ms ∧ alOK nn lv r M) ∧ K nx lv (.ref nn.1 :: r) (nn.1 + 1, nn.2.1 + 1, nn.2.2 + x.toNatClampNeg) (zM M nn.1)
  | _ => False
theorem snd_newA (hF : Fx p s m args meth c D cA A nL cc own) {t : Nat} {atype : ArrayType} (ht : newarray.typeOf atype = aty t) (ht6 : 100 ≤ t ∧ t < 106) (hmc : mc ≤ R.cells) (hms : ms ≤ R.slots) (h1 : Cond.arrayClass (newarray.typeOf atype) ∈ PWS) (hcb : componentBytes (aty t) ≤ 8) (hdv : ∀ (cI : ClassId) (N : Nat) (ad : Nat → Nat) (M : PM) (n : Nat), vp_cell cI (N, trA ad (zM M n) n t) = arrV cI N (fun _ => defaultValue (aty t))) (hra : ∀ (U : State) (x : ClassId), va_RA U x (aty t) → U.vm.findClass ("[" ++ (aty t).toString) = some x) (hdg : decode cc pc = .ok (.newarray atype, 2)) : Snd (jJ p l e R s m args below meth c Q D cA A nL ad0 n0) pc (oNewA mc ms t (pc + 2)) := by
  intro K lv st nn M hk h ad H locs ls hP hD hS hl hg
  obtain ⟨hx, hb, hml, hown, hts, hK, hA, hlk⟩ := hF
  unfold oNewA at h
  split at h
  · next x r =>
    obtain ⟨⟨hs, hx0, hxs, hn1, g1, g2, hal⟩, h⟩ := h
    refine va_newa (atype := atype) (ty := aty t) (a0 := (x.toNatClampNeg, trA ad (zM M nn.1) nn.1 t)) hx hb (hts _ h1) ht hK hP hD hS hA (fun cI => hdv cI _ ad M nn.1) hx0 rfl (Nat.le_trans (Nat.mul_le_mul hxs hcb) (Nat.le_of_ble_eq_true rfl)) (Nat.le_trans g1 hmc) (Nat.le_trans g2 hms) hdg (fun q cI H1 hK1 hP1 hD1 hS1 => ?_)
    have hcI : cI = cA t := by
      have q1 := (hK1.2 (ptys cA).length (cI, aty t) (by rw [List.getElem?_append_right (Nat.le_refl _), Nat.sub_self]; rfl)).2
      have q2 := (hK.2 (t - 100) _ (ptys_get cA (by omega))).2
      rw [show 100 + (t - 100) = t by omega] at q2
      exact Option.some.inj ((hra s cI q1).symm.trans (hra s (cA t) q2))
    subst hcI
    have hfs : ∀ ad' : Nat → Nat, trE cA ad' (zM M nn.1) nn.1 = .inl (cA t, x.toNatClampNeg, trA ad (zM M nn.1) nn.1 t) := by
      intro ad'
      rw [trE_arr (t := t) (by rw [hs]) (by omega), hs]
      unfold trA zM
      simp only [r2_row, Option.map_none]
    have hw := grow1 (hk _ _ _ _ _ h) hal hn1 (fun v hv => by
      rcases List.mem_cons.mp hv with rfl | hv
      · exact Or.inl (Nat.lt_succ_self _)
      · have := hal.2.2 v hv; cases v with | ref k => exact this.elim (fun z => Or.inl (Nat.lt_succ_of_lt z)) Or.inr | _ => trivial) hfs hP1 hD1 hS1 hl hg
    rw [List.map_cons, trV_self (by omega), map_ext (n := nn.1) (ad := ad) (fun k hk9 => by show (if k = nn.1 then q else ad k) = ad k; rw [if_neg (by omega)]) (by omega) hal.2.2] at hw
    exact hw
  · exact h.elim
theorem snd_newR (hF : Fx p s m args meth c D cA A nL cc own) {idx : Nat} (hmc : mc ≤ R.cells) (hms : ms ≤ R.slots) (h1 : Cond.classLink own idx RX6 ∈ PWS) (h2 : Cond.arrayOver (.object RX6) ∈ PWS) (hdg : decode cc pc = .ok (.anewarray idx, 3)) : Snd (jJ p l e R s m args below meth c Q D cA A nL ad0 n0) pc (oNewA mc ms 108 (pc + 3)) := by
  intro K lv st nn M hk h ad H locs ls hP hD hS hl hg
  obtain ⟨hx, hb, hml, hown, hts, hK, hA, hlk⟩ := hF
  unfold oNewA at h
  split at h
  · next x r =>
    obtain ⟨⟨hs, hx0, hxs, hn1, g1, g2, hal⟩, h⟩ := h
    refine va_newq (C := RX6) hx hb hown (hts _ h1) (va_AO.of (hts _ h2)) hK hP hD hS hA hx0 rfl (Nat.le_trans (Nat.mul_le_mul hxs (Nat.le_refl 4)) (Nat.le_of_ble_eq_true rfl)) (Nat.le_trans g1 hmc) (Nat.le_trans g2 hms) hdg (fun q cI H1 hK1 hP1 hD1 hS1 => ?_)
    have hcI : cI = cA 108 := by
      have q1 := (hK1.2 (ptys cA).length (cI, .object RX6) (by rw [List.getElem?_append_right (Nat.le_refl _), Nat.sub_self]; rfl)).2
      have q2 := (hK.2 8 _ (ptys_get cA (by decide))).2
      obtain ⟨k1, c1, a1, a2, a3, a4⟩ := q1
      obtain ⟨k2, c2, b1, b2, b3, b4⟩ := q2
      exact Option.some.inj (a4.symm.trans b4)
    subst hcI
    have hfs : ∀ ad' : Nat → Nat, trE cA ad' (zM M nn.1) nn.1 = .inl (cA 108, x.toNatClampNeg, .inr (.inr (.inr (.inr (fun _ => none))))) := by
      intro ad'
      rw [trE_arr (t := 108) (by rw [hs]) (by omega), hs]
      unfold trA zM
      simp [r2_row]
    have hw := grow1 (hk _ _ _ _ _ h) hal hn1 (fun v hv => by
      rcases List.mem_cons.mp hv with rfl | hv
      · exact Or.inl (Nat.lt_succ_self _)
      · have := hal.2.2 v hv; cases v with | ref k => exact this.elim (fun z => Or.inl (Nat.lt_succ_of_lt z)) Or.inr | _ => trivial) hfs hP1 hD1 hS1 hl hg
    rw [List.map_cons, trV_self (by omega), map_ext (n := nn.1) (ad := ad) (fun k hk9 => by show (if k = nn.1 then q else ad k) = ad k; rw [if_neg (by omega)]) (by omega) hal.2.2] at hw
    exact hw
  · exact h.elim
theorem snd_astore_r (hF : Fx p s m args meth c D cA A nL cc own) (hdg : decode cc pc = .ok (.aastore, 1)) : Snd (jJ p l e R s m args below meth c Q D cA A nL ad0 n0) pc (oSr 108 (pc + 1)) := by
  intro K lv st nn M hk h ad H locs ls hP hD hS hl hg
  obtain ⟨hx, hb, hml, hown, hts, hK, hA, hlk⟩ := hF
  unfold oSr at h
  split at h
  · next b i a r =>
    obtain ⟨hs, ha, hsb, hbn, hin, h⟩ := h
    have he : (pw cA ad nn.1 M)[a]? = some (adr ad a, .inl (cA 108, (shp a).2, .inr (.inr (.inr (.inr (fun j => (M.2.2.1 a j).map (adr ad))))))) := by rw [pw_get ha, trE_arr hs (by decide), adr_lt ha hg.2.2.1]; rfl
    have heb : (pw cA ad nn.1 M)[b]? = some (adr ad b, .inr (6, trF ad M b 6)) := by rw [pw_get hbn, trE_obj hsb (by decide), adr_lt hbn hg.2.2.1]
    refine va_astq (r := (RX6, TX6, 16)) hx hb hK hP hD hS a 8 b 6 he (ptys_get cA (by decide)) heb rfl hin hdg (fun H1 locs1 hP1 hD1 hS1 => ?_)
    have e9 : (pw cA ad nn.1 M).set a (adr ad a, .inl (cA 108, (shp a).2, .inr (.inr (.inr (.inr (va_up (fun j => (M.2.2.1 a j).map (adr ad)) i.toNatClampNeg (some (adr ad b)))))))) = pw cA ad nn.1 (M.1, M.2.1, u2 M.2.2.1 a i.toNatClampNeg (some b), M.2.2.2) := by
      rw [adr_lt ha hg.2.2.1]
      refine pw_set ha ?_ (fun j hj hja => trE_same rfl rfl (u2_ne _ _ _ hja) rfl rfl)
      rw [trE_arr hs (by decide)]
      show _ = _
      congr 3
      unfold trA
      simp only [show ¬ (108 = 101) by decide, show ¬ (108 = 104) by decide, show ¬ (108 = 105) by decide, if_false, show 106 ≤ 108 by decide, if_true]
      congr 4
      funext j
      unfold va_up u2
      simp only [if_true]
      split <;> rfl
    rw [e9] at hP1 hD1
    exact hk _ _ _ _ _ h ad H1 locs1 ls hP1 hD1 hS1 hl hg
  · exact h.elim
end ALLOC
