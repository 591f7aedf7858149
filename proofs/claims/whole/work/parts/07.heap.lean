/-! ===== fields and arrays ===== -/
theorem pws_all {ws : List Cond} (ps : List Nat) (hp : ws = ps.filterMap (fun i => lw_tbl[i]?)) (h : ws.all stW = true) : ∀ w ∈ ws, w ∈ PWS := by
  intro w hw
  have h1 := List.all_eq_true.mp h w hw
  rw [hp] at hw
  obtain ⟨i, -, hi⟩ := List.mem_filterMap.mp hw
  exact pws_mem i hi h1
def ClsOK (ci : Nat) (C : String) (T : u_T) (N : Nat) (ty0 : Nat → FieldType) : Prop := pcl[ci]? = some (C, T, N) ∧ (∀ w ∈ u_ws C T N, w ∈ PWS) ∧ (∀ k, k < N → parseFieldDescriptor (T k).2.2.1 = some (ty0 k)) ∧ (∀ a, a < N → ∀ b, b < N → a ≠ b → (T a).2.1 ≠ (T b).2.1) ∧ (fts ci).length = N ∧ ci < 100
theorem okX0 : ClsOK 0 RX0 TX0 3 tyX0 := ⟨rfl, pws_all [170, 172, 174] (by decide +kernel) (by decide +kernel), tyX0_ok, nmX0, rfl, by decide⟩
theorem okX1 : ClsOK 1 RX1 TX1 4 tyX1 := ⟨rfl, pws_all [198, 200, 202, 204] (by decide +kernel) (by decide +kernel), tyX1_ok, nmX1, rfl, by decide⟩
theorem okX2 : ClsOK 2 RX2 TX2 5 tyX2 := ⟨rfl, pws_all [249, 250, 251, 245, 247] (by decide +kernel) (by decide +kernel), tyX2_ok, nmX2, rfl, by decide⟩
theorem okX3 : ClsOK 3 RX3 TX3 1 tyX3 := ⟨rfl, pws_all [158] (by decide +kernel) (by decide +kernel), tyX3_ok, nmX3, rfl, by decide⟩
theorem okX4 : ClsOK 4 RX4 TX4 5 tyX4 := ⟨rfl, pws_all [227, 229, 231, 223, 225] (by decide +kernel) (by decide +kernel), tyX4_ok, nmX4, rfl, by decide⟩
theorem okX6 : ClsOK 6 RX6 TX6 16 tyX6 := ⟨rfl, pws_all [293, 295, 297, 299, 301, 303, 305, 307, 309, 311, 313, 315, 317, 319, 321, 323] (by decide +kernel) (by decide +kernel), tyX6_ok, nmX6, rfl, by decide⟩
theorem okX7 : ClsOK 7 RX7 TX7 8 tyX7 := ⟨rfl, pws_all [129, 131, 133, 135, 137, 139, 141, 143] (by decide +kernel) (by decide +kernel), tyX7_ok, nmX7, rfl, by decide⟩
theorem okX9 : ClsOK 9 RX9 TX9 14 tyX9 := ⟨rfl, pws_all [341, 343, 345, 347, 349, 351, 353, 355, 357, 359, 361, 363, 365, 367] (by decide +kernel) (by decide +kernel), tyX9_ok, nmX9, rfl, by decide⟩
theorem okX10 : ClsOK 10 RX10 TX10 36 tyX10 := ⟨rfl, pws_all [1140, 1142, 1144, 1146, 1148, 1150, 1152, 1154, 1156, 1158, 1160, 1162, 1164, 1166, 1168, 1170, 1172, 1174, 1176, 1178, 1180, 1182, 1184, 1186, 1188, 1190, 1192, 1194, 1196, 1198, 1200, 1202, 1204, 1206, 1208, 1210] (by decide +kernel) (by decide +kernel), tyX10_ok, nmX10, rfl, by decide⟩
theorem trE_obj {cA : Nat → ClassId} {ad : Nat → Nat} {M : PM} {a ci : Nat} (h : (shp a).1 = ci) (hc : ci < 100) : trE cA ad M a = .inr (ci, trF ad M a ci) := by
  unfold trE
  rw [h, if_pos hc]
theorem trE_arr {cA : Nat → ClassId} {ad : Nat → Nat} {M : PM} {a t : Nat} (h : (shp a).1 = t) (hc : ¬ t < 100) : trE cA ad M a = .inl (cA t, (shp a).2, trA ad M a t) := by
  unfold trE
  rw [h, if_neg hc]
theorem trF_get {ad : Nat → Nat} {M : PM} {a ci k : Nat} (hk : k < (fts ci).length) : (trF ad M a ci)[k]? = some (if (fts ci).getD k false = true then va_rf ((M.2.2.1 a k).map (adr ad)) else .int (M.1 a k)) := by
  unfold trF
  rw [List.getElem?_map, List.getElem?_range hk]
  rfl
theorem trF_len (ad : Nat → Nat) (M : PM) (a ci : Nat) : (trF ad M a ci).length = (fts ci).length := by simp [trF]
theorem trE_same {cA : Nat → ClassId} {ad : Nat → Nat} {M M' : PM} {j : Nat} (h1 : M'.1 j = M.1 j) (h2 : M'.2.1 j = M.2.1 j) (h3 : M'.2.2.1 j = M.2.2.1 j) (h4 : M'.2.2.2.1 j = M.2.2.2.1 j) (h5 : M'.2.2.2.2 j = M.2.2.2.2 j) : trE cA ad M' j = trE cA ad M j := by
  unfold trE trF trA
  rw [h1, h2, h3, h4, h5]
theorem trF_seti {ad : Nat → Nat} {M : PM} {a ci k : Nat} {x : Int32} (hf : (fts ci).getD k false = false) : (trF ad M a ci).set k (.int x) = trF ad (u2 M.1 a k x, M.2) a ci := by
  apply List.ext_getElem?
  intro i
  by_cases hi : i < (fts ci).length
  · rw [trF_get hi]
    by_cases hik : i = k
    · subst hik
      rw [List.getElem?_set_self (by rw [trF_len]; exact hi), hf]
      simp [u2]
    · rw [List.getElem?_set_ne (Ne.symm hik), trF_get hi]
      simp [u2, hik]
  · rw [List.getElem?_eq_none (by rw [List.length_set, trF_len]; omega), List.getElem?_eq_none (by rw [trF_len]; omega)]
theorem trF_setr {ad : Nat → Nat} {M : PM} {a ci k : Nat} {x : Option Nat} (hf : (fts ci).getD k false = true) : (trF ad M a ci).set k (va_rf (x.map (adr ad))) = trF ad (M.1, M.2.1, u2 M.2.2.1 a k x, M.2.2.2) a ci := by
  apply List.ext_getElem?
  intro i
  by_cases hi : i < (fts ci).length
  · rw [trF_get hi]
    by_cases hik : i = k
    · subst hik
      rw [List.getElem?_set_self (by rw [trF_len]; exact hi), hf]
      simp [u2]
    · rw [List.getElem?_set_ne (Ne.symm hik), trF_get hi]
      simp [u2, hik]
  · rw [List.getElem?_eq_none (by rw [List.length_set, trF_len]; omega), List.getElem?_eq_none (by rw [trF_len]; omega)]
theorem adr_lt {ad : Nat → Nat} {k n : Nat} (h : k < n) (hn : n < 1000000) : adr ad k = ad k := by unfold adr; rw [if_pos (by omega)]
theorem adr_raw {ad : Nat → Nat} (q : Nat) : adr ad (1000000 + q) = q := by unfold adr; rw [if_neg (by omega)]; omega
theorem trV_rf (ad : Nat → Nat) (x : Option Nat) : trV ad (va_rf x) = va_rf (x.map (adr ad)) := by cases x <;> rfl
section OPH
variable {p : Program} {l : Launch} {e : Env} {R : Room} {s : State} {m : MethodId} {args : Array Value} {below : List Frame} {meth : Method} {c : Code} {Q : State → Prop} {D : va_G} {cA : Nat → ClassId} {A : Nat → Prop} {nL : Nat} {ad0 : Nat → Nat} {n0 : Nat} {cc : ByteArray} {own : String} {pc : Nat}
def oGi (ci k nx : Nat) : OP := fun K lv st nn M => match st with
  | .ref a :: r => (shp a).1 = ci ∧ a < nn.1 ∧ K nx lv (.int (M.1 a k) :: r) nn M
  | _ => False
def oGi2 (ci cj k nx : Nat) : OP := fun K lv st nn M => match st with
  | .ref a :: r => ((shp a).1 = ci ∨ (shp a).1 = cj) ∧ a < nn.1 ∧ K nx lv (.int (M.1 a k) :: r) nn M
  | _ => False
def oGr (ci k nx : Nat) : OP := fun K lv st nn M => match st with
  | .ref a :: r => (shp a).1 = ci ∧ a < nn.1 ∧ K nx lv (va_rf (M.2.2.1 a k) :: r) nn M
  | _ => False
def oGr2 (ci cj k nx : Nat) : OP := fun K lv st nn M => match st with
  | .ref a :: r => ((shp a).1 = ci ∨ (shp a).1 = cj) ∧ a < nn.1 ∧ K nx lv (va_rf (M.2.2.1 a k) :: r) nn M
  | _ => False
def oPi (ci k nx : Nat) : OP := fun K lv st nn M => match st with
  | .int x :: .ref a :: r => (shp a).1 = ci ∧ a < nn.1 ∧ K nx lv r nn (u2 M.1 a k x, M.2)
  | _ => False
def oPi2 (ci cj k nx : Nat) : OP := fun K lv st nn M => match st with
  | .int x :: .ref a :: r => ((shp a).1 = ci ∨ (shp a).1 = cj) ∧ a < nn.1 ∧ K nx lv r nn (u2 M.1 a k x, M.2)
  | _ => False
def oPz (ci k nx : Nat) : OP := fun K lv st nn M => match st with
  | .int x :: .ref a :: r => (x = 0 ∨ x = 1) ∧ (shp a).1 = ci ∧ a < nn.1 ∧ K nx lv r nn (u2 M.1 a k x, M.2)
  | _ => False
def oPr (ci k nx : Nat) : OP := fun K lv st nn M => match st with
  | .ref b :: .ref a :: r => (shp a).1 = ci ∧ a < nn.1 ∧ K nx lv r nn (M.1, M.2.1, u2 M.2.2.1 a k (some b), M.2.2.2)
  | .null :: .ref a :: r => (shp a).1 = ci ∧ a < nn.1 ∧ K nx lv r nn (M.1, M.2.1, u2 M.2.2.1 a k none, M.2.2.2)
  | _ => False
def oPr2 (ci cj k nx : Nat) : OP := fun K lv st nn M => match st with
  | .ref b :: .ref a :: r => ((shp a).1 = ci ∨ (shp a).1 = cj) ∧ a < nn.1 ∧ K nx lv r nn (M.1, M.2.1, u2 M.2.2.1 a k (some b), M.2.2.2)
  | _ => False
theorem snd_geti (hF : Fx p s m args meth c D cA A nL cc own) {ci k idx N : Nat} {C ref : String} {T : u_T} {ty0 : Nat → FieldType} (hC : ClsOK ci C T N ty0) (hkN : k < N) (hw : (Cond.fieldLink own idx ref (T k).2.1 (T k).2.2.1) ∈ PWS) (href : (T k).1 = ref) (hf : (fts ci).getD k false = false) (hdg : decode cc pc = .ok (.getfield idx, 3)) : Snd (jJ p l e R s m args below meth c Q D cA A nL ad0 n0) pc (oGi ci k (pc + 3)) := by
  intro K lv st nn M hk h ad H locs ls hP hD hS hl hg
  obtain ⟨hx, hb, hml, hown, hts, hK, hA, hlk⟩ := hF
  unfold oGi at h
  split at h
  · next a r =>
    obtain ⟨hs, ha, h⟩ := h
    have he : (pw cA ad nn.1 M)[a]? = some (adr ad a, .inr (ci, trF ad M a ci)) := by rw [pw_get ha, trE_obj hs hC.2.2.2.2.2, adr_lt ha hg.2.2.1]
    exact va_get (D := D) (ci := ci) (v := .int (M.1 a k)) (C := C) (T := T) (N := N) hx hb hts hC.2.1 hown hK hP a he hC.1 k hkN (hts _ hw) (fun _ h9 => by rw [← href]; exact h9) (by rw [trF_get (by rw [hC.2.2.2.2.1]; exact hkN), hf]; rfl) hdg (hk _ _ _ _ _ h ad H locs ls hP hD hS hl hg)
  · exact h.elim
theorem snd_geti2 (hF : Fx p s m args meth c D cA A nL cc own) {ci cj k idx N N2 : Nat} {C C2 ref : String} {T T2 : u_T} {ty0 ty2 : Nat → FieldType} (hC : ClsOK ci C T N ty0) (hC2 : ClsOK cj C2 T2 N2 ty2) (hkN : k < N) (hkN2 : k < N2) (hw : (Cond.fieldLink own idx ref (T k).2.1 (T k).2.2.1) ∈ PWS) (href : (T k).1 = ref) (hTT : T k = T2 k) (hf : (fts ci).getD k false = false) (hf2 : (fts cj).getD k false = false) (hdg : decode cc pc = .ok (.getfield idx, 3)) : Snd (jJ p l e R s m args below meth c Q D cA A nL ad0 n0) pc (oGi2 ci cj k (pc + 3)) := by
  intro K lv st nn M hk h ad H locs ls hP hD hS hl hg
  obtain ⟨hx, hb, hml, hown, hts, hK, hA, hlk⟩ := hF
  unfold oGi2 at h
  split at h
  · next a r =>
    obtain ⟨hs, ha, h⟩ := h
    rcases hs with hs | hs
    · have he : (pw cA ad nn.1 M)[a]? = some (adr ad a, .inr (ci, trF ad M a ci)) := by rw [pw_get ha, trE_obj hs hC.2.2.2.2.2, adr_lt ha hg.2.2.1]
      exact va_get (D := D) (ci := ci) (v := .int (M.1 a k)) (C := C) (T := T) (N := N) hx hb hts hC.2.1 hown hK hP a he hC.1 k hkN (hts _ hw) (fun _ h9 => by rw [← href]; exact h9) (by rw [trF_get (by rw [hC.2.2.2.2.1]; exact hkN), hf]; rfl) hdg (hk _ _ _ _ _ h ad H locs ls hP hD hS hl hg)
    · have he : (pw cA ad nn.1 M)[a]? = some (adr ad a, .inr (cj, trF ad M a cj)) := by rw [pw_get ha, trE_obj hs hC2.2.2.2.2.2, adr_lt ha hg.2.2.1]
      exact va_get (D := D) (ci := cj) (v := .int (M.1 a k)) (C := C2) (T := T2) (N := N2) hx hb hts hC2.2.1 hown hK hP a he hC2.1 k hkN2 (hts _ (by rw [← hTT]; exact hw)) (fun _ h9 => by rw [← href, hTT]; exact h9) (by rw [trF_get (by rw [hC2.2.2.2.2.1]; exact hkN2), hf2]; rfl) hdg (hk _ _ _ _ _ h ad H locs ls hP hD hS hl hg)
  · exact h.elim
theorem snd_getr (hF : Fx p s m args meth c D cA A nL cc own) {ci k idx N : Nat} {C ref : String} {T : u_T} {ty0 : Nat → FieldType} (hC : ClsOK ci C T N ty0) (hkN : k < N) (hw : (Cond.fieldLink own idx ref (T k).2.1 (T k).2.2.1) ∈ PWS) (href : (T k).1 = ref) (hf : (fts ci).getD k false = true) (hdg : decode cc pc = .ok (.getfield idx, 3)) : Snd (jJ p l e R s m args below meth c Q D cA A nL ad0 n0) pc (oGr ci k (pc + 3)) := by
  intro K lv st nn M hk h ad H locs ls hP hD hS hl hg
  obtain ⟨hx, hb, hml, hown, hts, hK, hA, hlk⟩ := hF
  unfold oGr at h
  split at h
  · next a r =>
    obtain ⟨hs, ha, h⟩ := h
    have he : (pw cA ad nn.1 M)[a]? = some (adr ad a, .inr (ci, trF ad M a ci)) := by rw [pw_get ha, trE_obj hs hC.2.2.2.2.2, adr_lt ha hg.2.2.1]
    exact va_get (D := D) (ci := ci) (v := va_rf ((M.2.2.1 a k).map (adr ad))) (C := C) (T := T) (N := N) hx hb hts hC.2.1 hown hK hP a he hC.1 k hkN (hts _ hw) (fun _ h9 => by rw [← href]; exact h9) (by rw [trF_get (by rw [hC.2.2.2.2.1]; exact hkN), hf]; rfl) hdg (by have h9 := hk _ _ _ _ _ h ad H locs ls hP hD hS hl hg; simp only [List.map_cons, trV_rf] at h9; exact h9)
  · exact h.elim
theorem snd_getr2 (hF : Fx p s m args meth c D cA A nL cc own) {ci cj k idx N N2 : Nat} {C C2 ref : String} {T T2 : u_T} {ty0 ty2 : Nat → FieldType} (hC : ClsOK ci C T N ty0) (hC2 : ClsOK cj C2 T2 N2 ty2) (hkN : k < N) (hkN2 : k < N2) (hw : (Cond.fieldLink own idx ref (T k).2.1 (T k).2.2.1) ∈ PWS) (href : (T k).1 = ref) (hTT : T k = T2 k) (hf : (fts ci).getD k false = true) (hf2 : (fts cj).getD k false = true) (hdg : decode cc pc = .ok (.getfield idx, 3)) : Snd (jJ p l e R s m args below meth c Q D cA A nL ad0 n0) pc (oGr2 ci cj k (pc + 3)) := by
  intro K lv st nn M hk h ad H locs ls hP hD hS hl hg
  obtain ⟨hx, hb, hml, hown, hts, hK, hA, hlk⟩ := hF
  unfold oGr2 at h
  split at h
  · next a r =>
    obtain ⟨hs, ha, h⟩ := h
    rcases hs with hs | hs
    · have he : (pw cA ad nn.1 M)[a]? = some (adr ad a, .inr (ci, trF ad M a ci)) := by rw [pw_get ha, trE_obj hs hC.2.2.2.2.2, adr_lt ha hg.2.2.1]
      exact va_get (D := D) (ci := ci) (v := va_rf ((M.2.2.1 a k).map (adr ad))) (C := C) (T := T) (N := N) hx hb hts hC.2.1 hown hK hP a he hC.1 k hkN (hts _ hw) (fun _ h9 => by rw [← href]; exact h9) (by rw [trF_get (by rw [hC.2.2.2.2.1]; exact hkN), hf]; rfl) hdg (by have h9 := hk _ _ _ _ _ h ad H locs ls hP hD hS hl hg; simp only [List.map_cons, trV_rf] at h9; exact h9)
    · have he : (pw cA ad nn.1 M)[a]? = some (adr ad a, .inr (cj, trF ad M a cj)) := by rw [pw_get ha, trE_obj hs hC2.2.2.2.2.2, adr_lt ha hg.2.2.1]
      exact va_get (D := D) (ci := cj) (v := va_rf ((M.2.2.1 a k).map (adr ad))) (C := C2) (T := T2) (N := N2) hx hb hts hC2.2.1 hown hK hP a he hC2.1 k hkN2 (hts _ (by rw [← hTT]; exact hw)) (fun _ h9 => by rw [← href, hTT]; exact h9) (by rw [trF_get (by rw [hC2.2.2.2.2.1]; exact hkN2), hf2]; rfl) hdg (by have h9 := hk _ _ _ _ _ h ad H locs ls hP hD hS hl hg; simp only [List.map_cons, trV_rf] at h9; exact h9)
  · exact h.elim
theorem snd_puti (hF : Fx p s m args meth c D cA A nL cc own) {ci k idx N : Nat} {C ref : String} {T : u_T} {ty0 : Nat → FieldType} (hC : ClsOK ci C T N ty0) (hkN : k < N) (hw : (Cond.fieldLink own idx ref (T k).2.1 (T k).2.2.1) ∈ PWS) (href : (T k).1 = ref) (hf : (fts ci).getD k false = false) (hfi : (T k).2.2.2 = false) (hty : ty0 k = .int) (hdg : decode cc pc = .ok (.putfield idx, 3)) : Snd (jJ p l e R s m args below meth c Q D cA A nL ad0 n0) pc (oPi ci k (pc + 3)) := by
  intro K lv st nn M hk h ad H locs ls hP hD hS hl hg
  obtain ⟨hx, hb, hml, hown, hts, hK, hA, hlk⟩ := hF
  unfold oPi at h
  split at h
  · next x a r =>
    obtain ⟨hs, ha, h⟩ := h
    have he : (pw cA ad nn.1 M)[a]? = some (adr ad a, .inr (ci, trF ad M a ci)) := by rw [pw_get ha, trE_obj hs hC.2.2.2.2.2, adr_lt ha hg.2.2.1]
    refine va_put (D := D) (ci := ci) (v := .int x) (ty := ty0 k) (C := C) (T := T) (N := N) hx hb hts hC.2.1 ty0 hC.2.2.1 hC.2.2.2.1 hown hK hP hD hS a he hC.1 k hkN (hts _ hw) (fun _ h9 => by rw [← href]; exact h9) hfi (hC.2.2.1 k hkN) (by rw [hty]; rfl) (by rw [hty]; rfl) (by rw [trF_len, hC.2.2.2.2.1]; exact hkN) hdg (fun H1 locs1 hP1 hD1 hS1 => ?_)
    rw [trF_seti hf] at hP1 hD1
    have e9 : (pw cA ad nn.1 M).set a (adr ad a, .inr (ci, trF ad (u2 M.1 a k x, M.2) a ci)) = pw cA ad nn.1 (u2 M.1 a k x, M.2) := by
      rw [adr_lt ha hg.2.2.1]
      refine pw_set ha (trE_obj hs hC.2.2.2.2.2) (fun j hj hja => ?_)
      exact trE_same (u2_ne _ _ _ hja) rfl rfl rfl rfl
    rw [e9] at hP1 hD1
    exact hk _ _ _ _ _ h ad H1 locs1 ls hP1 hD1 hS1 hl hg
  · exact h.elim
theorem snd_putz (hF : Fx p s m args meth c D cA A nL cc own) {ci k idx N : Nat} {C ref : String} {T : u_T} {ty0 : Nat → FieldType} (hC : ClsOK ci C T N ty0) (hkN : k < N) (hw : (Cond.fieldLink own idx ref (T k).2.1 (T k).2.2.1) ∈ PWS) (href : (T k).1 = ref) (hf : (fts ci).getD k false = false) (hfi : (T k).2.2.2 = false) (hty : ty0 k = .boolean) (hdg : decode cc pc = .ok (.putfield idx, 3)) : Snd (jJ p l e R s m args below meth c Q D cA A nL ad0 n0) pc (oPz ci k (pc + 3)) := by
  intro K lv st nn M hk h ad H locs ls hP hD hS hl hg
  obtain ⟨hx, hb, hml, hown, hts, hK, hA, hlk⟩ := hF
  unfold oPz at h
  split at h
  · next x a r =>
    obtain ⟨hz, hs, ha, h⟩ := h
    have he : (pw cA ad nn.1 M)[a]? = some (adr ad a, .inr (ci, trF ad M a ci)) := by rw [pw_get ha, trE_obj hs hC.2.2.2.2.2, adr_lt ha hg.2.2.1]
    refine va_put (D := D) (ci := ci) (v := .int x) (ty := ty0 k) (C := C) (T := T) (N := N) hx hb hts hC.2.1 ty0 hC.2.2.1 hC.2.2.2.1 hown hK hP hD hS a he hC.1 k hkN (hts _ hw) (fun _ h9 => by rw [← href]; exact h9) hfi (hC.2.2.1 k hkN) (by rw [hty]; rcases hz with rfl | rfl <;> decide +kernel) (by rw [hty]; rcases hz with rfl | rfl <;> decide +kernel) (by rw [trF_len, hC.2.2.2.2.1]; exact hkN) hdg (fun H1 locs1 hP1 hD1 hS1 => ?_)
    rw [trF_seti hf] at hP1 hD1
    have e9 : (pw cA ad nn.1 M).set a (adr ad a, .inr (ci, trF ad (u2 M.1 a k x, M.2) a ci)) = pw cA ad nn.1 (u2 M.1 a k x, M.2) := by
      rw [adr_lt ha hg.2.2.1]
      refine pw_set ha (trE_obj hs hC.2.2.2.2.2) (fun j hj hja => ?_)
      exact trE_same (u2_ne _ _ _ hja) rfl rfl rfl rfl
    rw [e9] at hP1 hD1
    exact hk _ _ _ _ _ h ad H1 locs1 ls hP1 hD1 hS1 hl hg
  · exact h.elim
theorem snd_putr (hF : Fx p s m args meth c D cA A nL cc own) {ci k idx N : Nat} {C ref : String} {T : u_T} {ty0 : Nat → FieldType} (hC : ClsOK ci C T N ty0) (hkN : k < N) (hw : (Cond.fieldLink own idx ref (T k).2.1 (T k).2.2.1) ∈ PWS) (href : (T k).1 = ref) (hf : (fts ci).getD k false = true) (hfi : (T k).2.2.2 = false) (hty : ∀ v : Value, (∃ q, v = .ref q) ∨ v = .null → narrow (ty0 k) v = v ∧ fits (ty0 k) v = true) (hdg : decode cc pc = .ok (.putfield idx, 3)) : Snd (jJ p l e R s m args below meth c Q D cA A nL ad0 n0) pc (oPr ci k (pc + 3)) := by
  intro K lv st nn M hk h ad H locs ls hP hD hS hl hg
  obtain ⟨hx, hb, hml, hown, hts, hK, hA, hlk⟩ := hF
  unfold oPr at h
  split at h
  · next b a r =>
    obtain ⟨hs, ha, h⟩ := h
    have he : (pw cA ad nn.1 M)[a]? = some (adr ad a, .inr (ci, trF ad M a ci)) := by rw [pw_get ha, trE_obj hs hC.2.2.2.2.2, adr_lt ha hg.2.2.1]
    refine va_put (D := D) (ci := ci) (v := .ref (adr ad b)) (ty := ty0 k) (C := C) (T := T) (N := N) hx hb hts hC.2.1 ty0 hC.2.2.1 hC.2.2.2.1 hown hK hP hD hS a he hC.1 k hkN (hts _ hw) (fun _ h9 => by rw [← href]; exact h9) hfi (hC.2.2.1 k hkN) (hty _ (Or.inl ⟨_, rfl⟩)).1 (hty _ (Or.inl ⟨_, rfl⟩)).2 (by rw [trF_len, hC.2.2.2.2.1]; exact hkN) hdg (fun H1 locs1 hP1 hD1 hS1 => ?_)
    rw [show Value.ref (adr ad b) = va_rf ((some b).map (adr ad)) from rfl, trF_setr hf] at hP1 hD1
    have e9 : (pw cA ad nn.1 M).set a (adr ad a, .inr (ci, trF ad (M.1, M.2.1, u2 M.2.2.1 a k (some b), M.2.2.2) a ci)) = pw cA ad nn.1 (M.1, M.2.1, u2 M.2.2.1 a k (some b), M.2.2.2) := by
      rw [adr_lt ha hg.2.2.1]
      refine pw_set ha (trE_obj hs hC.2.2.2.2.2) (fun j hj hja => ?_)
      exact trE_same rfl rfl (u2_ne _ _ _ hja) rfl rfl
    rw [e9] at hP1 hD1
    exact hk _ _ _ _ _ h ad H1 locs1 ls hP1 hD1 hS1 hl hg
  · next a r =>
    obtain ⟨hs, ha, h⟩ := h
    have he : (pw cA ad nn.1 M)[a]? = some (adr ad a, .inr (ci, trF ad M a ci)) := by rw [pw_get ha, trE_obj hs hC.2.2.2.2.2, adr_lt ha hg.2.2.1]
    refine va_put (D := D) (ci := ci) (v := .null) (ty := ty0 k) (C := C) (T := T) (N := N) hx hb hts hC.2.1 ty0 hC.2.2.1 hC.2.2.2.1 hown hK hP hD hS a he hC.1 k hkN (hts _ hw) (fun _ h9 => by rw [← href]; exact h9) hfi (hC.2.2.1 k hkN) (hty _ (Or.inr rfl)).1 (hty _ (Or.inr rfl)).2 (by rw [trF_len, hC.2.2.2.2.1]; exact hkN) hdg (fun H1 locs1 hP1 hD1 hS1 => ?_)
    rw [show Value.null = va_rf ((none : Option Nat).map (adr ad)) from rfl, trF_setr hf] at hP1 hD1
    have e9 : (pw cA ad nn.1 M).set a (adr ad a, .inr (ci, trF ad (M.1, M.2.1, u2 M.2.2.1 a k none, M.2.2.2) a ci)) = pw cA ad nn.1 (M.1, M.2.1, u2 M.2.2.1 a k none, M.2.2.2) := by
      rw [adr_lt ha hg.2.2.1]
      refine pw_set ha (trE_obj hs hC.2.2.2.2.2) (fun j hj hja => ?_)
      exact trE_same rfl rfl (u2_ne _ _ _ hja) rfl rfl
    rw [e9] at hP1 hD1
    exact hk _ _ _ _ _ h ad H1 locs1 ls hP1 hD1 hS1 hl hg
  · exact h.elim
theorem snd_putrF (hF : Fx p s m args meth c D cA A nL cc own) {ci k idx N : Nat} {C ref : String} {T : u_T} {ty0 : Nat → FieldType} (hC : ClsOK ci C T N ty0) (hkN : k < N) (hw : (Cond.fieldLink own idx ref (T k).2.1 (T k).2.2.1) ∈ PWS) (href : (T k).1 = ref) (hf : (fts ci).getD k false = true) (hfi : (T k).2.2.2 = true) (hty : ∀ v : Value, (∃ q, v = .ref q) ∨ v = .null → narrow (ty0 k) v = v ∧ fits (ty0 k) v = true) (hin2 : meth.name = "<init>") (hdecl : (T k).1 = own) (hdg : decode cc pc = .ok (.putfield idx, 3)) : Snd (jJ p l e R s m args below meth c Q D cA A nL ad0 n0) pc (oPr ci k (pc + 3)) := by
  intro K lv st nn M hk h ad H locs ls hP hD hS hl hg
  obtain ⟨hx, hb, hml, hown, hts, hK, hA, hlk⟩ := hF
  unfold oPr at h
  split at h
  · next b a r =>
    obtain ⟨hs, ha, h⟩ := h
    have he : (pw cA ad nn.1 M)[a]? = some (adr ad a, .inr (ci, trF ad M a ci)) := by rw [pw_get ha, trE_obj hs hC.2.2.2.2.2, adr_lt ha hg.2.2.1]
    refine va_putF (D := D) (ci := ci) (v := .ref (adr ad b)) (ty := ty0 k) (C := C) (T := T) (N := N) hx hb hts hC.2.1 ty0 hC.2.2.1 hC.2.2.2.1 hown hK hP hD hS a he hC.1 k hkN (hts _ hw) (fun _ h9 => by rw [← href]; exact h9) (by rw [hfi]) hin2 hdecl (hC.2.2.1 k hkN) (hty _ (Or.inl ⟨_, rfl⟩)).1 (hty _ (Or.inl ⟨_, rfl⟩)).2 (by rw [trF_len, hC.2.2.2.2.1]; exact hkN) hdg (fun H1 locs1 hP1 hD1 hS1 => ?_)
    rw [show Value.ref (adr ad b) = va_rf ((some b).map (adr ad)) from rfl, trF_setr hf] at hP1 hD1
    have e9 : (pw cA ad nn.1 M).set a (adr ad a, .inr (ci, trF ad (M.1, M.2.1, u2 M.2.2.1 a k (some b), M.2.2.2) a ci)) = pw cA ad nn.1 (M.1, M.2.1, u2 M.2.2.1 a k (some b), M.2.2.2) := by
      rw [adr_lt ha hg.2.2.1]
      refine pw_set ha (trE_obj hs hC.2.2.2.2.2) (fun j hj hja => ?_)
      exact trE_same rfl rfl (u2_ne _ _ _ hja) rfl rfl
    rw [e9] at hP1 hD1
    exact hk _ _ _ _ _ h ad H1 locs1 ls hP1 hD1 hS1 hl hg
  · next a r =>
    obtain ⟨hs, ha, h⟩ := h
    have he : (pw cA ad nn.1 M)[a]? = some (adr ad a, .inr (ci, trF ad M a ci)) := by rw [pw_get ha, trE_obj hs hC.2.2.2.2.2, adr_lt ha hg.2.2.1]
    refine va_putF (D := D) (ci := ci) (v := .null) (ty := ty0 k) (C := C) (T := T) (N := N) hx hb hts hC.2.1 ty0 hC.2.2.1 hC.2.2.2.1 hown hK hP hD hS a he hC.1 k hkN (hts _ hw) (fun _ h9 => by rw [← href]; exact h9) (by rw [hfi]) hin2 hdecl (hC.2.2.1 k hkN) (hty _ (Or.inr rfl)).1 (hty _ (Or.inr rfl)).2 (by rw [trF_len, hC.2.2.2.2.1]; exact hkN) hdg (fun H1 locs1 hP1 hD1 hS1 => ?_)
    rw [show Value.null = va_rf ((none : Option Nat).map (adr ad)) from rfl, trF_setr hf] at hP1 hD1
    have e9 : (pw cA ad nn.1 M).set a (adr ad a, .inr (ci, trF ad (M.1, M.2.1, u2 M.2.2.1 a k none, M.2.2.2) a ci)) = pw cA ad nn.1 (M.1, M.2.1, u2 M.2.2.1 a k none, M.2.2.2) := by
      rw [adr_lt ha hg.2.2.1]
      refine pw_set ha (trE_obj hs hC.2.2.2.2.2) (fun j hj hja => ?_)
      exact trE_same rfl rfl (u2_ne _ _ _ hja) rfl rfl
    rw [e9] at hP1 hD1
    exact hk _ _ _ _ _ h ad H1 locs1 ls hP1 hD1 hS1 hl hg
  · exact h.elim
theorem snd_getiN (hF : Fx p s m args meth c D cA A nL cc own) {ci k idx N : Nat} {C ref : String} {host : String} {T : u_T} {ty0 : Nat → FieldType} (hC : ClsOK ci C T N ty0) (hkN : k < N) (hw : (Cond.fieldLinkNest own idx ref (T k).2.1 (T k).2.2.1 host) ∈ PWS) (href : (T k).1 = ref) (hf : (fts ci).getD k false = false) (hdg : decode cc pc = .ok (.getfield idx, 3)) : Snd (jJ p l e R s m args below meth c Q D cA A nL ad0 n0) pc (oGi ci k (pc + 3)) := by
  intro K lv st nn M hk h ad H locs ls hP hD hS hl hg
  obtain ⟨hx, hb, hml, hown, hts, hK, hA, hlk⟩ := hF
  unfold oGi at h
  split at h
  · next a r =>
    obtain ⟨hs, ha, h⟩ := h
    have he : (pw cA ad nn.1 M)[a]? = some (adr ad a, .inr (ci, trF ad M a ci)) := by rw [pw_get ha, trE_obj hs hC.2.2.2.2.2, adr_lt ha hg.2.2.1]
    exact va_getN (D := D) (ci := ci) (v := .int (M.1 a k)) (C := C) (T := T) (N := N) hx hb hts hC.2.1 hown hK hP a he hC.1 k hkN (hts _ hw) (fun _ h9 => by rw [← href]; exact h9) (by rw [trF_get (by rw [hC.2.2.2.2.1]; exact hkN), hf]; rfl) hdg (hk _ _ _ _ _ h ad H locs ls hP hD hS hl hg)
  · exact h.elim
theorem snd_getrN (hF : Fx p s m args meth c D cA A nL cc own) {ci k idx N : Nat} {C ref : String} {host : String} {T : u_T} {ty0 : Nat → FieldType} (hC : ClsOK ci C T N ty0) (hkN : k < N) (hw : (Cond.fieldLinkNest own idx ref (T k).2.1 (T k).2.2.1 host) ∈ PWS) (href : (T k).1 = ref) (hf : (fts ci).getD k false = true) (hdg : decode cc pc = .ok (.getfield idx, 3)) : Snd (jJ p l e R s m args below meth c Q D cA A nL ad0 n0) pc (oGr ci k (pc + 3)) := by
  intro K lv st nn M hk h ad H locs ls hP hD hS hl hg
  obtain ⟨hx, hb, hml, hown, hts, hK, hA, hlk⟩ := hF
  unfold oGr at h
  split at h
  · next a r =>
    obtain ⟨hs, ha, h⟩ := h
    have he : (pw cA ad nn.1 M)[a]? = some (adr ad a, .inr (ci, trF ad M a ci)) := by rw [pw_get ha, trE_obj hs hC.2.2.2.2.2, adr_lt ha hg.2.2.1]
    exact va_getN (D := D) (ci := ci) (v := va_rf ((M.2.2.1 a k).map (adr ad))) (C := C) (T := T) (N := N) hx hb hts hC.2.1 hown hK hP a he hC.1 k hkN (hts _ hw) (fun _ h9 => by rw [← href]; exact h9) (by rw [trF_get (by rw [hC.2.2.2.2.1]; exact hkN), hf]; rfl) hdg (by have h9 := hk _ _ _ _ _ h ad H locs ls hP hD hS hl hg; simp only [List.map_cons, trV_rf] at h9; exact h9)
  · exact h.elim
theorem snd_putiN (hF : Fx p s m args meth c D cA A nL cc own) {ci k idx N : Nat} {C ref : String} {host : String} {T : u_T} {ty0 : Nat → FieldType} (hC : ClsOK ci C T N ty0) (hkN : k < N) (hw : (Cond.fieldLinkNest own idx ref (T k).2.1 (T k).2.2.1 host) ∈ PWS) (href : (T k).1 = ref) (hf : (fts ci).getD k false = false) (hfi : (T k).2.2.2 = false) (hty : ty0 k = .int) (hdg : decode cc pc = .ok (.putfield idx, 3)) : Snd (jJ p l e R s m args below meth c Q D cA A nL ad0 n0) pc (oPi ci k (pc + 3)) := by
  intro K lv st nn M hk h ad H locs ls hP hD hS hl hg
  obtain ⟨hx, hb, hml, hown, hts, hK, hA, hlk⟩ := hF
  unfold oPi at h
  split at h
  · next x a r =>
    obtain ⟨hs, ha, h⟩ := h
    have he : (pw cA ad nn.1 M)[a]? = some (adr ad a, .inr (ci, trF ad M a ci)) := by rw [pw_get ha, trE_obj hs hC.2.2.2.2.2, adr_lt ha hg.2.2.1]
    refine va_putN (D := D) (ci := ci) (v := .int x) (ty := ty0 k) (C := C) (T := T) (N := N) hx hb hts hC.2.1 ty0 hC.2.2.1 hC.2.2.2.1 hown hK hP hD hS a he hC.1 k hkN (hts _ hw) (fun _ h9 => by rw [← href]; exact h9) hfi (hC.2.2.1 k hkN) (by rw [hty]; rfl) (by rw [hty]; rfl) (by rw [trF_len, hC.2.2.2.2.1]; exact hkN) hdg (fun H1 locs1 hP1 hD1 hS1 => ?_)
    rw [trF_seti hf] at hP1 hD1
    have e9 : (pw cA ad nn.1 M).set a (adr ad a, .inr (ci, trF ad (u2 M.1 a k x, M.2) a ci)) = pw cA ad nn.1 (u2 M.1 a k x, M.2) := by
      rw [adr_lt ha hg.2.2.1]
      refine pw_set ha (trE_obj hs hC.2.2.2.2.2) (fun j hj hja => ?_)
      exact trE_same (u2_ne _ _ _ hja) rfl rfl rfl rfl
    rw [e9] at hP1 hD1
    exact hk _ _ _ _ _ h ad H1 locs1 ls hP1 hD1 hS1 hl hg
  · exact h.elim
theorem snd_putzN (hF : Fx p s m args meth c D cA A nL cc own) {ci k idx N : Nat} {C ref : String} {host : String} {T : u_T} {ty0 : Nat → FieldType} (hC : ClsOK ci C T N ty0) (hkN : k < N) (hw : (Cond.fieldLinkNest own idx ref (T k).2.1 (T k).2.2.1 host) ∈ PWS) (href : (T k).1 = ref) (hf : (fts ci).getD k false = false) (hfi : (T k).2.2.2 = false) (hty : ty0 k = .boolean) (hdg : decode cc pc = .ok (.putfield idx, 3)) : Snd (jJ p l e R s m args below meth c Q D cA A nL ad0 n0) pc (oPz ci k (pc + 3)) := by
  intro K lv st nn M hk h ad H locs ls hP hD hS hl hg
  obtain ⟨hx, hb, hml, hown, hts, hK, hA, hlk⟩ := hF
  unfold oPz at h
  split at h
  · next x a r =>
    obtain ⟨hz, hs, ha, h⟩ := h
    have he : (pw cA ad nn.1 M)[a]? = some (adr ad a, .inr (ci, trF ad M a ci)) := by rw [pw_get ha, trE_obj hs hC.2.2.2.2.2, adr_lt ha hg.2.2.1]
    refine va_putN (D := D) (ci := ci) (v := .int x) (ty := ty0 k) (C := C) (T := T) (N := N) hx hb hts hC.2.1 ty0 hC.2.2.1 hC.2.2.2.1 hown hK hP hD hS a he hC.1 k hkN (hts _ hw) (fun _ h9 => by rw [← href]; exact h9) hfi (hC.2.2.1 k hkN) (by rw [hty]; rcases hz with rfl | rfl <;> decide +kernel) (by rw [hty]; rcases hz with rfl | rfl <;> decide +kernel) (by rw [trF_len, hC.2.2.2.2.1]; exact hkN) hdg (fun H1 locs1 hP1 hD1 hS1 => ?_)
    rw [trF_seti hf] at hP1 hD1
    have e9 : (pw cA ad nn.1 M).set a (adr ad a, .inr (ci, trF ad (u2 M.1 a k x, M.2) a ci)) = pw cA ad nn.1 (u2 M.1 a k x, M.2) := by
      rw [adr_lt ha hg.2.2.1]
      refine pw_set ha (trE_obj hs hC.2.2.2.2.2) (fun j hj hja => ?_)
      exact trE_same (u2_ne _ _ _ hja) rfl rfl rfl rfl
    rw [e9] at hP1 hD1
    exact hk _ _ _ _ _ h ad H1 locs1 ls hP1 hD1 hS1 hl hg
  · exact h.elim
theorem snd_putrN (hF : Fx p s m args meth c D cA A nL cc own) {ci k idx N : Nat} {C ref : String} {host : String} {T : u_T} {ty0 : Nat → FieldType} (hC : ClsOK ci C T N ty0) (hkN : k < N) (hw : (Cond.fieldLinkNest own idx ref (T k).2.1 (T k).2.2.1 host) ∈ PWS) (href : (T k).1 = ref) (hf : (fts ci).getD k false = true) (hfi : (T k).2.2.2 = false) (hty : ∀ v : Value, (∃ q, v = .ref q) ∨ v = .null → narrow (ty0 k) v = v ∧ fits (ty0 k) v = true) (hdg : decode cc pc = .ok (.putfield idx, 3)) : Snd (jJ p l e R s m args below meth c Q D cA A nL ad0 n0) pc (oPr ci k (pc + 3)) := by
  intro K lv st nn M hk h ad H locs ls hP hD hS hl hg
  obtain ⟨hx, hb, hml, hown, hts, hK, hA, hlk⟩ := hF
  unfold oPr at h
  split at h
  · next b a r =>
    obtain ⟨hs, ha, h⟩ := h
    have he : (pw cA ad nn.1 M)[a]? = some (adr ad a, .inr (ci, trF ad M a ci)) := by rw [pw_get ha, trE_obj hs hC.2.2.2.2.2, adr_lt ha hg.2.2.1]
    refine va_putN (D := D) (ci := ci) (v := .ref (adr ad b)) (ty := ty0 k) (C := C) (T := T) (N := N) hx hb hts hC.2.1 ty0 hC.2.2.1 hC.2.2.2.1 hown hK hP hD hS a he hC.1 k hkN (hts _ hw) (fun _ h9 => by rw [← href]; exact h9) hfi (hC.2.2.1 k hkN) (hty _ (Or.inl ⟨_, rfl⟩)).1 (hty _ (Or.inl ⟨_, rfl⟩)).2 (by rw [trF_len, hC.2.2.2.2.1]; exact hkN) hdg (fun H1 locs1 hP1 hD1 hS1 => ?_)
    rw [show Value.ref (adr ad b) = va_rf ((some b).map (adr ad)) from rfl, trF_setr hf] at hP1 hD1
    have e9 : (pw cA ad nn.1 M).set a (adr ad a, .inr (ci, trF ad (M.1, M.2.1, u2 M.2.2.1 a k (some b), M.2.2.2) a ci)) = pw cA ad nn.1 (M.1, M.2.1, u2 M.2.2.1 a k (some b), M.2.2.2) := by
      rw [adr_lt ha hg.2.2.1]
      refine pw_set ha (trE_obj hs hC.2.2.2.2.2) (fun j hj hja => ?_)
      exact trE_same rfl rfl (u2_ne _ _ _ hja) rfl rfl
    rw [e9] at hP1 hD1
    exact hk _ _ _ _ _ h ad H1 locs1 ls hP1 hD1 hS1 hl hg
  · next a r =>
    obtain ⟨hs, ha, h⟩ := h
    have he : (pw cA ad nn.1 M)[a]? = some (adr ad a, .inr (ci, trF ad M a ci)) := by rw [pw_get ha, trE_obj hs hC.2.2.2.2.2, adr_lt ha hg.2.2.1]
    refine va_putN (D := D) (ci := ci) (v := .null) (ty := ty0 k) (C := C) (T := T) (N := N) hx hb hts hC.2.1 ty0 hC.2.2.1 hC.2.2.2.1 hown hK hP hD hS a he hC.1 k hkN (hts _ hw) (fun _ h9 => by rw [← href]; exact h9) hfi (hC.2.2.1 k hkN) (hty _ (Or.inr rfl)).1 (hty _ (Or.inr rfl)).2 (by rw [trF_len, hC.2.2.2.2.1]; exact hkN) hdg (fun H1 locs1 hP1 hD1 hS1 => ?_)
    rw [show Value.null = va_rf ((none : Option Nat).map (adr ad)) from rfl, trF_setr hf] at hP1 hD1
    have e9 : (pw cA ad nn.1 M).set a (adr ad a, .inr (ci, trF ad (M.1, M.2.1, u2 M.2.2.1 a k none, M.2.2.2) a ci)) = pw cA ad nn.1 (M.1, M.2.1, u2 M.2.2.1 a k none, M.2.2.2) := by
      rw [adr_lt ha hg.2.2.1]
      refine pw_set ha (trE_obj hs hC.2.2.2.2.2) (fun j hj hja => ?_)
      exact trE_same rfl rfl (u2_ne _ _ _ hja) rfl rfl
    rw [e9] at hP1 hD1
    exact hk _ _ _ _ _ h ad H1 locs1 ls hP1 hD1 hS1 hl hg
  · exact h.elim
theorem snd_puti2 (hF : Fx p s m args meth c D cA A nL cc own) {ci cj k idx N N2 : Nat} {C C2 ref : String} {T T2 : u_T} {ty0 ty2 : Nat → FieldType} (hC : ClsOK ci C T N ty0) (hC2 : ClsOK cj C2 T2 N2 ty2) (hkN : k < N) (hkN2 : k < N2) (hw : (Cond.fieldLink own idx ref (T k).2.1 (T k).2.2.1) ∈ PWS) (href : (T k).1 = ref) (hTT : T k = T2 k) (hf : (fts ci).getD k false = false) (hf2 : (fts cj).getD k false = false) (hfi : (T k).2.2.2 = false) (hty : ty0 k = .int) (hty2 : ty2 k = .int) (hdg : decode cc pc = .ok (.putfield idx, 3)) : Snd (jJ p l e R s m args below meth c Q D cA A nL ad0 n0) pc (oPi2 ci cj k (pc + 3)) := by
  intro K lv st nn M hk h
  unfold oPi2 at h
  split at h
  · next x a r =>
    obtain ⟨hs, ha, h⟩ := h
    rcases hs with hs | hs
    · exact snd_puti hF hC hkN hw href hf hfi hty hdg K lv (.int x :: .ref a :: r) nn M hk ⟨hs, ha, h⟩
    · exact snd_puti hF hC2 hkN2 (by rw [← hTT]; exact hw) (by rw [← hTT]; exact href) hf2 (by rw [← hTT]; exact hfi) hty2 hdg K lv (.int x :: .ref a :: r) nn M hk ⟨hs, ha, h⟩
  · exact h.elim
theorem snd_putrF2 (hF : Fx p s m args meth c D cA A nL cc own) {ci cj k idx N N2 : Nat} {C C2 ref : String} {T T2 : u_T} {ty0 ty2 : Nat → FieldType} (hC : ClsOK ci C T N ty0) (hC2 : ClsOK cj C2 T2 N2 ty2) (hkN : k < N) (hkN2 : k < N2) (hw : (Cond.fieldLink own idx ref (T k).2.1 (T k).2.2.1) ∈ PWS) (href : (T k).1 = ref) (hTT : T k = T2 k) (hf : (fts ci).getD k false = true) (hf2 : (fts cj).getD k false = true) (hfi : (T k).2.2.2 = true) (hty : ∀ v : Value, (∃ q, v = .ref q) ∨ v = .null → narrow (ty0 k) v = v ∧ fits (ty0 k) v = true) (hty2 : ∀ v : Value, (∃ q, v = .ref q) ∨ v = .null → narrow (ty2 k) v = v ∧ fits (ty2 k) v = true) (hin2 : meth.name = "<init>") (hdecl : (T k).1 = own) (hdg : decode cc pc = .ok (.putfield idx, 3)) : Snd (jJ p l e R s m args below meth c Q D cA A nL ad0 n0) pc (oPr2 ci cj k (pc + 3)) := by
  intro K lv st nn M hk h
  unfold oPr2 at h
  split at h
  · next x a r =>
    obtain ⟨hs, ha, h⟩ := h
    rcases hs with hs | hs
    · exact snd_putrF hF hC hkN hw href hf hfi hty hin2 hdecl hdg K lv (.ref x :: .ref a :: r) nn M hk ⟨hs, ha, h⟩
    · exact snd_putrF hF hC2 hkN2 (by rw [← hTT]; exact hw) (by rw [← hTT]; exact href) hf2 (by rw [← hTT]; exact hfi) hty2 hin2 (by rw [← hTT]; exact hdecl) hdg K lv (.ref x :: .ref a :: r) nn M hk ⟨hs, ha, h⟩
  · exact h.elim
theorem trA_int {ad : Nat → Nat} {M : PM} {a t : Nat} (h : t = 100 ∨ t = 102 ∨ t = 103) : trA ad M a t = .inl (M.1 a) := by rcases h with rfl | rfl | rfl <;> rfl
def oAi (t nx : Nat) : OP := fun K lv st nn M => match st with
  | .int i :: .ref a :: r => (shp a).1 = t ∧ a < nn.1 ∧ vp_in i (shp a).2 ∧ K nx lv (.int (M.1 a i.toNatClampNeg) :: r) nn M
  | _ => False
def oAf (nx : Nat) : OP := fun K lv st nn M => match st with
  | .int i :: .ref a :: r => (shp a).1 = 104 ∧ a < nn.1 ∧ vp_in i (shp a).2 ∧ K nx lv (.float (M.2.1 a i.toNatClampNeg) :: r) nn M
  | _ => False
def oAl (nx : Nat) : OP := fun K lv st nn M => match st with
  | .int i :: .ref a :: r => (shp a).1 = 101 ∧ a < nn.1 ∧ vp_in i (shp a).2 ∧ K nx lv (.long (M.2.2.2.1 a i.toNatClampNeg) :: r) nn M
  | _ => False
def oAd (nx : Nat) : OP := fun K lv st nn M => match st with
  | .int i :: .ref a :: r => (shp a).1 = 105 ∧ a < nn.1 ∧ vp_in i (shp a).2 ∧ K nx lv (.double (M.2.2.2.2 a i.toNatClampNeg) :: r) nn M
  | _ => False
def oAr (t nx : Nat) : OP := fun K lv st nn M => match st with
  | .int i :: .ref a :: r => (shp a).1 = t ∧ a < nn.1 ∧ vp_in i (shp a).2 ∧ K nx lv (va_rf (M.2.2.1 a i.toNatClampNeg) :: r) nn M
  | _ => False
def oSi (t : Nat) (f : Int32 → Int32) (nx : Nat) : OP := fun K lv st nn M => match st with
  | .int x :: .int i :: .ref a :: r => (shp a).1 = t ∧ a < nn.1 ∧ vp_in i (shp a).2 ∧ K nx lv r nn (u2 M.1 a i.toNatClampNeg (f x), M.2)
  | _ => False
def oSf (nx : Nat) : OP := fun K lv st nn M => match st with
  | .float x :: .int i :: .ref a :: r => (shp a).1 = 104 ∧ a < nn.1 ∧ vp_in i (shp a).2 ∧ K nx lv r nn (M.1, u2 M.2.1 a i.toNatClampNeg x, M.2.2)
  | _ => False
def oSl (nx : Nat) : OP := fun K lv st nn M => match st with
  | .long x :: .int i :: .ref a :: r => (shp a).1 = 101 ∧ a < nn.1 ∧ vp_in i (shp a).2 ∧ K nx lv r nn (M.1, M.2.1, M.2.2.1, u2 M.2.2.2.1 a i.toNatClampNeg x, M.2.2.2.2)
  | _ => False
def oSd (nx : Nat) : OP := fun K lv st nn M => match st with
  | .double x :: .int i :: .ref a :: r => (shp a).1 = 105 ∧ a < nn.1 ∧ vp_in i (shp a).2 ∧ K nx lv r nn (M.1, M.2.1, M.2.2.1, M.2.2.2.1, u2 M.2.2.2.2 a i.toNatClampNeg x)
  | _ => False
def oSr (t nx : Nat) : OP := fun K lv st nn M => match st with
  | .ref b :: .int i :: .ref a :: r => (shp a).1 = t ∧ a < nn.1 ∧ (shp b).1 = 6 ∧ b < nn.1 ∧ vp_in i (shp a).2 ∧ K nx lv r nn (M.1, M.2.1, u2 M.2.2.1 a i.toNatClampNeg (some b), M.2.2.2)
  | _ => False
theorem snd_iaload (hF : Fx p s m args meth c D cA A nL cc own) (hdg : decode cc pc = .ok (.iaload, 1)) : Snd (jJ p l e R s m args below meth c Q D cA A nL ad0 n0) pc (oAi 100 (pc + 1)) := by
  intro K lv st nn M hk h ad H locs ls hP hD hS hl hg
  obtain ⟨hx, hb, hml, hown, hts, hK, hA, hlk⟩ := hF
  unfold oAi at h
  split at h
  · next i a r =>
    obtain ⟨hs, ha, hin, h⟩ := h
    have he : (pw cA ad nn.1 M)[a]? = some (adr ad a, .inl (cA 100, (shp a).2, .inl (M.1 a))) := by rw [pw_get ha, trE_arr hs (by decide), adr_lt ha hg.2.2.1]; rfl
    exact va_iald hx hb hK hP a 0 he (ptys_get cA (by decide)) hin hdg (hk _ _ _ _ _ h ad H locs ls hP hD hS hl hg)
  · exact h.elim
theorem snd_caload (hF : Fx p s m args meth c D cA A nL cc own) (hdg : decode cc pc = .ok (.caload, 1)) : Snd (jJ p l e R s m args below meth c Q D cA A nL ad0 n0) pc (oAi 102 (pc + 1)) := by
  intro K lv st nn M hk h ad H locs ls hP hD hS hl hg
  obtain ⟨hx, hb, hml, hown, hts, hK, hA, hlk⟩ := hF
  unfold oAi at h
  split at h
  · next i a r =>
    obtain ⟨hs, ha, hin, h⟩ := h
    have he : (pw cA ad nn.1 M)[a]? = some (adr ad a, .inl (cA 102, (shp a).2, .inl (M.1 a))) := by rw [pw_get ha, trE_arr hs (by decide), adr_lt ha hg.2.2.1]; rfl
    exact va_cald hx hb hK hP a 2 he (ptys_get cA (by decide)) hin hdg (hk _ _ _ _ _ h ad H locs ls hP hD hS hl hg)
  · exact h.elim
theorem snd_baload (hF : Fx p s m args meth c D cA A nL cc own) (hdg : decode cc pc = .ok (.baload, 1)) : Snd (jJ p l e R s m args below meth c Q D cA A nL ad0 n0) pc (oAi 103 (pc + 1)) := by
  intro K lv st nn M hk h ad H locs ls hP hD hS hl hg
  obtain ⟨hx, hb, hml, hown, hts, hK, hA, hlk⟩ := hF
  unfold oAi at h
  split at h
  · next i a r =>
    obtain ⟨hs, ha, hin, h⟩ := h
    have he : (pw cA ad nn.1 M)[a]? = some (adr ad a, .inl (cA 103, (shp a).2, .inl (M.1 a))) := by rw [pw_get ha, trE_arr hs (by decide), adr_lt ha hg.2.2.1]; rfl
    exact va_zald hx hb hK hP a 3 he (ptys_get cA (by decide)) hin hdg (hk _ _ _ _ _ h ad H locs ls hP hD hS hl hg)
  · exact h.elim
theorem snd_faload (hF : Fx p s m args meth c D cA A nL cc own) (hdg : decode cc pc = .ok (.faload, 1)) : Snd (jJ p l e R s m args below meth c Q D cA A nL ad0 n0) pc (oAf (pc + 1)) := by
  intro K lv st nn M hk h ad H locs ls hP hD hS hl hg
  obtain ⟨hx, hb, hml, hown, hts, hK, hA, hlk⟩ := hF
  unfold oAf at h
  split at h
  · next i a r =>
    obtain ⟨hs, ha, hin, h⟩ := h
    have he : (pw cA ad nn.1 M)[a]? = some (adr ad a, .inl (cA 104, (shp a).2, .inr (.inr (.inl (M.2.1 a))))) := by rw [pw_get ha, trE_arr hs (by decide), adr_lt ha hg.2.2.1]; rfl
    exact va_fald hx hb hK hP a 4 he (ptys_get cA (by decide)) hin hdg (hk _ _ _ _ _ h ad H locs ls hP hD hS hl hg)
  · exact h.elim
theorem snd_laload (hF : Fx p s m args meth c D cA A nL cc own) (hdg : decode cc pc = .ok (.laload, 1)) : Snd (jJ p l e R s m args below meth c Q D cA A nL ad0 n0) pc (oAl (pc + 1)) := by
  intro K lv st nn M hk h ad H locs ls hP hD hS hl hg
  obtain ⟨hx, hb, hml, hown, hts, hK, hA, hlk⟩ := hF
  unfold oAl at h
  split at h
  · next i a r =>
    obtain ⟨hs, ha, hin, h⟩ := h
    have he : (pw cA ad nn.1 M)[a]? = some (adr ad a, .inl (cA 101, (shp a).2, .inr (.inl (M.2.2.2.1 a)))) := by rw [pw_get ha, trE_arr hs (by decide), adr_lt ha hg.2.2.1]; rfl
    exact va_lald hx hb hK hP a 1 he (ptys_get cA (by decide)) hin hdg (hk _ _ _ _ _ h ad H locs ls hP hD hS hl hg)
  · exact h.elim
theorem snd_daload (hF : Fx p s m args meth c D cA A nL cc own) (hdg : decode cc pc = .ok (.daload, 1)) : Snd (jJ p l e R s m args below meth c Q D cA A nL ad0 n0) pc (oAd (pc + 1)) := by
  intro K lv st nn M hk h ad H locs ls hP hD hS hl hg
  obtain ⟨hx, hb, hml, hown, hts, hK, hA, hlk⟩ := hF
  unfold oAd at h
  split at h
  · next i a r =>
    obtain ⟨hs, ha, hin, h⟩ := h
    have he : (pw cA ad nn.1 M)[a]? = some (adr ad a, .inl (cA 105, (shp a).2, .inr (.inr (.inr (.inl (M.2.2.2.2 a)))))) := by rw [pw_get ha, trE_arr hs (by decide), adr_lt ha hg.2.2.1]; rfl
    exact va_dald hx hb hK hP a 5 he (ptys_get cA (by decide)) hin hdg (hk _ _ _ _ _ h ad H locs ls hP hD hS hl hg)
  · exact h.elim
theorem snd_aaload106 (hF : Fx p s m args meth c D cA A nL cc own) (hdg : decode cc pc = .ok (.aaload, 1)) : Snd (jJ p l e R s m args below meth c Q D cA A nL ad0 n0) pc (oAr 106 (pc + 1)) := by
  intro K lv st nn M hk h ad H locs ls hP hD hS hl hg
  obtain ⟨hx, hb, hml, hown, hts, hK, hA, hlk⟩ := hF
  unfold oAr at h
  split at h
  · next i a r =>
    obtain ⟨hs, ha, hin, h⟩ := h
    have he : (pw cA ad nn.1 M)[a]? = some (adr ad a, .inl (cA 106, (shp a).2, .inr (.inr (.inr (.inr (fun j => (M.2.2.1 a j).map (adr ad))))))) := by rw [pw_get ha, trE_arr hs (by decide), adr_lt ha hg.2.2.1]; rfl
    have hlt : i.toNatClampNeg < (shp a).2 := Nat.not_le.mp fun q => hin (Or.inr q)
    have h9 := hk _ _ _ _ _ h ad H locs ls hP hD hS hl hg
    simp only [List.map_cons, trV_rf] at h9
    exact W.aald (v := va_rf ((M.2.2.1 a i.toNatClampNeg).map (adr ad))) (ty := aty 106) hx hb (hP a _ he) ((hK.2 6 _ (ptys_get cA (by decide))).1 (shp a).2 (fun j => va_rf ((M.2.2.1 a j).map (adr ad)))) rfl (fun q => by cases q) (by show ¬ (i < 0 ∨ (arrV _ _ _).slots.size ≤ _); rw [arrV_size]; exact hin) (by show (arrV _ _ _).slots[_]? = _; rw [arrV_read _ _ hlt]) rfl rfl hdg h9
  · exact h.elim
theorem snd_aaload107 (hF : Fx p s m args meth c D cA A nL cc own) (hdg : decode cc pc = .ok (.aaload, 1)) : Snd (jJ p l e R s m args below meth c Q D cA A nL ad0 n0) pc (oAr 107 (pc + 1)) := by
  intro K lv st nn M hk h ad H locs ls hP hD hS hl hg
  obtain ⟨hx, hb, hml, hown, hts, hK, hA, hlk⟩ := hF
  unfold oAr at h
  split at h
  · next i a r =>
    obtain ⟨hs, ha, hin, h⟩ := h
    have he : (pw cA ad nn.1 M)[a]? = some (adr ad a, .inl (cA 107, (shp a).2, .inr (.inr (.inr (.inr (fun j => (M.2.2.1 a j).map (adr ad))))))) := by rw [pw_get ha, trE_arr hs (by decide), adr_lt ha hg.2.2.1]; rfl
    have hlt : i.toNatClampNeg < (shp a).2 := Nat.not_le.mp fun q => hin (Or.inr q)
    have h9 := hk _ _ _ _ _ h ad H locs ls hP hD hS hl hg
    simp only [List.map_cons, trV_rf] at h9
    exact W.aald (v := va_rf ((M.2.2.1 a i.toNatClampNeg).map (adr ad))) (ty := aty 107) hx hb (hP a _ he) ((hK.2 7 _ (ptys_get cA (by decide))).1 (shp a).2 (fun j => va_rf ((M.2.2.1 a j).map (adr ad)))) rfl (fun q => by cases q) (by show ¬ (i < 0 ∨ (arrV _ _ _).slots.size ≤ _); rw [arrV_size]; exact hin) (by show (arrV _ _ _).slots[_]? = _; rw [arrV_read _ _ hlt]) rfl rfl hdg h9
  · exact h.elim
theorem snd_aaload108 (hF : Fx p s m args meth c D cA A nL cc own) (hdg : decode cc pc = .ok (.aaload, 1)) : Snd (jJ p l e R s m args below meth c Q D cA A nL ad0 n0) pc (oAr 108 (pc + 1)) := by
  intro K lv st nn M hk h ad H locs ls hP hD hS hl hg
  obtain ⟨hx, hb, hml, hown, hts, hK, hA, hlk⟩ := hF
  unfold oAr at h
  split at h
  · next i a r =>
    obtain ⟨hs, ha, hin, h⟩ := h
    have he : (pw cA ad nn.1 M)[a]? = some (adr ad a, .inl (cA 108, (shp a).2, .inr (.inr (.inr (.inr (fun j => (M.2.2.1 a j).map (adr ad))))))) := by rw [pw_get ha, trE_arr hs (by decide), adr_lt ha hg.2.2.1]; rfl
    have hlt : i.toNatClampNeg < (shp a).2 := Nat.not_le.mp fun q => hin (Or.inr q)
    have h9 := hk _ _ _ _ _ h ad H locs ls hP hD hS hl hg
    simp only [List.map_cons, trV_rf] at h9
    exact W.aald (v := va_rf ((M.2.2.1 a i.toNatClampNeg).map (adr ad))) (ty := aty 108) hx hb (hP a _ he) ((hK.2 8 _ (ptys_get cA (by decide))).1 (shp a).2 (fun j => va_rf ((M.2.2.1 a j).map (adr ad)))) rfl (fun q => by cases q) (by show ¬ (i < 0 ∨ (arrV _ _ _).slots.size ≤ _); rw [arrV_size]; exact hin) (by show (arrV _ _ _).slots[_]? = _; rw [arrV_read _ _ hlt]) rfl rfl hdg h9
  · exact h.elim
theorem snd_iastore (hF : Fx p s m args meth c D cA A nL cc own) (hdg : decode cc pc = .ok (.iastore, 1)) : Snd (jJ p l e R s m args below meth c Q D cA A nL ad0 n0) pc (oSi 100 (fun x => x) (pc + 1)) := by
  intro K lv st nn M hk h ad H locs ls hP hD hS hl hg
  obtain ⟨hx, hb, hml, hown, hts, hK, hA, hlk⟩ := hF
  unfold oSi at h
  split at h
  · next x i a r =>
    obtain ⟨hs, ha, hin, h⟩ := h
    have he : (pw cA ad nn.1 M)[a]? = some (adr ad a, .inl (cA 100, (shp a).2, .inl (M.1 a))) := by rw [pw_get ha, trE_arr hs (by decide), adr_lt ha hg.2.2.1]; rfl
    refine va_iast hx hb hK hP hD hS a 0 he (ptys_get cA (by decide)) hin hdg (fun H1 locs1 hP1 hD1 hS1 => ?_)
    have e9 : (pw cA ad nn.1 M).set a (adr ad a, .inl (cA 100, (shp a).2, .inl (upd (M.1 a) i.toNatClampNeg x))) = pw cA ad nn.1 (u2 M.1 a i.toNatClampNeg x, M.2) := by
      rw [adr_lt ha hg.2.2.1]
      refine pw_set ha ?_ (fun j hj hja => trE_same (u2_ne _ _ _ hja) rfl rfl rfl rfl)
      rw [trE_arr hs (by decide)]
      show _ = _
      congr 3
      simp only [trA]
      simp (config := { decide := true }) only [if_true, if_false, ite_true, ite_false]
      congr 1
      try rw [u2_row]
      try rfl
    rw [e9] at hP1 hD1
    exact hk _ _ _ _ _ h ad H1 locs1 ls hP1 hD1 hS1 hl hg
  · exact h.elim
theorem snd_castore (hF : Fx p s m args meth c D cA A nL cc own) (hdg : decode cc pc = .ok (.castore, 1)) : Snd (jJ p l e R s m args below meth c Q D cA A nL ad0 n0) pc (oSi 102 (fun x => vp_nar .char x) (pc + 1)) := by
  intro K lv st nn M hk h ad H locs ls hP hD hS hl hg
  obtain ⟨hx, hb, hml, hown, hts, hK, hA, hlk⟩ := hF
  unfold oSi at h
  split at h
  · next x i a r =>
    obtain ⟨hs, ha, hin, h⟩ := h
    have he : (pw cA ad nn.1 M)[a]? = some (adr ad a, .inl (cA 102, (shp a).2, .inl (M.1 a))) := by rw [pw_get ha, trE_arr hs (by decide), adr_lt ha hg.2.2.1]; rfl
    refine va_cast hx hb hK hP hD hS a 2 he (ptys_get cA (by decide)) hin hdg (fun H1 locs1 hP1 hD1 hS1 => ?_)
    have e9 : (pw cA ad nn.1 M).set a (adr ad a, .inl (cA 102, (shp a).2, .inl (upd (M.1 a) i.toNatClampNeg (vp_nar .char x)))) = pw cA ad nn.1 (u2 M.1 a i.toNatClampNeg (vp_nar .char x), M.2) := by
      rw [adr_lt ha hg.2.2.1]
      refine pw_set ha ?_ (fun j hj hja => trE_same (u2_ne _ _ _ hja) rfl rfl rfl rfl)
      rw [trE_arr hs (by decide)]
      show _ = _
      congr 3
      simp only [trA]
      simp (config := { decide := true }) only [if_true, if_false, ite_true, ite_false]
      congr 1
      try rw [u2_row]
      try rfl
    rw [e9] at hP1 hD1
    exact hk _ _ _ _ _ h ad H1 locs1 ls hP1 hD1 hS1 hl hg
  · exact h.elim
theorem snd_bastore (hF : Fx p s m args meth c D cA A nL cc own) (hdg : decode cc pc = .ok (.bastore, 1)) : Snd (jJ p l e R s m args below meth c Q D cA A nL ad0 n0) pc (oSi 103 (fun x => vp_nar .boolean x) (pc + 1)) := by
  intro K lv st nn M hk h ad H locs ls hP hD hS hl hg
  obtain ⟨hx, hb, hml, hown, hts, hK, hA, hlk⟩ := hF
  unfold oSi at h
  split at h
  · next x i a r =>
    obtain ⟨hs, ha, hin, h⟩ := h
    have he : (pw cA ad nn.1 M)[a]? = some (adr ad a, .inl (cA 103, (shp a).2, .inl (M.1 a))) := by rw [pw_get ha, trE_arr hs (by decide), adr_lt ha hg.2.2.1]; rfl
    refine va_zast hx hb hK hP hD hS a 3 he (ptys_get cA (by decide)) hin hdg (fun H1 locs1 hP1 hD1 hS1 => ?_)
    have e9 : (pw cA ad nn.1 M).set a (adr ad a, .inl (cA 103, (shp a).2, .inl (upd (M.1 a) i.toNatClampNeg (vp_nar .boolean x)))) = pw cA ad nn.1 (u2 M.1 a i.toNatClampNeg (vp_nar .boolean x), M.2) := by
      rw [adr_lt ha hg.2.2.1]
      refine pw_set ha ?_ (fun j hj hja => trE_same (u2_ne _ _ _ hja) rfl rfl rfl rfl)
      rw [trE_arr hs (by decide)]
      show _ = _
      congr 3
      simp only [trA]
      simp (config := { decide := true }) only [if_true, if_false, ite_true, ite_false]
      congr 1
      try rw [u2_row]
      try rfl
    rw [e9] at hP1 hD1
    exact hk _ _ _ _ _ h ad H1 locs1 ls hP1 hD1 hS1 hl hg
  · exact h.elim
theorem snd_fastore (hF : Fx p s m args meth c D cA A nL cc own) (hdg : decode cc pc = .ok (.fastore, 1)) : Snd (jJ p l e R s m args below meth c Q D cA A nL ad0 n0) pc (oSf (pc + 1)) := by
  intro K lv st nn M hk h ad H locs ls hP hD hS hl hg
  obtain ⟨hx, hb, hml, hown, hts, hK, hA, hlk⟩ := hF
  unfold oSf at h
  split at h
  · next x i a r =>
    obtain ⟨hs, ha, hin, h⟩ := h
    have he : (pw cA ad nn.1 M)[a]? = some (adr ad a, .inl (cA 104, (shp a).2, .inr (.inr (.inl (M.2.1 a))))) := by rw [pw_get ha, trE_arr hs (by decide), adr_lt ha hg.2.2.1]; rfl
    refine va_fast hx hb hK hP hD hS a 4 he (ptys_get cA (by decide)) hin hdg (fun H1 locs1 hP1 hD1 hS1 => ?_)
    have e9 : (pw cA ad nn.1 M).set a (adr ad a, .inl (cA 104, (shp a).2, .inr (.inr (.inl (vf_upd (M.2.1 a) i.toNatClampNeg x))))) = pw cA ad nn.1 (M.1, u2 M.2.1 a i.toNatClampNeg x, M.2.2) := by
      rw [adr_lt ha hg.2.2.1]
      refine pw_set ha ?_ (fun j hj hja => trE_same rfl (u2_ne _ _ _ hja) rfl rfl rfl)
      rw [trE_arr hs (by decide)]
      show _ = _
      congr 3
      simp only [trA]
      simp (config := { decide := true }) only [if_true, if_false, ite_true, ite_false]
      congr 1
      try rw [u2_row]
      try rfl
    rw [e9] at hP1 hD1
    exact hk _ _ _ _ _ h ad H1 locs1 ls hP1 hD1 hS1 hl hg
  · exact h.elim
theorem snd_lastore (hF : Fx p s m args meth c D cA A nL cc own) (hdg : decode cc pc = .ok (.lastore, 1)) : Snd (jJ p l e R s m args below meth c Q D cA A nL ad0 n0) pc (oSl (pc + 1)) := by
  intro K lv st nn M hk h ad H locs ls hP hD hS hl hg
  obtain ⟨hx, hb, hml, hown, hts, hK, hA, hlk⟩ := hF
  unfold oSl at h
  split at h
  · next x i a r =>
    obtain ⟨hs, ha, hin, h⟩ := h
    have he : (pw cA ad nn.1 M)[a]? = some (adr ad a, .inl (cA 101, (shp a).2, .inr (.inl (M.2.2.2.1 a)))) := by rw [pw_get ha, trE_arr hs (by decide), adr_lt ha hg.2.2.1]; rfl
    refine va_last hx hb hK hP hD hS a 1 he (ptys_get cA (by decide)) hin hdg (fun H1 locs1 hP1 hD1 hS1 => ?_)
    have e9 : (pw cA ad nn.1 M).set a (adr ad a, .inl (cA 101, (shp a).2, .inr (.inl (vp_updL (M.2.2.2.1 a) i.toNatClampNeg x)))) = pw cA ad nn.1 (M.1, M.2.1, M.2.2.1, u2 M.2.2.2.1 a i.toNatClampNeg x, M.2.2.2.2) := by
      rw [adr_lt ha hg.2.2.1]
      refine pw_set ha ?_ (fun j hj hja => trE_same rfl rfl rfl (u2_ne _ _ _ hja) rfl)
      rw [trE_arr hs (by decide)]
      show _ = _
      congr 3
      simp only [trA]
      simp (config := { decide := true }) only [if_true, if_false, ite_true, ite_false]
      congr 1
      try rw [u2_row]
      try rfl
    rw [e9] at hP1 hD1
    exact hk _ _ _ _ _ h ad H1 locs1 ls hP1 hD1 hS1 hl hg
  · exact h.elim
theorem snd_dastore (hF : Fx p s m args meth c D cA A nL cc own) (hdg : decode cc pc = .ok (.dastore, 1)) : Snd (jJ p l e R s m args below meth c Q D cA A nL ad0 n0) pc (oSd (pc + 1)) := by
  intro K lv st nn M hk h ad H locs ls hP hD hS hl hg
  obtain ⟨hx, hb, hml, hown, hts, hK, hA, hlk⟩ := hF
  unfold oSd at h
  split at h
  · next x i a r =>
    obtain ⟨hs, ha, hin, h⟩ := h
    have he : (pw cA ad nn.1 M)[a]? = some (adr ad a, .inl (cA 105, (shp a).2, .inr (.inr (.inr (.inl (M.2.2.2.2 a)))))) := by rw [pw_get ha, trE_arr hs (by decide), adr_lt ha hg.2.2.1]; rfl
    refine va_dast hx hb hK hP hD hS a 5 he (ptys_get cA (by decide)) hin hdg (fun H1 locs1 hP1 hD1 hS1 => ?_)
    have e9 : (pw cA ad nn.1 M).set a (adr ad a, .inl (cA 105, (shp a).2, .inr (.inr (.inr (.inl (vf_upd (M.2.2.2.2 a) i.toNatClampNeg x)))))) = pw cA ad nn.1 (M.1, M.2.1, M.2.2.1, M.2.2.2.1, u2 M.2.2.2.2 a i.toNatClampNeg x) := by
      rw [adr_lt ha hg.2.2.1]
      refine pw_set ha ?_ (fun j hj hja => trE_same rfl rfl rfl rfl (u2_ne _ _ _ hja))
      rw [trE_arr hs (by decide)]
      show _ = _
      congr 3
      simp only [trA]
      simp (config := { decide := true }) only [if_true, if_false, ite_true, ite_false]
      congr 1
      try rw [u2_row]
      try rfl
    rw [e9] at hP1 hD1
    exact hk _ _ _ _ _ h ad H1 locs1 ls hP1 hD1 hS1 hl hg
  · exact h.elim
end OPH
