/-! ===== grids; constructors; the law's own calls ===== -/
section GRID
variable {p : Program} {l : Launch} {e : Env} {R : Room} {s : State} {m : MethodId} {args : Array Value} {below : List Frame} {meth : Method} {c : Code} {Q : State → Prop} {D : va_G} {cA : Nat → ClassId} {A : Nat → Prop} {nL : Nat} {ad0 : Nat → Nat} {n0 : Nat} {cc : ByteArray} {own : String} {pc : Nat} {mc ms : Nat}
def oNewG (mc ms t u nx : Nat) : OP := fun K lv st nn M => match st with
  | .int k :: .int x :: r => (shp nn.1 = (t, x.toNatClampNeg) ∧ (∀ i, i < x.toNatClampNeg → shp (nn.1 + 1 + i) = (u, k.toNatClampNeg)) ∧ ¬ x < 0 ∧ ¬ k < 0 ∧ x.toNatClampNeg ≤ 10000 ∧ k.toNatClampNeg ≤ 10000 ∧ nn.1 + (1 + x.toNatClampNeg) < 1000000 ∧ nn.2.1 + (1 + x.toNatClampNeg) ≤ mc ∧ nn.2.2 + (x.toNatClampNeg + x.toNatClampNeg * k.toNatClampNeg) ≤ ms ∧ alOK nn lv r M) ∧ K nx lv (.ref nn.1 :: r) (nn.1 + (1 + x.toNatClampNeg), nn.2.1 + 1 + x.toNatClampNeg, nn.2.2 + x.toNatClampNeg + x.toNatClampNeg * k.toNatClampNeg) (zG M nn.1 x.toNatClampNeg)
  | _ => False
theorem snd_newG (hF : Fx p s m args meth c D cA A nL cc own) {t u idx : Nat} {ty : FieldType} (z0 : (Nat → Int32) ⊕ (Nat → Int64) ⊕ (Nat → UInt32) ⊕ (Nat → UInt64) ⊕ (Nat → Option Nat)) (htu : (t = 106 ∧ u = 100) ∨ (t = 107 ∧ u = 104)) (hty : aty t = .array ty ∧ aty u = ty) (hmc : mc ≤ R.cells) (hms : ms ≤ R.slots) (h1 : Cond.classLink own idx ("[" ++ (FieldType.array ty).toString) ∈ PWS) (h2 : Cond.arrayOver (.array ty) ∈ PWS) (h3 : Cond.arrayClass ty ∈ PWS) (hcb : componentBytes ty ≤ 8) (hd1 : fits ty (defaultValue ty) = true) (hd2 : (defaultValue ty).isDefault = true)
    (hz : ∀ (cI : ClassId) (K : Nat), Jvm.Free.Multi.innerC cI K (defaultValue ty) = vp_cell cI (K, z0)) (hz2 : ∀ (ad : Nat → Nat) (M : PM) (n N i : Nat), i < N → trA ad (zG M n N) (n + 1 + i) u = z0) (hra : ∀ (U : State) (x : ClassId), va_RA U x ty → U.vm.findClass (FieldType.array ty).toString = some x) (hra2 : ∀ (U : State) (x : ClassId), va_RA U x (.array ty) → U.vm.findClass ("[" ++ (FieldType.array ty).toString) = some x) (hdg : decode cc pc = .ok (.multianewarray idx 2, 4)) : Snd (jJ p l e R s m args below meth c Q D cA A nL ad0 n0) pc (oNewG mc ms t u (pc + 4)) := by
  intro K lv st nn M hk h ad H locs ls hP hD hS hl hg
  obtain ⟨hx, hb, hml, hown, hts, hK, hA, hlk⟩ := hF
  unfold oNewG at h
  split at h
  · next k x r =>
    obtain ⟨⟨hs, hsi, hx0, hk0, hxs, hks, hn1, g1, g2, hal⟩, h⟩ := h
    have hu9 : 100 ≤ u ∧ u < 109 := by omega
    have ht9 : 100 ≤ t ∧ t < 109 := by omega
    have hcy : s.vm.findClass (FieldType.array ty).toString = some (cA u) := by
      have q2 := (hK.2 (u - 100) _ (ptys_get cA (by omega))).2
      rw [show 100 + (u - 100) = u by omega, hty.2] at q2
      exact hra s _ q2
    generalize hN : x.toNatClampNeg = N at *
    generalize hKK : k.toNatClampNeg = KK at *
    refine va_mna (X := pw cA ad nn.1 M) (L := []) (f := fun _ => .inr (0, [])) (ty := ty) (cy := cA u) (z := (KK, z0)) hx hb hown (hts _ h1) (va_AOA.of (hts _ h2)) (hts _ h3) hcy hK (by show va_P D pcl (_ ++ []) H; rw [List.append_nil]; exact hP) (by show va_D A (_ ++ []); rw [List.append_nil]; exact hD) hS hA hx0 hk0 hN hKK (Nat.le_trans (Nat.mul_le_mul hxs (Nat.le_refl 4)) (Nat.le_of_ble_eq_true rfl)) (Nat.le_trans (Nat.mul_le_mul hks hcb) (Nat.le_of_ble_eq_true rfl)) (Nat.le_trans hks (Nat.le_of_ble_eq_true rfl)) hd1 hd2 (Nat.le_trans g1 hmc) (Nat.le_trans g2 hms) (fun cI => hz cI KK) hdg (fun q rr cI H1 hinj hnot hK1 hP1 hD1 hS1 => ?_)
    have hcI : cI = cA t := by
      have q1 := (hK1.2 (ptys cA).length (cI, .array ty) (by rw [List.getElem?_append_right (Nat.le_refl _), Nat.sub_self]; rfl)).2
      have q2 := (hK.2 (t - 100) _ (ptys_get cA (by omega))).2
      rw [show 100 + (t - 100) = t by omega, hty.1] at q2
      exact Option.some.inj ((hra2 s cI q1).symm.trans (hra2 s (cA t) q2))
    subst hcI
    let ad' : Nat → Nat := fun j => if j = nn.1 then q else if nn.1 < j ∧ j < nn.1 + (1 + N) then rr (j - nn.1 - 1) else ad j
    have hex : exA ad ad' nn.1 := fun j hj => by show (if j = nn.1 then q else if nn.1 < j ∧ j < nn.1 + (1 + N) then rr (j - nn.1 - 1) else ad j) = ad j; rw [if_neg (by omega), if_neg (by omega)]
    have hn : nn.1 < 1000000 := by omega
    have hadn : ad' nn.1 = q := by show (if nn.1 = nn.1 then q else _) = q; rw [if_pos rfl]
    have hadi : ∀ i, i < N → ad' (nn.1 + 1 + i) = rr i := fun i hi => by show (if nn.1 + 1 + i = nn.1 then q else if nn.1 < nn.1 + 1 + i ∧ nn.1 + 1 + i < nn.1 + (1 + N) then rr (nn.1 + 1 + i - nn.1 - 1) else ad (nn.1 + 1 + i)) = rr i; rw [if_neg (by omega), if_pos (by omega), show nn.1 + 1 + i - nn.1 - 1 = i by omega]
    have hpw : pw cA ad' (nn.1 + (1 + N)) (zG M nn.1 N) = (pw cA ad nn.1 M ++ [(q, .inl (cA t, N, .inr (.inr (.inr (.inr (fun i => if i < N then some (rr i) else none))))))]) ++ va_pl ([] ++ (List.range N).map rr) (vr_up (fun _ => .inr (0, [])) ((List.range N).map rr) (.inl (cA u, (KK, z0)))) := by
      rw [pw_add (k := 1 + N) hex hn hal.1 (fun a ha => zI_lt _ _ ha) (fun a ha => zI_lt _ _ ha) (fun a ha => by show r2 _ nn.1 _ a = _; rw [r2_ne _ _ (by omega)]; exact zI_lt _ _ ha) (fun a ha => zI_lt _ _ ha) (fun a ha => zI_lt _ _ ha), List.append_assoc]
      congr 1
      rw [Nat.add_comm 1 N, List.range_succ_eq_map, List.map_cons, List.map_map]
      show (ad' (nn.1 + 0), trE cA ad' (zG M nn.1 N) (nn.1 + 0)) :: _ = (q, _) :: ([] ++ va_pl ((List.range N).map rr) _)
      congr 1
      · rw [Nat.add_zero, hadn, trE_arr (t := t) (by rw [hs]) (by omega), hs]
        congr 3
        unfold trA zG
        rw [if_neg (by omega), if_neg (by omega), if_neg (by omega), if_pos (by omega)]
        congr 5
        funext j
        simp only [r2_row]
        by_cases hj : j < N
        · rw [if_pos hj, if_pos hj]
          show some (adr ad' (nn.1 + 1 + j)) = _
          rw [adr_lt (n := nn.1 + (1 + N)) (by omega) hn1, hadi j hj]
        · rw [if_neg hj, if_neg hj]; rfl
      · rw [List.nil_append]
        unfold va_pl
        rw [List.map_map]
        apply List.map_congr_left
        intro i hi
        have hi := List.mem_range.mp hi
        show (ad' (nn.1 + (i + 1)), trE cA ad' (zG M nn.1 N) (nn.1 + (i + 1))) = (rr i, vr_up _ _ _ (rr i))
        rw [show nn.1 + (i + 1) = nn.1 + 1 + i by omega, hadi i hi, vr_up_in (List.mem_map.mpr ⟨i, List.mem_range.mpr hi, rfl⟩), trE_arr (t := u) (by rw [hsi i hi]) (by omega), hsi i hi, hz2 ad' M nn.1 N i hi]
    have hw := hk _ _ _ _ _ h ad' H1 locs ls (by show va_P D pcl (pw cA ad' (nn.1 + (1 + N)) _) H1; rw [hpw]; exact hP1) (by show va_D A (pw cA ad' (nn.1 + (1 + N)) _); rw [hpw]; exact hD1) hS1 (lvok_ext hex hn hal.2.1 hl) ⟨fun j hj => by have := hg.2.1; exact (hex j (by omega)).trans (hg.1 j hj), Nat.le_trans hg.2.1 (Nat.le_add_right _ _), hn1, fun h9 => by have h8 : nn.1 + (1 + N) = n0 := h9; have := hg.2.1; omega⟩
    rw [List.map_cons, map_ext hex hn hal.2.2] at hw
    have e7 : trV ad' (.ref nn.1) = .ref q := by
      show Value.ref (adr ad' nn.1) = _
      rw [adr_lt (n := nn.1 + 1) (by omega) (by omega), hadn]
    rw [e7] at hw
    exact hw
  · exact h.elim
end GRID
section GCALL
variable {p : Program} {l : Launch} {e : Env} {R : Room} {s : State} {m : MethodId} {args : Array Value} {below : List Frame} {meth : Method} {c : Code} {Q : State → Prop} {D : va_G} {cA : Nat → ClassId} {A : Nat → Prop} {nL : Nat} {ad0 : Nat → Nat} {n0 : Nat} {cc : ByteArray} {own : String} {pc : Nat} {mc ms d : Nat}
def Rk (d mc ms : Nat) (R : Room) : Prop := d + 1 ≤ R.frames ∧ 40 * (d + 1) ≤ R.locals ∧ mc ≤ R.cells ∧ ms ≤ R.slots
theorem call_coreN {K : KT} {lv : LV} {nn : NN} {M : PM} {P' : PO} {ad : Nat → Nat} {H : Heap} {locs : List Loc} {ls : Array Slot} {mc' ms' : Nat} {st0 rest : List Value} {a : Array Value} {nx : Nat} (hnx : nx = pc + 3)
    (hk : ∀ pc lv st nn M, K pc lv st nn M → jJ p l e R s m args below meth c Q D cA A nL ad0 n0 pc lv st nn M)
    (hA : ∀ q, s.heap.size ≤ q → A q) (hD : va_D A (pw cA ad nn.1 M)) (hS : va_S A s.heap H locs) (hl : lvok ad ls nL lv) (hg : adx ad0 ad n0 nn.1) (hlv : ∀ j v, lv j = some v → rokV nn.1 v) (hre : ∀ v ∈ rest, rokV nn.1 v)
    (run : vx_Run p l e R s m args below meth c H locs nn.2.1 nn.2.2 mc' ms' (F0 m pc ls st0) (rest.map (trV ad)) (QR D cA ad nn.1 H.size P' a) (QX D cA ad nn.1 H.size P') (pA ad nn.1 H.size))
    (hr : ∀ v n' M', P' (.inl v) n' M' → K nx lv (v.toList ++ rest) (n', nn.2.1 + mc', nn.2.2 + ms') M')
    (hx : ∀ k n' M', P' (.inr k) n' M' → False) :
    W p l e R s m args below meth c H locs nn.2.1 nn.2.2 Q (F0 m pc ls st0) := by
  have hsub := pA_sub (ad0 := ad) (n0 := 0) hD hS hA
  intro T hT X
  rcases run T hT X with ⟨v, st₀, t, T', L, h0, X', hL, e1, e2, ⟨v9, n', M', ad', hv, hp, hadx, hPw, hDw, hF⟩, go⟩ | ⟨q, st₀, t, T', L, E, ce, h0, X', hL, e1, e2, ⟨k9, n', M', ad', hE, hp, hadx, hPw, hDw, hF⟩, hce, hcv, hcl, go⟩
  · have hv : v = v9.map (trV ad') := by injection hv
    subst hv
    subst hnx
    obtain ⟨k1, k2, k3⟩ := vx_keep h0 e1 hS (fun q _ h => hsub q h) hsub hL hF
    have hK := hr v9 n' M' hp
    have hex : exA ad ad' nn.1 := hadx.1
    have hn : nn.1 < 1000000 := hg.2.2.1
    obtain ⟨t2, a1, b1⟩ := hk _ _ _ _ _ hK ad' T'.heap (locs ++ L) ls (by rw [e1]; exact hPw) (hDw.weaken (fun _ q _ h => hsub q.1 h)) k3 (lvok_ext hex hn hlv hl) ⟨fun j hj => (hadx.1 j (Nat.lt_of_lt_of_le hj hg.2.1)).trans (hg.1 j hj), Nat.le_trans hg.2.1 hadx.2.1, hadx.2.2.1, fun e9 => by have e8 : n' = nn.1 := Nat.le_antisymm (by have e9 : n' = n0 := e9; rw [e9]; exact hg.2.1) hadx.2.1; rw [hadx.2.2.2 e8]; exact hg.2.2.2 (e8.symm.trans e9)⟩ T' rfl X'
    refine ⟨t2, go t2 ?_, b1⟩
    have e9 : (v9.toList ++ rest).map (trV ad') = (v9.map (trV ad')).toList ++ rest.map (trV ad) := by rw [List.map_append, map_ext hex hn hre]; cases v9 <;> simp
    rw [e9] at a1
    exact a1
  · exact (hx k9 n' M' hp).elim
theorem cb_ofR {y : MethodName} {bytes : ByteArray} {maxL n d' mc' ms' idx : Nat} {ret : Option FieldType} (hts : ∀ w ∈ PWS, w.before args s = true) (hC : CalOK y bytes maxL ret n) (hd : d' ≤ d) (hR : Rk d mc ms R) (hl : Cond.methodLink own idx y ∈ PWS) : CallB R s args own idx y bytes maxL ret (Cond.code y bytes maxL ret :: PWS) (rmD d' mc' ms') mc' ms' n :=
  ⟨rfl, rfl, by show d' + 1 ≤ R.frames; have := hR.1; omega, by show 8 + (maxL + 11) + 40 * d' ≤ R.locals; have := hC.2.2.2.2; have := hR.2.1; omega, cb_ws (y := y) hts hC.1, List.mem_cons_self, hts _ hC.1, hts _ hC.2.1, hC.2.2.1, hC.len, hts _ hl⟩
theorem cn_ofR {y : MethodName} {bytes : ByteArray} {maxL n d' mc' ms' idx : Nat} {ret : Option FieldType} {host : String} (hts : ∀ w ∈ PWS, w.before args s = true) (hC : CalOK y bytes maxL ret n) (hd : d' ≤ d) (hR : Rk d mc ms R) (hl : Cond.methodLinkNest own idx y host ∈ PWS) : va_CN R s args own idx y host bytes maxL ret (Cond.code y bytes maxL ret :: PWS) (rmD d' mc' ms') mc' ms' n :=
  ⟨⟨rfl, rfl, by show d' + 1 ≤ R.frames; have := hR.1; omega, by show 8 + (maxL + 11) + 40 * d' ≤ R.locals; have := hC.2.2.2.2; have := hR.2.1; omega, cb_ws (y := y) hts hC.1, List.mem_cons_self⟩, hts _ hC.1, hts _ hC.2.1, hC.2.2.1, hC.len, hts _ hl⟩
def oCallI (d mc ms mc' ms' : Nat) (y : MethodName) (cw : Cond) (tot nx : Nat) : OP := fun K lv st nn M =>
  (tot + 1 ≤ st.length ∧ ((st.drop (tot + 1)).map (fun v => v.category)).sum ≤ 8 ∧ nn.2.1 + mc' ≤ mc ∧ nn.2.2 + ms' ≤ ms ∧ (∀ j v, lv j = some v → rokV nn.1 v) ∧ (∀ v ∈ st.drop (tot + 1), rokV nn.1 v) ∧ ∃ b as, (st.take (tot + 1)).reverse = .ref b :: as) ∧ CallOK d mc' ms' y cw ((st.take (tot + 1)).reverse) nn.1 M (fun o n' M' => match o with
    | .inl v => K nx lv (v.toList ++ st.drop (tot + 1)) (n', nn.2.1 + mc', nn.2.2 + ms') M'
    | .inr _ => False)
theorem snd_callI (hF : Fx p s m args meth c D cA A nL cc own) (hst : l.stackTraces = false) (ham : Amb A s s.heap) (hR : Rk d mc ms R) {y : MethodName} {bytes : ByteArray} {maxL n idx mc' ms' : Nat} (hC : CalOK y bytes maxL none n) (hy1 : y.name = "<init>") (hi9 : Cond.instanceMethod y ∈ PWS) (hl9 : Cond.methodLink own idx y ∈ PWS) (hdg : decode cc pc = .ok (.invokespecial idx, 3)) : Snd (jJ p l e R s m args below meth c Q D cA A nL ad0 n0) pc (oCallI d mc ms mc' ms' y (Cond.code y bytes maxL none) n (pc + 3)) := by
  intro K lv st nn M hk h ad H locs ls hP hD hS hl hg
  obtain ⟨hx, hb, hml, hown, hts, hK, hA, hlk⟩ := hF
  obtain ⟨⟨hlen, hcat, hmc, hms, hlv, hre, b, as0, hsp⟩, hcall⟩ := h
  obtain ⟨d', hd', hMet⟩ := hcall l hst D cA ad H.size
  have hpre := preP_of (av := (st.take (n + 1)).reverse) hK hA ham hP hD hS hg.2.2.1
  rw [hsp] at hMet hpre
  have hlen2 : as0.length = n := by have h9 := congrArg List.length hsp; simp at h9; omega
  have hstk : st.map (trV ad) = (as0.map (trV ad)).reverse ++ Value.ref (adr ad b) :: (st.drop (n + 1)).map (trV ad) := by
    rw [map_split ad st (n + 1), hsp]
    simp [trV]
  have hrun := vx_runI (p := p) (e := e) (R := R) (below := below) (meth := meth) (H := H) (locs := locs) (cells := nn.2.1) (slots := nn.2.2) (g := F0 m pc ls (st.map (trV ad))) (rest := (st.drop (n + 1)).map (trV ad)) (b := adr ad b) (As := as0.map (trV ad)) ⟨hx, hb, hml, hown, hts⟩ hMet ⟨cb_ofR hts hC hd' hR hl9, hy1, hts _ hi9⟩ ⟨preP_blind _ _ _ _ _ _ _, hpre⟩ rfl (by simpa using hlen2) hl.1.1 hstk (by rw [cat_map]; exact lv_room hcat) hdg ⟨Nat.le_trans hmc hR.2.2.1, Nat.le_trans hms hR.2.2.2⟩
  exact call_coreN rfl hk hA hD hS hl hg hlv hre (rest := st.drop (n + 1)) hrun (fun v n' M' h9 => h9) (fun k n' M' h9 => h9)
theorem snd_callIN (hF : Fx p s m args meth c D cA A nL cc own) (hst : l.stackTraces = false) (ham : Amb A s s.heap) (hR : Rk d mc ms R) {y : MethodName} {bytes : ByteArray} {maxL n idx mc' ms' : Nat} {host : String} (hC : CalOK y bytes maxL none n) (hy1 : y.name = "<init>") (hi9 : Cond.instanceMethod y ∈ PWS) (hl9 : Cond.methodLinkNest own idx y host ∈ PWS) (hdg : decode cc pc = .ok (.invokespecial idx, 3)) : Snd (jJ p l e R s m args below meth c Q D cA A nL ad0 n0) pc (oCallI d mc ms mc' ms' y (Cond.code y bytes maxL none) n (pc + 3)) := by
  intro K lv st nn M hk h ad H locs ls hP hD hS hl hg
  obtain ⟨hx, hb, hml, hown, hts, hK, hA, hlk⟩ := hF
  obtain ⟨⟨hlen, hcat, hmc, hms, hlv, hre, b, as0, hsp⟩, hcall⟩ := h
  obtain ⟨d', hd', hMet⟩ := hcall l hst D cA ad H.size
  have hpre := preP_of (av := (st.take (n + 1)).reverse) hK hA ham hP hD hS hg.2.2.1
  rw [hsp] at hMet hpre
  have hlen2 : as0.length = n := by have h9 := congrArg List.length hsp; simp at h9; omega
  have hstk : st.map (trV ad) = (as0.map (trV ad)).reverse ++ Value.ref (adr ad b) :: (st.drop (n + 1)).map (trV ad) := by
    rw [map_split ad st (n + 1), hsp]
    simp [trV]
  have hrun := vx_runIN (p := p) (e := e) (R := R) (below := below) (meth := meth) (H := H) (locs := locs) (cells := nn.2.1) (slots := nn.2.2) (g := F0 m pc ls (st.map (trV ad))) (rest := (st.drop (n + 1)).map (trV ad)) (b := adr ad b) (As := as0.map (trV ad)) ⟨hx, hb, hml, hown, hts⟩ hMet ⟨cn_ofR hts hC hd' hR hl9, hy1, hts _ hi9⟩ ⟨preP_blind _ _ _ _ _ _ _, hpre⟩ rfl (by simpa using hlen2) hl.1.1 hstk (by rw [cat_map]; exact lv_room hcat) hdg ⟨Nat.le_trans hmc hR.2.2.1, Nat.le_trans hms hR.2.2.2⟩
  exact call_coreN rfl hk hA hD hS hl hg hlv hre (rest := st.drop (n + 1)) hrun (fun v n' M' h9 => h9) (fun k n' M' h9 => h9)
def oObj (nx : Nat) : OP := fun K lv st nn M => match st with
  | .ref _ :: r => (r.map (fun v => v.category)).sum ≤ 8 ∧ K nx lv r nn M
  | _ => False
theorem snd_obj (hF : Fx p s m args meth c D cA A nL cc own) (hR : Rk d mc ms R) {idx : Nat} (h1 : Cond.methodLink own idx Lib.objectInit ∈ PWS) (h2 : Cond.instanceMethod Lib.objectInit ∈ PWS) (h3 : Cond.code Lib.objectInit ⟨#[0xb1]⟩ 1 none ∈ PWS) (hdg : decode cc pc = .ok (.invokespecial idx, 3)) : Snd (jJ p l e R s m args below meth c Q D cA A nL ad0 n0) pc (oObj (pc + 3)) := by
  intro K lv st nn M hk h ad H locs ls hP hD hS hl hg
  obtain ⟨hx, hb, hml, hown, hts, hK, hA, hlk⟩ := hF
  unfold oObj at h
  split at h
  · next a r =>
    obtain ⟨hc, h⟩ := h
    have hw := hk _ _ _ _ _ h ad H locs ls hP hD hS hl hg
    exact W.objInit hx hb hown (hts _ h1) (hts _ h2) (hts _ h3) (g := F0 m pc ls (trV ad (.ref a) :: r.map (trV ad))) rfl (by rw [hml]; exact hl.1.1) rfl hdg (by have := hR.1; omega) (by rw [cat_map]; show 2 * 0 + _ + 12 ≤ _; have := hR.2.1; omega) hw
  · exact h.elim
/-! the law's own calls: static helpers with handlers, public methods -/
def oCallG (d mc ms mc' ms' : Nat) (y : MethodName) (cw : Cond) (tot nx : Nat) : OP := fun K lv st nn M =>
  (tot ≤ st.length ∧ ((st.drop tot).map (fun v => v.category)).sum ≤ 8 ∧ nn.2.1 + mc' ≤ mc ∧ nn.2.2 + ms' ≤ ms ∧ (∀ j v, lv j = some v → rokV nn.1 v) ∧ (∀ v ∈ st.drop tot, rokV nn.1 v)) ∧ CallOK d mc' ms' y cw ((st.take tot).reverse) nn.1 M (fun o n' M' => match o with
    | .inl v => K nx lv (v.toList ++ st.drop tot) (n', nn.2.1 + mc', nn.2.2 + ms') M'
    | .inr _ => False)
theorem snd_callSX (hF : Fx p s m args meth c D cA A nL cc own) (hst : l.stackTraces = false) (ham : Amb A s s.heap) (hR : Rk d mc ms R) {y : MethodName} {bytes : ByteArray} {maxL n idx mc' ms' : Nat} {ret : Option FieldType} {hh : List (Nat × Nat × Nat × Nat)} (hC1 : Cond.codeWith y bytes maxL ret hh ∈ PWS) (hC2 : Cond.initialized y.cls ∈ PWS) (hC3 : y.cls ≠ "java/lang/invoke/MethodHandle" ∧ y.cls ≠ "java/lang/invoke/VarHandle") (hC4 : (parseMethodDescriptor y.desc).map (fun d => d.parameters.length) = some n) (hC5 : maxL ≤ 21) (hs9 : Cond.static y ∈ PWS) (hl9 : Cond.methodLink own idx y ∈ PWS) (hdg : decode cc pc = .ok (.invokestatic idx, 3)) : Snd (jJ p l e R s m args below meth c Q D cA A nL ad0 n0) pc (oCallG d mc ms mc' ms' y (Cond.codeWith y bytes maxL ret hh) n (pc + 3)) := by
  intro K lv st nn M hk h ad H locs ls hP hD hS hl hg
  obtain ⟨hx, hb, hml, hown, hts, hK, hA, hlk⟩ := hF
  obtain ⟨⟨hlen, hcat, hmc, hms, hlv, hre⟩, hcall⟩ := h
  obtain ⟨d', hd', hMet⟩ := hcall l hst D cA ad H.size
  have hpre := preP_of (av := (st.take n).reverse) hK hA ham hP hD hS hg.2.2.1
  have hrun := vx_runSX (p := p) (e := e) (R := R) (below := below) (meth := meth) (H := H) (locs := locs) (cells := nn.2.1) (slots := nn.2.2) (g := F0 m pc ls (st.map (trV ad))) (rest := (st.drop n).map (trV ad)) (As := (st.take n).reverse.map (trV ad)) ⟨hx, hb, hml, hown, hts⟩ hMet ⟨⟨rfl, rfl, by show d' + 1 ≤ R.frames; have := hR.1; omega, by show 8 + (maxL + 11) + 40 * d' ≤ R.locals; have := hR.2.1; omega, cb_ws (y := y) hts hC1, List.mem_cons_self⟩, hts _ hC1, hts _ hC2, hC3, (fun sig h9 => by rw [h9] at hC4; exact (Option.some.inj hC4).symm), hts _ hl9, hts _ hs9⟩ ⟨preP_blind _ _ _ _ _ _ _, hpre⟩ rfl (by simp; omega) hl.1.1 (map_split ad st n) (by rw [cat_map]; exact lv_room hcat) hdg ⟨Nat.le_trans hmc hR.2.2.1, Nat.le_trans hms hR.2.2.2⟩
  exact call_coreN rfl hk hA hD hS hl hg hlv hre (rest := st.drop n) hrun (fun v n' M' h9 => h9) (fun k n' M' h9 => h9)
def oCallGV (d mc ms mc' ms' : Nat) (y : MethodName) (cw : Cond) (tot ci nx : Nat) : OP := fun K lv st nn M => recvP ci nn.1 ((st.take (tot + 1)).reverse) ∧ oCallG d mc ms mc' ms' y cw (tot + 1) nx K lv st nn M
theorem snd_callGV (hF : Fx p s m args meth c D cA A nL cc own) (hst : l.stackTraces = false) (ham : Amb A s s.heap) (hR : Rk d mc ms R) {y : MethodName} {bytes : ByteArray} {maxL n idx mc' ms' : Nat} {ret : Option FieldType} {C : String} {T : u_T} {N ci : Nat} {ty0 : Nat → FieldType} (hC : CalOK y bytes maxL ret n) (hCl : ClsOK ci C T N ty0) (hl9 : Cond.methodLink own idx y ∈ PWS) (hi9 : Cond.instanceMethod y ∈ PWS) (hse : Cond.selects C y y ∈ PWS) (hdg : decode cc pc = .ok (.invokevirtual idx, 3)) : Snd (jJ p l e R s m args below meth c Q D cA A nL ad0 n0) pc (oCallGV d mc ms mc' ms' y (Cond.code y bytes maxL ret) n ci (pc + 3)) := by
  intro K lv st nn M hk h ad H locs ls hP hD hS hl hg
  obtain ⟨hx, hb, hml, hown, hts, hK, hA, hlk⟩ := hF
  obtain ⟨hrec, ⟨hlen, hcat, hmc, hms, hlv, hre⟩, hcall⟩ := h
  obtain ⟨d', hd', hMet⟩ := hcall l hst D cA ad H.size
  have hpre := preP_of (av := (st.take (n + 1)).reverse) hK hA ham hP hD hS hg.2.2.1
  cases hsp : (st.take (n + 1)).reverse with
  | nil => rw [hsp] at hrec; exact hrec.elim
  | cons v0 as0 =>
    rw [hsp] at hrec hMet hpre
    cases v0 with
    | ref b =>
      obtain ⟨hsb, hbn⟩ := hrec
      have hlen2 : as0.length = n := by have h9 := congrArg List.length hsp; simp at h9; omega
      have hstk : st.map (trV ad) = (as0.map (trV ad)).reverse ++ Value.ref (adr ad b) :: (st.drop (n + 1)).map (trV ad) := by
        rw [map_split ad st (n + 1), hsp]
        simp [trV]
      have hcell := va_recv hK hP (a := adr ad b) (q0 := b) (ci := ci) hCl.1 (by rw [pw_get hbn, trE_obj hsb hCl.2.2.2.2.2, adr_lt hbn hg.2.2.1])
      have hrun := vx_runV (p := p) (e := e) (R := R) (below := below) (meth := meth) (H := H) (locs := locs) (cells := nn.2.1) (slots := nn.2.2) (g := F0 m pc ls (st.map (trV ad))) (rest := (st.drop (n + 1)).map (trV ad)) (b := adr ad b) (As := as0.map (trV ad)) (C := C) ⟨hx, hb, hml, hown, hts⟩ hMet ⟨cb_ofR hts hC hd' hR hl9, hts _ hi9, hts _ hse⟩ ⟨preP_blind _ _ _ _ _ _ _, hcell, hpre⟩ rfl (by simpa using hlen2) hl.1.1 hstk (by rw [cat_map]; exact lv_room hcat) hdg ⟨Nat.le_trans hmc hR.2.2.1, Nat.le_trans hms hR.2.2.2⟩
      exact call_coreN rfl hk hA hD hS hl hg hlv hre (rest := st.drop (n + 1)) hrun (fun v n' M' h9 => h9) (fun k n' M' h9 => h9)
    | _ => exact hrec.elim
end GCALL
