/-! ===== the class's executions and the reference's ===== -/
theorem fby_z {k : Nat} {x x' y y' : UInt32} (h : ZR x x') (h' : ZR y y') : ZR (fby mmC k x y) (fby pkM k x' y') := by
  unfold fby
  split
  · exact bnd_z (fadd_z h h')
  split
  · exact bnd_z (fmul_z h h')
  split
  · exact mm_z h h'
  split
  · exact mm_z h h'
  exact bnd_z (fsub_z h h')
theorem evF_z {el : Nat → Int32} {e e' : Nat → UInt32} (he : ∀ v, v < 8 → ZR (e v) (e' v)) {A : List Int32} (hA : IsE A) : ZR (evF mmC el e A) (evF pkM el e' A) := by
  refine hA.ind (fun A => ZR (evF mmC el e A) (evF pkM el e' A)) ?_ ?_ ?_
  · intro c hc
    unfold evF
    rw [vl_leaf hc, vl_leaf hc]
    rcases hc with ⟨k, hk, rfl⟩ | ⟨k, hk, rfl⟩ | ⟨k, hk, rfl⟩
    · rw [lf_num hk, lf_num hk]; exact ZR.refl (i2f_fn _)
    · rw [lf_var hk, lf_var hk]; exact he k hk
    · rw [lf_el hk, lf_el hk]; exact ZR.refl (i2f_fn _)
  · intro c A B hc hA hB qA qB
    unfold evF at *
    rw [vl_pair hc hA hB, vl_pair hc hA hB]
    exact fby_z qA qB
  · intro A B C hA hB hC qA qB qC
    rw [evF_ch hA hB hC, evF_ch hA hB hC, qA.cmp (ZR.refl fn_0)]
    split
    · exact qB
    · exact qC
theorem rnF_z {el : Nat → Int32} : ∀ {S : ST}, (∀ q ∈ S, IsE q.2) → ∀ {e e' : Nat → UInt32}, (∀ v, v < 8 → ZR (e v) (e' v)) → ∀ v, v < 8 → ZR (rnF mmC el S e v) (rnF pkM el S e' v)
  | [], _, e, e', h => h
  | q :: S, hS, e, e', h => by
    unfold rnF
    refine rnF_z (fun q hq => hS q (List.mem_cons_of_mem _ hq)) (fun v hv => ?_)
    unfold up1
    split
    · exact evF_z h (hS q List.mem_cons_self)
    · exact h v hv
theorem itr_z {run run' : Nat → (Nat → UInt32) → (Nat → UInt32)} (hr : ∀ i e e', (∀ v, v < 8 → ZR (e v) (e' v)) → ∀ v, v < 8 → ZR (run i e v) (run' i e' v)) : ∀ (A : List Nat) {e e' : Nat → UInt32}, (∀ v, v < 8 → ZR (e v) (e' v)) → ∀ v, v < 8 → ZR (itr run A e v) (itr run' A e' v)
  | [], e, e', h => h
  | i :: A, e, e', h => itr_z hr A (hr i e e' h)
theorem trw_z {op : Nat} {p p' : Nat → UInt32} (h : ∀ j, ZR (p j) (p' j)) (m j : Nat) : ZR (trw (fby mmC op) p m j) (trw (fby pkM op) p' m j) := by
  unfold trw
  split
  · exact fby_z (h _) (h _)
  · exact h _
theorem tre_z {op : Nat} : ∀ (k : Nat) {p p' : Nat → UInt32} {m : Nat}, (∀ j, ZR (p j) (p' j)) → ZR (tre (fby mmC op) k p m) (tre (fby pkM op) k p' m)
  | 0, p, p', m, h => h 0
  | k + 1, p, p', m, h => by
    unfold tre
    split
    · exact h 0
    · exact tre_z k (trw_z h m)
theorem cmF_z {op : Nat} {p p' : Nat → UInt32} (h : ∀ j, ZR (p j) (p' j)) : ∀ (r k : Nat) {a a' : UInt32}, ZR a a' → ZR (cmF (fby mmC op) p k r a) (cmF (fby pkM op) p' k r a')
  | 0, k, a, a', ha => ha
  | r + 1, k, a, a', ha => cmF_z h r (k + 1) (fby_z ha (h k))
theorem exv_z {op o w n : Nat} {p p' : Nat → UInt32} (h : ∀ j, ZR (p j) (p' j)) {a a' : UInt32} (ha : ZR a a') : ZR (exv (fby mmC op) p o w n a) (exv (fby pkM op) p' o w n a') := by
  unfold exv
  split
  · exact fby_z ha (tre_z 5 h)
  · exact cmF_z h w 0 ha
noncomputable def redE (E : EX) (S : ST) (v : Nat) : Bool := decide (knd E S v = 2)
def opE (E : EX) (v : Nat) : Nat := (opr E v).toNatClampNeg
def elN (N : Nat → Int32) (a i : Nat) : Int32 := N (19 + 16 * a + i)
def inN (N : Nat → Int32) (v : Nat) : Int32 := N (67 + v)
theorem opE_nI {E : EX} {S : ST} {v : Nat} (h : knd E S v = 2 ∨ knd E S v = 3) : opr E v = nI (opE E v) ∧ opE E v < 7 ∧ 0 ≤ chV v (opE E v) (E v) := by
  rcases opr_cases E v with e | ⟨j, hj, e, h0⟩
  · exact absurd e (knd_op h)
  · have e9 : opE E v = j := by unfold opE; rw [e, nI_clamp (by omega)]
    rw [e9]
    exact ⟨e, hj, h0⟩
theorem nug_I {E : EX} {S : ST} {N : Nat → Int32} : nugI (inN N) (redE E S) (opE E) = nuI E S N := by
  funext u
  unfold nugI nuI redE inN
  by_cases h : knd E S u = 2
  · rw [if_pos (decide_eq_true h), if_pos h, (opE_nI (Or.inl h)).1]
  · rw [if_neg (fun q => h (of_decide_eq_true q)), if_neg h]
theorem nug_F {E : EX} {S : ST} {N : Nat → Int32} : nugF (inN N) (redE E S) (opE E) = nuF E S N := by
  funext u
  unfold nugF nuF redE inN
  by_cases h : knd E S u = 2
  · rw [if_pos (decide_eq_true h), if_pos h, (opE_nI (Or.inl h)).1]
  · rw [if_neg (fun q => h (of_decide_eq_true q)), if_neg h]
theorem exg_I {E : EX} {S : ST} {N : Nat → Int32} (h0 : N 1 = 0) {o w n v : Nat} : exgI (elN N) S (inN N) (redE E S) (opE E) o w n v = exI E S N o w n v := by
  have er : rgI (elN N) S = rI N S := by
    funext i e
    unfold rgI rI elN
    rw [if_pos h0]
  unfold exgI exI
  rw [er, nug_I]
  split
  · rfl
  · by_cases h : knd E S v = 2
    · rw [if_pos (show redE E S v = true from decide_eq_true h), if_pos h]; rfl
    · rw [if_neg (show ¬ redE E S v = true from fun q => h (of_decide_eq_true q)), if_neg h]; rfl
theorem exg_F {E : EX} {S : ST} {N : Nat → Int32} (hq : SQ S) (h0 : ¬ N 1 = 0) {o w n v : Nat} (hv : v < 8) : ZR (exgF (elN N) S (inN N) (redE E S) (opE E) o w n v) (exF E S N o w n v) := by
  have hr : ∀ i e e', (∀ v, v < 8 → ZR (e v) (e' v)) → ∀ v, v < 8 → ZR (rgF (elN N) S i e v) (rF N S i e' v) := by
    intro i e e' h v hv
    unfold rgF rF
    rw [if_neg h0]
    exact rnF_z (fun q h => (hq.2 q h).2.1) h v hv
  have hi : ∀ v, v < 8 → ZR (FP.i2f (inN N v)) (FP.i2f (N (67 + v))) := fun v _ => ZR.refl (i2f_fn _)
  have hnu : ∀ v, v < 8 → ZR (nugF (inN N) (redE E S) (opE E) v) (nuF E S N v) := fun v _ => by rw [nug_F]; exact ZR.refl (nuF_fn E S N v)
  unfold exgF exF
  split
  · exact itr_z hr _ hi v hv
  · by_cases h : knd E S v = 2
    · rw [if_pos (show redE E S v = true from decide_eq_true h), if_pos h]
      exact exv_z (fun k => itr_z hr _ hnu v hv) (hi v hv)
    · rw [if_neg (show ¬ redE E S v = true from fun q => h (of_decide_eq_true q)), if_neg h]
      exact hr _ _ _ hi v hv
/-! no bit operator in the statements: none is a chain's -/
theorem ch_noop {v o : Nat} (hv : v < 8) (ho : o ≠ 0) {A : List Int32} (hA : IsE A) : A.length < 2 ^ 30 → nI (300 + o) ∉ A → 0 ≤ chV v o A → chV v 0 A = chV v o A := by
  refine hA.ind (fun A => A.length < 2 ^ 30 → nI (300 + o) ∉ A → 0 ≤ chV v o A → chV v 0 A = chV v o A) ?_ ?_ ?_
  · intro c hc _ _ _
    unfold chV
    rw [vl_leaf hc, vl_leaf hc]
  · intro c A B hc hA hB _ _ _ hn h
    exfalso
    have e : chV v o (c :: (A ++ B)) = chP o c (chV v o A) (chV v o B) := vl_pair hc hA hB
    rw [e] at h
    generalize chV v o A = x at h
    generalize chV v o B = y at h
    unfold chP at h
    have nc : ¬ c = nI (300 + o) := fun e => hn (by rw [e]; exact List.mem_cons_self)
    by_cases e1 : x = -2 ∧ y = -2
    · rw [if_pos e1] at h; exact absurd h (by decide)
    · rw [if_neg e1, if_neg (fun q => q.2.2.elim nc (fun z => ho z.2)), if_neg (fun q => nc q.2.2)] at h
      exact absurd h (by decide)
  · intro A B C hA hB hC qA qB qC hl hn h
    have hl2 : (308 :: (A ++ (B ++ C))).length = A.length + (B.length + C.length) + 1 := by rw [List.length_cons, List.length_append, List.length_append]
    have nA : nI (300 + o) ∉ A := fun q => hn (List.mem_cons_of_mem _ (List.mem_append_left _ q))
    have nB : nI (300 + o) ∉ B := fun q => hn (List.mem_cons_of_mem _ (List.mem_append_right _ (List.mem_append_left _ q)))
    have nC : nI (300 + o) ∉ C := fun q => hn (List.mem_cons_of_mem _ (List.mem_append_right _ (List.mem_append_right _ q)))
    have e : ∀ o, chV v o (308 :: (A ++ (B ++ C))) = chC (chV v o A) (chV v o B) (chV v o C) := fun o => vl_ch hA hB hC
    rw [e] at h
    have h' := h
    unfold chC at h
    by_cases e1 : chV v o A = -2 ∧ chV v o B = -2 ∧ chV v o C = -2
    · rw [if_pos e1] at h; exact absurd h (by decide)
    · rw [if_neg e1] at h
      by_cases e2 : chV v o A = -2 ∧ 0 ≤ chV v o B ∧ 0 ≤ chV v o C
      · have a0 : chV v 0 A = -2 := by
          rcases ch_cases (o := o) hv hA (by omega) with ⟨m1, _⟩ | ⟨m1, m2⟩
          · rcases ch_cases (o := 0) hv hA (by omega) with ⟨_, m4⟩ | ⟨m3, _⟩
            · exact m4
            · exact absurd m3 m1
          · exact absurd e2.1 (chN_m2 m2 (by omega))
        rw [e, e, a0, qB (by omega) nB e2.2.1, qC (by omega) nC e2.2.2, e2.1]
      · rw [if_neg e2] at h; exact absurd h (by decide)
theorem enS_nb : ∀ {S : ST} {E E' : EX}, (∀ q ∈ S, q.1 < 8 ∧ ∀ c ∈ q.2, nbc c) → (∀ v, v < 8 → ∀ c ∈ E v, nbc c) → enS S E = some E' → ∀ v, v < 8 → ∀ c ∈ E' v, nbc c
  | [], E, E', _, hE, h => by
    unfold enS at h
    cases h
    exact hE
  | q :: S, E, E', hS, hE, h => by
    unfold enS at h
    by_cases hl : (sb E q.2).length ≤ 200
    · rw [if_pos hl] at h
      refine enS_nb (fun q h => hS q (List.mem_cons_of_mem _ h)) (fun v hv c hc => ?_) h
      unfold eup at hc
      by_cases e : v = q.1
      · rw [if_pos e] at hc
        unfold sb at hc
        obtain ⟨x, hx, hcx⟩ := List.mem_flatMap.mp hc
        by_cases hst : isst x
        · obtain ⟨k, hk, rfl⟩ := isst_iff.mp hst
          rw [sb1_v E hk] at hcx
          exact hE k hk c hcx
        · rw [sb1_n E hst, List.mem_singleton] at hcx
          rw [hcx]
          exact (hS q List.mem_cons_self).2 x hx
      · rw [if_neg e] at hc; exact hE v hv c hc
    · rw [if_neg hl] at h
      cases h
theorem opk_of {E : EX} {S : ST} (hS : ∀ q ∈ S, q.1 < 8 ∧ IsE q.2) (hE : enS S E0 = some E) (hb : ¬ bts S) {v : Nat} (hv : v < 8) (h : redE E S v = true) : opkF (opE E v) := by
  have hk : knd E S v = 2 := of_decide_eq_true h
  obtain ⟨e1, e2, e3⟩ := opE_nI (Or.inl hk)
  have hok := enS_ok hS E0_ok hE
  have hnb := enS_nb (fun q hq => ⟨(hS q hq).1, nbF_c hb hq⟩) (fun v hv c hc => by
    unfold E0 at hc
    rw [List.mem_singleton] at hc
    rw [hc]
    intro q
    exact absurd (Int32.le_trans q.1 (nI_le (a := 100 + v) (b := 107) (by omega) (by omega))) (by decide)) hE v hv
  have key : ∀ o, o ≠ 0 → ¬ nbc (nI (300 + o)) → opE E v = o → False := by
    intro o ho hno e
    rw [e] at e1 e3
    have h0 := ch_noop hv ho (hok v hv).1 (by have := (hok v hv).2; omega) (fun q => hno (hnb _ q)) e3
    have h0' : 0 ≤ chV v 0 (E v) := by rw [h0]; exact e3
    have : opr E v = nI 0 := by
      unfold opr opf
      rw [if_pos h0']
    have := nI_inj (by omega) (by omega) (this.symm.trans e1)
    omega
  exact ⟨fun e => key 2 (by omega) (by unfold nbc; decide) e, fun e => key 3 (by omega) (by unfold nbc; decide) e, fun e => key 4 (by omega) (by unfold nbc; decide) e⟩
