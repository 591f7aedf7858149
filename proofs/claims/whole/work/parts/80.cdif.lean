/-! ===== differences ===== -/
theorem dc0 : FP.dconst0 = 0 := by decide +kernel
theorem abs_if {a : UInt64} (h : FP.Core.val64 a ≠ .nan) : (if FP.dcmp a FP.dconst0 = some .gt then a else FP.dsub FP.dconst0 a) = a &&& 0x7fffffffffffffff := by
  have key : ∀ o, FP.Core.dcmp a 0 = o → (if FP.dcmp a FP.dconst0 = some .gt then a else FP.dsub FP.dconst0 a) = a &&& 0x7fffffffffffffff := by
    intro o e
    have e' : FP.dcmp a FP.dconst0 = o := by rw [dc0]; exact e
    rcases o with _ | (_ | _ | _)
    · rcases (FP.Core.dcmp_none a 0).mp e with q | q
      · exact absurd q h
      · rw [FP.Core.val64_zero] at q; cases q
    · rw [if_neg (by rw [e']; decide), FP.Core.abs_neg e]
      show FP.Core.dsub FP.Core.dconst0 a = FP.Core.dneg a
      rw [FP.Core.dsub_eq, FP.Core.dadd_comm]
      refine FP.Core.dadd_zero (by rw [FP.Core.val64_dneg]; exact FP.Core.negate_ne_nan h) (fun q => ?_)
      have := FP.Core.dneg_dneg h
      rw [q] at this
      have e0 : a = 0 := this.symm.trans (by decide +kernel)
      subst e0
      exact absurd e (by decide +kernel)
    · rw [if_neg (by rw [e']; decide)]
      rcases FP.Core.zero_bits e with rfl | rfl <;> decide +kernel
    · rw [if_pos e', FP.Core.abs_pos e]
  exact key _ rfl
