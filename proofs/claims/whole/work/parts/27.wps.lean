theorem wpS {T : List (Nat × OP)} {stops : Nat → Bool} {k : Nat} {K : KT} {pc : Nat} {lv : LV} {st : List Value} {nn : NN} {M : PM} : wpN T stops (k + 1) K pc lv st nn M = if stops pc = true then K pc lv st nn M else lk T pc (wpN T stops k K) lv st nn M := by
  show (bif stops pc then K pc lv st nn M else lk T pc (wpN T stops k K) lv st nn M) = _
  cases stops pc <;> rfl
