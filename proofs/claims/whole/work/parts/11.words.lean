theorem qw0 : (Jvm.Cond.selects "ReductionFinder" ({ cls := "ReductionFinder", name := "unitsOf", desc := "(II)I" } : Jvm.MethodName) ({ cls := "ReductionFinder", name := "unitsOf", desc := "(II)I" } : Jvm.MethodName)) ∈ PWS := pws_mem 0 (by decide +kernel) rfl
theorem qw1 : (Jvm.Cond.selects "ReductionFinder$Data" ({ cls := "ReductionFinder$Data", name := "copyFrom", desc := "(LReductionFinder$Data;)V" } : Jvm.MethodName) ({ cls := "ReductionFinder$Data", name := "copyFrom", desc := "(LReductionFinder$Data;)V" } : Jvm.MethodName)) ∈ PWS := pws_mem 1 (by decide +kernel) rfl
theorem qw3 : (Jvm.Cond.selects "ReductionFinder$Reader" ({ cls := "ReductionFinder$Reader", name := "addSign", desc := "(C)V" } : Jvm.MethodName) ({ cls := "ReductionFinder$Reader", name := "addSign", desc := "(C)V" } : Jvm.MethodName)) ∈ PWS := pws_mem 3 (by decide +kernel) rfl
theorem qw4 : (Jvm.Cond.selects "ReductionFinder$Reader" ({ cls := "ReductionFinder$Reader", name := "readText", desc := "()Z" } : Jvm.MethodName) ({ cls := "ReductionFinder$Reader", name := "readText", desc := "()Z" } : Jvm.MethodName)) ∈ PWS := pws_mem 4 (by decide +kernel) rfl
theorem qw5 : (Jvm.Cond.selects "ReductionFinder$Reader" ({ cls := "ReductionFinder$Reader", name := "readStatement", desc := "()Z" } : Jvm.MethodName) ({ cls := "ReductionFinder$Reader", name := "readStatement", desc := "()Z" } : Jvm.MethodName)) ∈ PWS := pws_mem 5 (by decide +kernel) rfl
theorem qw6 : (Jvm.Cond.selects "ReductionFinder$Reader" ({ cls := "ReductionFinder$Reader", name := "peek", desc := "()C" } : Jvm.MethodName) ({ cls := "ReductionFinder$Reader", name := "peek", desc := "()C" } : Jvm.MethodName)) ∈ PWS := pws_mem 6 (by decide +kernel) rfl
theorem qw7 : (Jvm.Cond.selects "ReductionFinder$Reader" ({ cls := "ReductionFinder$Reader", name := "take", desc := "(C)Z" } : Jvm.MethodName) ({ cls := "ReductionFinder$Reader", name := "take", desc := "(C)Z" } : Jvm.MethodName)) ∈ PWS := pws_mem 7 (by decide +kernel) rfl
theorem qw8 : (Jvm.Cond.selects "ReductionFinder$Reader" ({ cls := "ReductionFinder$Reader", name := "readLevel", desc := "(II)Z" } : Jvm.MethodName) ({ cls := "ReductionFinder$Reader", name := "readLevel", desc := "(II)Z" } : Jvm.MethodName)) ∈ PWS := pws_mem 8 (by decide +kernel) rfl
theorem qw9 : (Jvm.Cond.selects "ReductionFinder$Reader" ({ cls := "ReductionFinder$Reader", name := "readFactor", desc := "(I)Z" } : Jvm.MethodName) ({ cls := "ReductionFinder$Reader", name := "readFactor", desc := "(I)Z" } : Jvm.MethodName)) ∈ PWS := pws_mem 9 (by decide +kernel) rfl
theorem qw10 : (Jvm.Cond.selects "ReductionFinder$Reader" ({ cls := "ReductionFinder$Reader", name := "readNumber", desc := "()Z" } : Jvm.MethodName) ({ cls := "ReductionFinder$Reader", name := "readNumber", desc := "()Z" } : Jvm.MethodName)) ∈ PWS := pws_mem 10 (by decide +kernel) rfl
theorem qw11 : (Jvm.Cond.selects "ReductionFinder$Reader" ({ cls := "ReductionFinder$Reader", name := "addCode", desc := "(I)V" } : Jvm.MethodName) ({ cls := "ReductionFinder$Reader", name := "addCode", desc := "(I)V" } : Jvm.MethodName)) ∈ PWS := pws_mem 11 (by decide +kernel) rfl
theorem qw12 : (Jvm.Cond.selects "ReductionFinder$Reader" ({ cls := "ReductionFinder$Reader", name := "readName", desc := "()I" } : Jvm.MethodName) ({ cls := "ReductionFinder$Reader", name := "readName", desc := "()I" } : Jvm.MethodName)) ∈ PWS := pws_mem 12 (by decide +kernel) rfl
theorem qw13 : (Jvm.Cond.selects "ReductionFinder$Reader" ({ cls := "ReductionFinder$Reader", name := "readFunction", desc := "(II)Z" } : Jvm.MethodName) ({ cls := "ReductionFinder$Reader", name := "readFunction", desc := "(II)Z" } : Jvm.MethodName)) ∈ PWS := pws_mem 13 (by decide +kernel) rfl
theorem qw14 : (Jvm.Cond.selects "ReductionFinder$Reader" ({ cls := "ReductionFinder$Reader", name := "insertCode", desc := "(II)V" } : Jvm.MethodName) ({ cls := "ReductionFinder$Reader", name := "insertCode", desc := "(II)V" } : Jvm.MethodName)) ∈ PWS := pws_mem 14 (by decide +kernel) rfl
theorem qw15 : (Jvm.Cond.selects "ReductionFinder" ({ cls := "ReductionFinder", name := "spareProgram", desc := "()LReductionFinder$Program;" } : Jvm.MethodName) ({ cls := "ReductionFinder", name := "spareProgram", desc := "()LReductionFinder$Program;" } : Jvm.MethodName)) ∈ PWS := pws_mem 15 (by decide +kernel) rfl
theorem qw16 : (Jvm.Cond.selects "ReductionFinder$Program" ({ cls := "ReductionFinder$Program", name := "build", desc := "(LReductionFinder$Reader;)Z" } : Jvm.MethodName) ({ cls := "ReductionFinder$Program", name := "build", desc := "(LReductionFinder$Reader;)Z" } : Jvm.MethodName)) ∈ PWS := pws_mem 16 (by decide +kernel) rfl
theorem qw17 : (Jvm.Cond.selects "ReductionFinder$Program" ({ cls := "ReductionFinder$Program", name := "copyStatements", desc := "(LReductionFinder$Reader;)V" } : Jvm.MethodName) ({ cls := "ReductionFinder$Program", name := "copyStatements", desc := "(LReductionFinder$Reader;)V" } : Jvm.MethodName)) ∈ PWS := pws_mem 17 (by decide +kernel) rfl
theorem qw18 : (Jvm.Cond.selects "ReductionFinder$Program" ({ cls := "ReductionFinder$Program", name := "countOperations", desc := "(I)V" } : Jvm.MethodName) ({ cls := "ReductionFinder$Program", name := "countOperations", desc := "(I)V" } : Jvm.MethodName)) ∈ PWS := pws_mem 18 (by decide +kernel) rfl
theorem qw19 : (Jvm.Cond.selects "ReductionFinder$Program" ({ cls := "ReductionFinder$Program", name := "assign", desc := "(I)Z" } : Jvm.MethodName) ({ cls := "ReductionFinder$Program", name := "assign", desc := "(I)Z" } : Jvm.MethodName)) ∈ PWS := pws_mem 19 (by decide +kernel) rfl
theorem qw20 : (Jvm.Cond.selects "ReductionFinder$Program" ({ cls := "ReductionFinder$Program", name := "firstCodeOf", desc := "(I)I" } : Jvm.MethodName) ({ cls := "ReductionFinder$Program", name := "firstCodeOf", desc := "(I)I" } : Jvm.MethodName)) ∈ PWS := pws_mem 20 (by decide +kernel) rfl
theorem qw21 : (Jvm.Cond.selects "ReductionFinder$Program" ({ cls := "ReductionFinder$Program", name := "classify", desc := "(LReductionFinder$ChainWalk;)V" } : Jvm.MethodName) ({ cls := "ReductionFinder$Program", name := "classify", desc := "(LReductionFinder$ChainWalk;)V" } : Jvm.MethodName)) ∈ PWS := pws_mem 21 (by decide +kernel) rfl
theorem qw22 : (Jvm.Cond.selects "ReductionFinder$Program" ({ cls := "ReductionFinder$Program", name := "maskOf", desc := "(I)I" } : Jvm.MethodName) ({ cls := "ReductionFinder$Program", name := "maskOf", desc := "(I)I" } : Jvm.MethodName)) ∈ PWS := pws_mem 22 (by decide +kernel) rfl
theorem qw23 : (Jvm.Cond.selects "ReductionFinder$Program" ({ cls := "ReductionFinder$Program", name := "kindOf", desc := "(ILReductionFinder$ChainWalk;)I" } : Jvm.MethodName) ({ cls := "ReductionFinder$Program", name := "kindOf", desc := "(ILReductionFinder$ChainWalk;)I" } : Jvm.MethodName)) ∈ PWS := pws_mem 23 (by decide +kernel) rfl
theorem qw24 : (Jvm.Cond.selects "ReductionFinder$Program" ({ cls := "ReductionFinder$Program", name := "occursInOthers", desc := "(I)Z" } : Jvm.MethodName) ({ cls := "ReductionFinder$Program", name := "occursInOthers", desc := "(I)Z" } : Jvm.MethodName)) ∈ PWS := pws_mem 24 (by decide +kernel) rfl
theorem qw25 : (Jvm.Cond.selects "ReductionFinder$Program" ({ cls := "ReductionFinder$Program", name := "findChain", desc := "(ILReductionFinder$ChainWalk;)Z" } : Jvm.MethodName) ({ cls := "ReductionFinder$Program", name := "findChain", desc := "(ILReductionFinder$ChainWalk;)Z" } : Jvm.MethodName)) ∈ PWS := pws_mem 25 (by decide +kernel) rfl
theorem qw26 : (Jvm.Cond.selects "ReductionFinder$ChainWalk" ({ cls := "ReductionFinder$ChainWalk", name := "countTerms", desc := "([IIII)I" } : Jvm.MethodName) ({ cls := "ReductionFinder$ChainWalk", name := "countTerms", desc := "([IIII)I" } : Jvm.MethodName)) ∈ PWS := pws_mem 26 (by decide +kernel) rfl
theorem qw27 : (Jvm.Cond.selects "ReductionFinder" ({ cls := "ReductionFinder", name := "switchTo", desc := "(LReductionFinder$Program;)V" } : Jvm.MethodName) ({ cls := "ReductionFinder", name := "switchTo", desc := "(LReductionFinder$Program;)V" } : Jvm.MethodName)) ∈ PWS := pws_mem 27 (by decide +kernel) rfl
theorem qw28 : (Jvm.Cond.selects "ReductionFinder" ({ cls := "ReductionFinder", name := "checkChain", desc := "(I)V" } : Jvm.MethodName) ({ cls := "ReductionFinder", name := "checkChain", desc := "(I)V" } : Jvm.MethodName)) ∈ PWS := pws_mem 28 (by decide +kernel) rfl
theorem qw29 : (Jvm.Cond.selects "ReductionFinder$HeightWalk" ({ cls := "ReductionFinder$HeightWalk", name := "heightOf", desc := "([II)I" } : Jvm.MethodName) ({ cls := "ReductionFinder$HeightWalk", name := "heightOf", desc := "([II)I" } : Jvm.MethodName)) ∈ PWS := pws_mem 29 (by decide +kernel) rfl
theorem qw30 : (Jvm.Cond.selects "ReductionFinder" ({ cls := "ReductionFinder", name := "checkCursor", desc := "()V" } : Jvm.MethodName) ({ cls := "ReductionFinder", name := "checkCursor", desc := "()V" } : Jvm.MethodName)) ∈ PWS := pws_mem 30 (by decide +kernel) rfl
theorem qw31 : (Jvm.Cond.selects "ReductionFinder" ({ cls := "ReductionFinder", name := "checkOperators", desc := "()V" } : Jvm.MethodName) ({ cls := "ReductionFinder", name := "checkOperators", desc := "()V" } : Jvm.MethodName)) ∈ PWS := pws_mem 31 (by decide +kernel) rfl
theorem qw32 : (Jvm.Cond.selects "ReductionFinder" ({ cls := "ReductionFinder", name := "checkParallel", desc := "(I)V" } : Jvm.MethodName) ({ cls := "ReductionFinder", name := "checkParallel", desc := "(I)V" } : Jvm.MethodName)) ∈ PWS := pws_mem 32 (by decide +kernel) rfl
theorem qw33 : (Jvm.Cond.selects "ReductionFinder" ({ cls := "ReductionFinder", name := "machineOfMode", desc := "()LReductionFinder$Machine;" } : Jvm.MethodName) ({ cls := "ReductionFinder", name := "machineOfMode", desc := "()LReductionFinder$Machine;" } : Jvm.MethodName)) ∈ PWS := pws_mem 33 (by decide +kernel) rfl
theorem qw34 : (Jvm.Cond.selects "ReductionFinderModel" ({ cls := "ReductionFinderModel", name := "ends", desc := "()Z" } : Jvm.MethodName) ({ cls := "ReductionFinderModel", name := "ends", desc := "()Z" } : Jvm.MethodName)) ∈ PWS := pws_mem 34 (by decide +kernel) rfl
theorem qw35 : (Jvm.Cond.selects "ReductionFinderModel" ({ cls := "ReductionFinderModel", name := "raises", desc := "(I)I" } : Jvm.MethodName) ({ cls := "ReductionFinderModel", name := "raises", desc := "(I)I" } : Jvm.MethodName)) ∈ PWS := pws_mem 35 (by decide +kernel) rfl
theorem qw36 : (Jvm.Cond.selects "ReductionFinderModel" ({ cls := "ReductionFinderModel", name := "reads", desc := "()I" } : Jvm.MethodName) ({ cls := "ReductionFinderModel", name := "reads", desc := "()I" } : Jvm.MethodName)) ∈ PWS := pws_mem 36 (by decide +kernel) rfl
theorem qw37 : (Jvm.Cond.selects "ReductionFinderModel" ({ cls := "ReductionFinderModel", name := "here", desc := "()I" } : Jvm.MethodName) ({ cls := "ReductionFinderModel", name := "here", desc := "()I" } : Jvm.MethodName)) ∈ PWS := pws_mem 37 (by decide +kernel) rfl
theorem qw38 : (Jvm.Cond.selects "ReductionFinderModel" ({ cls := "ReductionFinderModel", name := "expects", desc := "(C)V" } : Jvm.MethodName) ({ cls := "ReductionFinderModel", name := "expects", desc := "(C)V" } : Jvm.MethodName)) ∈ PWS := pws_mem 38 (by decide +kernel) rfl
theorem qw39 : (Jvm.Cond.selects "ReductionFinderModel" ({ cls := "ReductionFinderModel", name := "takes", desc := "(C)Z" } : Jvm.MethodName) ({ cls := "ReductionFinderModel", name := "takes", desc := "(C)Z" } : Jvm.MethodName)) ∈ PWS := pws_mem 39 (by decide +kernel) rfl
theorem qw40 : (Jvm.Cond.selects "ReductionFinderModel" ({ cls := "ReductionFinderModel", name := "expression", desc := "()I" } : Jvm.MethodName) ({ cls := "ReductionFinderModel", name := "expression", desc := "()I" } : Jvm.MethodName)) ∈ PWS := pws_mem 40 (by decide +kernel) rfl
theorem qw41 : (Jvm.Cond.selects "ReductionFinderModel" ({ cls := "ReductionFinderModel", name := "sum", desc := "()I" } : Jvm.MethodName) ({ cls := "ReductionFinderModel", name := "sum", desc := "()I" } : Jvm.MethodName)) ∈ PWS := pws_mem 41 (by decide +kernel) rfl
theorem qw42 : (Jvm.Cond.selects "ReductionFinderModel" ({ cls := "ReductionFinderModel", name := "product", desc := "()I" } : Jvm.MethodName) ({ cls := "ReductionFinderModel", name := "product", desc := "()I" } : Jvm.MethodName)) ∈ PWS := pws_mem 42 (by decide +kernel) rfl
theorem qw43 : (Jvm.Cond.selects "ReductionFinderModel" ({ cls := "ReductionFinderModel", name := "factor", desc := "()I" } : Jvm.MethodName) ({ cls := "ReductionFinderModel", name := "factor", desc := "()I" } : Jvm.MethodName)) ∈ PWS := pws_mem 43 (by decide +kernel) rfl
theorem qw44 : (Jvm.Cond.selects "ReductionFinderModel" ({ cls := "ReductionFinderModel", name := "node", desc := "(IIII)I" } : Jvm.MethodName) ({ cls := "ReductionFinderModel", name := "node", desc := "(IIII)I" } : Jvm.MethodName)) ∈ PWS := pws_mem 44 (by decide +kernel) rfl
theorem qw45 : (Jvm.Cond.selects "ReductionFinderModel" ({ cls := "ReductionFinderModel", name := "function", desc := "(I)I" } : Jvm.MethodName) ({ cls := "ReductionFinderModel", name := "function", desc := "(I)I" } : Jvm.MethodName)) ∈ PWS := pws_mem 45 (by decide +kernel) rfl
theorem qw46 : (Jvm.Cond.selects "ReductionFinderModel" ({ cls := "ReductionFinderModel", name := "opens", desc := "()V" } : Jvm.MethodName) ({ cls := "ReductionFinderModel", name := "opens", desc := "()V" } : Jvm.MethodName)) ∈ PWS := pws_mem 46 (by decide +kernel) rfl
theorem qw47 : (Jvm.Cond.selects "ReductionFinderModel" ({ cls := "ReductionFinderModel", name := "closes", desc := "()V" } : Jvm.MethodName) ({ cls := "ReductionFinderModel", name := "closes", desc := "()V" } : Jvm.MethodName)) ∈ PWS := pws_mem 47 (by decide +kernel) rfl
theorem qw48 : (Jvm.Cond.selects "ReductionFinderModel" ({ cls := "ReductionFinderModel", name := "writes", desc := "(I)V" } : Jvm.MethodName) ({ cls := "ReductionFinderModel", name := "writes", desc := "(I)V" } : Jvm.MethodName)) ∈ PWS := pws_mem 48 (by decide +kernel) rfl
theorem qw49 : (Jvm.Cond.selects "ReductionFinderModel" ({ cls := "ReductionFinderModel", name := "keeps", desc := "([I[I)V" } : Jvm.MethodName) ({ cls := "ReductionFinderModel", name := "keeps", desc := "([I[I)V" } : Jvm.MethodName)) ∈ PWS := pws_mem 49 (by decide +kernel) rfl
theorem qw50 : (Jvm.Cond.selects "ReductionFinderModel" ({ cls := "ReductionFinderModel", name := "drops", desc := "()V" } : Jvm.MethodName) ({ cls := "ReductionFinderModel", name := "drops", desc := "()V" } : Jvm.MethodName)) ∈ PWS := pws_mem 50 (by decide +kernel) rfl
theorem qw51 : (Jvm.Cond.selects "ReductionFinderModel" ({ cls := "ReductionFinderModel", name := "kinds", desc := "(I)I" } : Jvm.MethodName) ({ cls := "ReductionFinderModel", name := "kinds", desc := "(I)I" } : Jvm.MethodName)) ∈ PWS := pws_mem 51 (by decide +kernel) rfl
theorem qw52 : (Jvm.Cond.selects "ReductionFinderModel" ({ cls := "ReductionFinderModel", name := "isAssigned", desc := "(I)Z" } : Jvm.MethodName) ({ cls := "ReductionFinderModel", name := "isAssigned", desc := "(I)Z" } : Jvm.MethodName)) ∈ PWS := pws_mem 52 (by decide +kernel) rfl
theorem qw53 : (Jvm.Cond.selects "ReductionFinderModel" ({ cls := "ReductionFinderModel", name := "occurs", desc := "(II)Z" } : Jvm.MethodName) ({ cls := "ReductionFinderModel", name := "occurs", desc := "(II)Z" } : Jvm.MethodName)) ∈ PWS := pws_mem 53 (by decide +kernel) rfl
theorem qw54 : (Jvm.Cond.selects "ReductionFinderModel" ({ cls := "ReductionFinderModel", name := "has", desc := "(IIII)Z" } : Jvm.MethodName) ({ cls := "ReductionFinderModel", name := "has", desc := "(IIII)Z" } : Jvm.MethodName)) ∈ PWS := pws_mem 54 (by decide +kernel) rfl
theorem qw55 : (Jvm.Cond.selects "ReductionFinderModel" ({ cls := "ReductionFinderModel", name := "part", desc := "(II)I" } : Jvm.MethodName) ({ cls := "ReductionFinderModel", name := "part", desc := "(II)I" } : Jvm.MethodName)) ∈ PWS := pws_mem 55 (by decide +kernel) rfl
theorem qw56 : (Jvm.Cond.selects "ReductionFinderModel" ({ cls := "ReductionFinderModel", name := "operatorOf", desc := "(I)I" } : Jvm.MethodName) ({ cls := "ReductionFinderModel", name := "operatorOf", desc := "(I)I" } : Jvm.MethodName)) ∈ PWS := pws_mem 56 (by decide +kernel) rfl
theorem qw57 : (Jvm.Cond.selects "ReductionFinderModel" ({ cls := "ReductionFinderModel", name := "chain", desc := "(III)I" } : Jvm.MethodName) ({ cls := "ReductionFinderModel", name := "chain", desc := "(III)I" } : Jvm.MethodName)) ∈ PWS := pws_mem 57 (by decide +kernel) rfl
theorem qw58 : (Jvm.Cond.selects "ReductionFinderModel" ({ cls := "ReductionFinderModel", name := "behind", desc := "(II)I" } : Jvm.MethodName) ({ cls := "ReductionFinderModel", name := "behind", desc := "(II)I" } : Jvm.MethodName)) ∈ PWS := pws_mem 58 (by decide +kernel) rfl
theorem qw59 : (Jvm.Cond.selects "ReductionFinderModel" ({ cls := "ReductionFinderModel", name := "isFree", desc := "(II)Z" } : Jvm.MethodName) ({ cls := "ReductionFinderModel", name := "isFree", desc := "(II)Z" } : Jvm.MethodName)) ∈ PWS := pws_mem 59 (by decide +kernel) rfl
theorem qw60 : (Jvm.Cond.selects "ReductionFinderModel" ({ cls := "ReductionFinderModel", name := "hasChain", desc := "(I)Z" } : Jvm.MethodName) ({ cls := "ReductionFinderModel", name := "hasChain", desc := "(I)Z" } : Jvm.MethodName)) ∈ PWS := pws_mem 60 (by decide +kernel) rfl
theorem qw61 : (Jvm.Cond.selects "ReductionFinderModel" ({ cls := "ReductionFinderModel", name := "high", desc := "(II)I" } : Jvm.MethodName) ({ cls := "ReductionFinderModel", name := "high", desc := "(II)I" } : Jvm.MethodName)) ∈ PWS := pws_mem 61 (by decide +kernel) rfl
theorem qw62 : (Jvm.Cond.selects "ReductionFinderModel" ({ cls := "ReductionFinderModel", name := "parallel", desc := "()Z" } : Jvm.MethodName) ({ cls := "ReductionFinderModel", name := "parallel", desc := "()Z" } : Jvm.MethodName)) ∈ PWS := pws_mem 62 (by decide +kernel) rfl
theorem qw63 : (Jvm.Cond.selects "ReductionFinderModel" ({ cls := "ReductionFinderModel", name := "hasBits", desc := "()Z" } : Jvm.MethodName) ({ cls := "ReductionFinderModel", name := "hasBits", desc := "()Z" } : Jvm.MethodName)) ∈ PWS := pws_mem 63 (by decide +kernel) rfl
theorem qw64 : (Jvm.Cond.selects "ReductionFinderModel" ({ cls := "ReductionFinderModel", name := "executes", desc := "(II)V" } : Jvm.MethodName) ({ cls := "ReductionFinderModel", name := "executes", desc := "(II)V" } : Jvm.MethodName)) ∈ PWS := pws_mem 64 (by decide +kernel) rfl
theorem qw65 : (Jvm.Cond.selects "ReductionFinderModel" ({ cls := "ReductionFinderModel", name := "begins", desc := "()V" } : Jvm.MethodName) ({ cls := "ReductionFinderModel", name := "begins", desc := "()V" } : Jvm.MethodName)) ∈ PWS := pws_mem 65 (by decide +kernel) rfl
theorem qw66 : (Jvm.Cond.selects "ReductionFinderModel" ({ cls := "ReductionFinderModel", name := "runs", desc := "(I)V" } : Jvm.MethodName) ({ cls := "ReductionFinderModel", name := "runs", desc := "(I)V" } : Jvm.MethodName)) ∈ PWS := pws_mem 66 (by decide +kernel) rfl
theorem qw67 : (Jvm.Cond.selects "ReductionFinderModel" ({ cls := "ReductionFinderModel", name := "intAt", desc := "(I)I" } : Jvm.MethodName) ({ cls := "ReductionFinderModel", name := "intAt", desc := "(I)I" } : Jvm.MethodName)) ∈ PWS := pws_mem 67 (by decide +kernel) rfl
theorem qw68 : (Jvm.Cond.selects "ReductionFinderModel" ({ cls := "ReductionFinderModel", name := "floatAt", desc := "(I)F" } : Jvm.MethodName) ({ cls := "ReductionFinderModel", name := "floatAt", desc := "(I)F" } : Jvm.MethodName)) ∈ PWS := pws_mem 68 (by decide +kernel) rfl
theorem qw69 : (Jvm.Cond.selects "ReductionFinderModel" ({ cls := "ReductionFinderModel", name := "isReduction", desc := "(I)Z" } : Jvm.MethodName) ({ cls := "ReductionFinderModel", name := "isReduction", desc := "(I)Z" } : Jvm.MethodName)) ∈ PWS := pws_mem 69 (by decide +kernel) rfl
theorem qw70 : (Jvm.Cond.selects "ReductionFinderModel" ({ cls := "ReductionFinderModel", name := "combines", desc := "(III)V" } : Jvm.MethodName) ({ cls := "ReductionFinderModel", name := "combines", desc := "(III)V" } : Jvm.MethodName)) ∈ PWS := pws_mem 70 (by decide +kernel) rfl
theorem qw71 : (Jvm.Cond.selects "ReductionFinderModel" ({ cls := "ReductionFinderModel", name := "parts", desc := "(II)I" } : Jvm.MethodName) ({ cls := "ReductionFinderModel", name := "parts", desc := "(II)I" } : Jvm.MethodName)) ∈ PWS := pws_mem 71 (by decide +kernel) rfl
theorem qw72 : (Jvm.Cond.selects "ReductionFinderModel" ({ cls := "ReductionFinderModel", name := "beginsPart", desc := "()V" } : Jvm.MethodName) ({ cls := "ReductionFinderModel", name := "beginsPart", desc := "()V" } : Jvm.MethodName)) ∈ PWS := pws_mem 72 (by decide +kernel) rfl
theorem qw73 : (Jvm.Cond.selects "ReductionFinderModel" ({ cls := "ReductionFinderModel", name := "partOf", desc := "(III)I" } : Jvm.MethodName) ({ cls := "ReductionFinderModel", name := "partOf", desc := "(III)I" } : Jvm.MethodName)) ∈ PWS := pws_mem 73 (by decide +kernel) rfl
theorem qw74 : (Jvm.Cond.selects "ReductionFinderModel" ({ cls := "ReductionFinderModel", name := "costs", desc := "(II)I" } : Jvm.MethodName) ({ cls := "ReductionFinderModel", name := "costs", desc := "(II)I" } : Jvm.MethodName)) ∈ PWS := pws_mem 74 (by decide +kernel) rfl
theorem qw76 : (Jvm.Cond.initialized "ReductionFinder") ∈ PWS := pws_mem 76 (by decide +kernel) rfl
theorem qw77 : (Jvm.Cond.initialized "ReductionFinder$Reader") ∈ PWS := pws_mem 77 (by decide +kernel) rfl
theorem qw78 : (Jvm.Cond.initialized "ReductionFinder$Walk") ∈ PWS := pws_mem 78 (by decide +kernel) rfl
theorem qw79 : (Jvm.Cond.initialized "ReductionFinder$HeightWalk") ∈ PWS := pws_mem 79 (by decide +kernel) rfl
theorem qw80 : (Jvm.Cond.initialized "ReductionFinder$ChainWalk") ∈ PWS := pws_mem 80 (by decide +kernel) rfl
theorem qw81 : (Jvm.Cond.initialized "ReductionFinder$Data") ∈ PWS := pws_mem 81 (by decide +kernel) rfl
theorem qw82 : (Jvm.Cond.initialized "ReductionFinder$Machine") ∈ PWS := pws_mem 82 (by decide +kernel) rfl
theorem qw83 : (Jvm.Cond.initialized "ReductionFinder$IntMachine") ∈ PWS := pws_mem 83 (by decide +kernel) rfl
theorem qw84 : (Jvm.Cond.initialized "ReductionFinder$FloatMachine") ∈ PWS := pws_mem 84 (by decide +kernel) rfl
theorem qw85 : (Jvm.Cond.initialized "ReductionFinder$Program") ∈ PWS := pws_mem 85 (by decide +kernel) rfl
theorem qw86 : (Jvm.Cond.initialized "ReductionFinderModel") ∈ PWS := pws_mem 86 (by decide +kernel) rfl
theorem qw92 : (Jvm.Cond.initialized "java/lang/System") ∈ PWS := pws_mem 92 (by decide +kernel) rfl
theorem qw93 : (Jvm.Cond.initialized "java/lang/Math") ∈ PWS := pws_mem 93 (by decide +kernel) rfl
theorem qw114 : (Jvm.Cond.fieldLink "ReductionFinder$Reader" (9 : Nat) "ReductionFinder$Reader" "text" "[C") ∈ PWS := pws_mem 114 (by decide +kernel) rfl
theorem qw115 : (Jvm.Cond.fieldLink "ReductionFinder$Reader" (15 : Nat) "ReductionFinder$Reader" "length" "I") ∈ PWS := pws_mem 115 (by decide +kernel) rfl
theorem qw116 : (Jvm.Cond.fieldLinkNest "ReductionFinder" (90 : Nat) "ReductionFinder$Reader" "length" "I" "ReductionFinder") ∈ PWS := pws_mem 116 (by decide +kernel) rfl
theorem qw117 : (Jvm.Cond.fieldLink "ReductionFinder$Reader" (19 : Nat) "ReductionFinder$Reader" "position" "I") ∈ PWS := pws_mem 117 (by decide +kernel) rfl
theorem qw118 : (Jvm.Cond.fieldLinkNest "ReductionFinder" (106 : Nat) "ReductionFinder$Reader" "position" "I" "ReductionFinder") ∈ PWS := pws_mem 118 (by decide +kernel) rfl
theorem qw119 : (Jvm.Cond.fieldLink "ReductionFinder$Reader" (22 : Nat) "ReductionFinder$Reader" "codes" "[I") ∈ PWS := pws_mem 119 (by decide +kernel) rfl
theorem qw120 : (Jvm.Cond.fieldLinkNest "ReductionFinder$Program" (91 : Nat) "ReductionFinder$Reader" "codes" "[I" "ReductionFinder") ∈ PWS := pws_mem 120 (by decide +kernel) rfl
theorem qw121 : (Jvm.Cond.fieldLink "ReductionFinder$Reader" (26 : Nat) "ReductionFinder$Reader" "codeCount" "I") ∈ PWS := pws_mem 121 (by decide +kernel) rfl
theorem qw122 : (Jvm.Cond.fieldLinkNest "ReductionFinder$Program" (72 : Nat) "ReductionFinder$Reader" "codeCount" "I" "ReductionFinder") ∈ PWS := pws_mem 122 (by decide +kernel) rfl
theorem qw123 : (Jvm.Cond.fieldLink "ReductionFinder$Reader" (29 : Nat) "ReductionFinder$Reader" "targets" "[I") ∈ PWS := pws_mem 123 (by decide +kernel) rfl
theorem qw124 : (Jvm.Cond.fieldLinkNest "ReductionFinder$Program" (83 : Nat) "ReductionFinder$Reader" "targets" "[I" "ReductionFinder") ∈ PWS := pws_mem 124 (by decide +kernel) rfl
theorem qw125 : (Jvm.Cond.fieldLink "ReductionFinder$Reader" (32 : Nat) "ReductionFinder$Reader" "stops" "[I") ∈ PWS := pws_mem 125 (by decide +kernel) rfl
theorem qw126 : (Jvm.Cond.fieldLinkNest "ReductionFinder$Program" (90 : Nat) "ReductionFinder$Reader" "stops" "[I" "ReductionFinder") ∈ PWS := pws_mem 126 (by decide +kernel) rfl
theorem qw127 : (Jvm.Cond.fieldLink "ReductionFinder$Reader" (35 : Nat) "ReductionFinder$Reader" "statementCount" "I") ∈ PWS := pws_mem 127 (by decide +kernel) rfl
theorem qw128 : (Jvm.Cond.fieldLinkNest "ReductionFinder$Program" (65 : Nat) "ReductionFinder$Reader" "statementCount" "I" "ReductionFinder") ∈ PWS := pws_mem 128 (by decide +kernel) rfl
theorem qw157 : (Jvm.Cond.fieldLink "ReductionFinder$HeightWalk" (9 : Nat) "ReductionFinder$HeightWalk" "slots" "[I") ∈ PWS := pws_mem 157 (by decide +kernel) rfl
theorem qw167 : (Jvm.Cond.fieldLink "ReductionFinder$ChainWalk" (9 : Nat) "ReductionFinder$ChainWalk" "slots" "[I") ∈ PWS := pws_mem 167 (by decide +kernel) rfl
theorem qw168 : (Jvm.Cond.fieldLink "ReductionFinder$ChainWalk" (15 : Nat) "ReductionFinder$ChainWalk" "startCode" "I") ∈ PWS := pws_mem 168 (by decide +kernel) rfl
theorem qw169 : (Jvm.Cond.fieldLink "ReductionFinder$ChainWalk" (19 : Nat) "ReductionFinder$ChainWalk" "operatorCode" "I") ∈ PWS := pws_mem 169 (by decide +kernel) rfl
theorem qw187 : (Jvm.Cond.fieldLink "ReductionFinder$Data" (9 : Nat) "ReductionFinder$Data" "mode" "I") ∈ PWS := pws_mem 187 (by decide +kernel) rfl
theorem qw188 : (Jvm.Cond.fieldLinkNest "ReductionFinder" (134 : Nat) "ReductionFinder$Data" "mode" "I" "ReductionFinder") ∈ PWS := pws_mem 188 (by decide +kernel) rfl
theorem qw189 : (Jvm.Cond.fieldLink "ReductionFinder$Data" (15 : Nat) "ReductionFinder$Data" "count" "I") ∈ PWS := pws_mem 189 (by decide +kernel) rfl
theorem qw190 : (Jvm.Cond.fieldLinkNest "ReductionFinder" (139 : Nat) "ReductionFinder$Data" "count" "I" "ReductionFinder") ∈ PWS := pws_mem 190 (by decide +kernel) rfl
theorem qw191 : (Jvm.Cond.fieldLinkNest "ReductionFinder$Machine" (36 : Nat) "ReductionFinder$Data" "count" "I" "ReductionFinder") ∈ PWS := pws_mem 191 (by decide +kernel) rfl
theorem qw192 : (Jvm.Cond.fieldLink "ReductionFinder$Data" (20 : Nat) "ReductionFinder$Data" "elements" "[[I") ∈ PWS := pws_mem 192 (by decide +kernel) rfl
theorem qw193 : (Jvm.Cond.fieldLinkNest "ReductionFinder" (148 : Nat) "ReductionFinder$Data" "elements" "[[I" "ReductionFinder") ∈ PWS := pws_mem 193 (by decide +kernel) rfl
theorem qw194 : (Jvm.Cond.fieldLinkNest "ReductionFinder$Machine" (22 : Nat) "ReductionFinder$Data" "elements" "[[I" "ReductionFinder") ∈ PWS := pws_mem 194 (by decide +kernel) rfl
theorem qw195 : (Jvm.Cond.fieldLink "ReductionFinder$Data" (23 : Nat) "ReductionFinder$Data" "initials" "[I") ∈ PWS := pws_mem 195 (by decide +kernel) rfl
theorem qw196 : (Jvm.Cond.fieldLinkNest "ReductionFinder$Machine" (32 : Nat) "ReductionFinder$Data" "initials" "[I" "ReductionFinder") ∈ PWS := pws_mem 196 (by decide +kernel) rfl
theorem qw197 : (Jvm.Cond.fieldLinkNest "ReductionFinder" (158 : Nat) "ReductionFinder$Data" "initials" "[I" "ReductionFinder") ∈ PWS := pws_mem 197 (by decide +kernel) rfl
theorem qw208 : (Jvm.Cond.instantiable "ReductionFinder$IntMachine" (5 : Nat)) ∈ PWS := pws_mem 208 (by decide +kernel) rfl
theorem qw217 : (Jvm.Cond.fieldLink "ReductionFinder$IntMachine" (11 : Nat) "ReductionFinder$IntMachine" "rows" "[[I") ∈ PWS := pws_mem 217 (by decide +kernel) rfl
theorem qw218 : (Jvm.Cond.fieldLinkNest "ReductionFinder" (224 : Nat) "ReductionFinder$IntMachine" "rows" "[[I" "ReductionFinder") ∈ PWS := pws_mem 218 (by decide +kernel) rfl
theorem qw219 : (Jvm.Cond.fieldLink "ReductionFinder$IntMachine" (16 : Nat) "ReductionFinder$IntMachine" "slots" "[I") ∈ PWS := pws_mem 219 (by decide +kernel) rfl
theorem qw220 : (Jvm.Cond.fieldLink "ReductionFinder$Machine" (18 : Nat) "ReductionFinder$Machine" "data" "LReductionFinder$Data;") ∈ PWS := pws_mem 220 (by decide +kernel) rfl
theorem qw221 : (Jvm.Cond.fieldLink "ReductionFinder$Machine" (11 : Nat) "ReductionFinder$Machine" "row" "I") ∈ PWS := pws_mem 221 (by decide +kernel) rfl
theorem qw222 : (Jvm.Cond.fieldLink "ReductionFinder$Machine" (15 : Nat) "ReductionFinder$Machine" "iteration" "I") ∈ PWS := pws_mem 222 (by decide +kernel) rfl
theorem qw235 : (Jvm.Cond.instantiable "ReductionFinder$FloatMachine" (5 : Nat)) ∈ PWS := pws_mem 235 (by decide +kernel) rfl
theorem qw242 : (Jvm.Cond.fieldLink "ReductionFinder$FloatMachine" (11 : Nat) "ReductionFinder$FloatMachine" "rows" "[[F") ∈ PWS := pws_mem 242 (by decide +kernel) rfl
theorem qw243 : (Jvm.Cond.fieldLinkNest "ReductionFinder" (229 : Nat) "ReductionFinder$FloatMachine" "rows" "[[F" "ReductionFinder") ∈ PWS := pws_mem 243 (by decide +kernel) rfl
theorem qw244 : (Jvm.Cond.fieldLink "ReductionFinder$FloatMachine" (16 : Nat) "ReductionFinder$FloatMachine" "slots" "[F") ∈ PWS := pws_mem 244 (by decide +kernel) rfl
theorem qw260 : (Jvm.Cond.fieldLink "ReductionFinder$Program" (9 : Nat) "ReductionFinder$Program" "codes" "[I") ∈ PWS := pws_mem 260 (by decide +kernel) rfl
theorem qw261 : (Jvm.Cond.fieldLinkNest "ReductionFinder$Machine" (104 : Nat) "ReductionFinder$Program" "codes" "[I" "ReductionFinder") ∈ PWS := pws_mem 261 (by decide +kernel) rfl
theorem qw262 : (Jvm.Cond.fieldLink "ReductionFinder$Program" (15 : Nat) "ReductionFinder$Program" "targets" "[I") ∈ PWS := pws_mem 262 (by decide +kernel) rfl
theorem qw263 : (Jvm.Cond.fieldLinkNest "ReductionFinder$Machine" (118 : Nat) "ReductionFinder$Program" "targets" "[I" "ReductionFinder") ∈ PWS := pws_mem 263 (by decide +kernel) rfl
theorem qw264 : (Jvm.Cond.fieldLink "ReductionFinder$Program" (18 : Nat) "ReductionFinder$Program" "stops" "[I") ∈ PWS := pws_mem 264 (by decide +kernel) rfl
theorem qw265 : (Jvm.Cond.fieldLinkNest "ReductionFinder$Machine" (111 : Nat) "ReductionFinder$Program" "stops" "[I" "ReductionFinder") ∈ PWS := pws_mem 265 (by decide +kernel) rfl
theorem qw266 : (Jvm.Cond.fieldLink "ReductionFinder$Program" (21 : Nat) "ReductionFinder$Program" "statementCount" "I") ∈ PWS := pws_mem 266 (by decide +kernel) rfl
theorem qw267 : (Jvm.Cond.fieldLinkNest "ReductionFinder" (129 : Nat) "ReductionFinder$Program" "statementCount" "I" "ReductionFinder") ∈ PWS := pws_mem 267 (by decide +kernel) rfl
theorem qw268 : (Jvm.Cond.fieldLinkNest "ReductionFinder$Machine" (101 : Nat) "ReductionFinder$Program" "statementCount" "I" "ReductionFinder") ∈ PWS := pws_mem 268 (by decide +kernel) rfl
theorem qw269 : (Jvm.Cond.fieldLink "ReductionFinder$Program" (25 : Nat) "ReductionFinder$Program" "operations" "I") ∈ PWS := pws_mem 269 (by decide +kernel) rfl
theorem qw270 : (Jvm.Cond.fieldLinkNest "ReductionFinder" (276 : Nat) "ReductionFinder$Program" "operations" "I" "ReductionFinder") ∈ PWS := pws_mem 270 (by decide +kernel) rfl
theorem qw271 : (Jvm.Cond.fieldLink "ReductionFinder$Program" (28 : Nat) "ReductionFinder$Program" "bitwise" "Z") ∈ PWS := pws_mem 271 (by decide +kernel) rfl
theorem qw272 : (Jvm.Cond.fieldLinkNest "ReductionFinder" (269 : Nat) "ReductionFinder$Program" "bitwise" "Z" "ReductionFinder") ∈ PWS := pws_mem 272 (by decide +kernel) rfl
theorem qw273 : (Jvm.Cond.fieldLink "ReductionFinder$Program" (34 : Nat) "ReductionFinder$Program" "ends" "[[I") ∈ PWS := pws_mem 273 (by decide +kernel) rfl
theorem qw274 : (Jvm.Cond.fieldLinkNest "ReductionFinder" (180 : Nat) "ReductionFinder$Program" "ends" "[[I" "ReductionFinder") ∈ PWS := pws_mem 274 (by decide +kernel) rfl
theorem qw275 : (Jvm.Cond.fieldLink "ReductionFinder$Program" (37 : Nat) "ReductionFinder$Program" "lengths" "[I") ∈ PWS := pws_mem 275 (by decide +kernel) rfl
theorem qw276 : (Jvm.Cond.fieldLinkNest "ReductionFinder" (177 : Nat) "ReductionFinder$Program" "lengths" "[I" "ReductionFinder") ∈ PWS := pws_mem 276 (by decide +kernel) rfl
theorem qw277 : (Jvm.Cond.fieldLink "ReductionFinder$Program" (40 : Nat) "ReductionFinder$Program" "draft" "[I") ∈ PWS := pws_mem 277 (by decide +kernel) rfl
theorem qw278 : (Jvm.Cond.fieldLink "ReductionFinder$Program" (43 : Nat) "ReductionFinder$Program" "assigned" "[Z") ∈ PWS := pws_mem 278 (by decide +kernel) rfl
theorem qw279 : (Jvm.Cond.fieldLink "ReductionFinder$Program" (47 : Nat) "ReductionFinder$Program" "masks" "[I") ∈ PWS := pws_mem 279 (by decide +kernel) rfl
theorem qw280 : (Jvm.Cond.fieldLinkNest "ReductionFinder" (174 : Nat) "ReductionFinder$Program" "masks" "[I" "ReductionFinder") ∈ PWS := pws_mem 280 (by decide +kernel) rfl
theorem qw281 : (Jvm.Cond.fieldLink "ReductionFinder$Program" (50 : Nat) "ReductionFinder$Program" "kinds" "[I") ∈ PWS := pws_mem 281 (by decide +kernel) rfl
theorem qw282 : (Jvm.Cond.fieldLinkNest "ReductionFinder" (162 : Nat) "ReductionFinder$Program" "kinds" "[I" "ReductionFinder") ∈ PWS := pws_mem 282 (by decide +kernel) rfl
theorem qw283 : (Jvm.Cond.fieldLinkNest "ReductionFinder$Machine" (67 : Nat) "ReductionFinder$Program" "kinds" "[I" "ReductionFinder") ∈ PWS := pws_mem 283 (by decide +kernel) rfl
theorem qw284 : (Jvm.Cond.fieldLink "ReductionFinder$Program" (53 : Nat) "ReductionFinder$Program" "chainOperators" "[I") ∈ PWS := pws_mem 284 (by decide +kernel) rfl
theorem qw285 : (Jvm.Cond.fieldLinkNest "ReductionFinder" (168 : Nat) "ReductionFinder$Program" "chainOperators" "[I" "ReductionFinder") ∈ PWS := pws_mem 285 (by decide +kernel) rfl
theorem qw286 : (Jvm.Cond.fieldLinkNest "ReductionFinder$Machine" (72 : Nat) "ReductionFinder$Program" "chainOperators" "[I" "ReductionFinder") ∈ PWS := pws_mem 286 (by decide +kernel) rfl
theorem qw287 : (Jvm.Cond.fieldLink "ReductionFinder$Program" (56 : Nat) "ReductionFinder$Program" "chainTerms" "[I") ∈ PWS := pws_mem 287 (by decide +kernel) rfl
theorem qw288 : (Jvm.Cond.fieldLinkNest "ReductionFinder" (171 : Nat) "ReductionFinder$Program" "chainTerms" "[I" "ReductionFinder") ∈ PWS := pws_mem 288 (by decide +kernel) rfl
theorem qw289 : (Jvm.Cond.fieldLink "ReductionFinder$Program" (59 : Nat) "ReductionFinder$Program" "reductions" "I") ∈ PWS := pws_mem 289 (by decide +kernel) rfl
theorem qw290 : (Jvm.Cond.fieldLinkNest "ReductionFinder" (279 : Nat) "ReductionFinder$Program" "reductions" "I" "ReductionFinder") ∈ PWS := pws_mem 290 (by decide +kernel) rfl
theorem qw291 : (Jvm.Cond.fieldLink "ReductionFinder$Program" (62 : Nat) "ReductionFinder$Program" "parallel" "Z") ∈ PWS := pws_mem 291 (by decide +kernel) rfl
theorem qw292 : (Jvm.Cond.fieldLinkNest "ReductionFinder" (195 : Nat) "ReductionFinder$Program" "parallel" "Z" "ReductionFinder") ∈ PWS := pws_mem 292 (by decide +kernel) rfl
theorem qw327 : (Jvm.Cond.fieldLink "ReductionFinder" (10 : Nat) "ReductionFinder" "reader" "LReductionFinder$Reader;") ∈ PWS := pws_mem 327 (by decide +kernel) rfl
theorem qw328 : (Jvm.Cond.fieldLink "ReductionFinder" (19 : Nat) "ReductionFinder" "heightWalk" "LReductionFinder$HeightWalk;") ∈ PWS := pws_mem 328 (by decide +kernel) rfl
theorem qw329 : (Jvm.Cond.fieldLink "ReductionFinder" (26 : Nat) "ReductionFinder" "chainWalk" "LReductionFinder$ChainWalk;") ∈ PWS := pws_mem 329 (by decide +kernel) rfl
theorem qw330 : (Jvm.Cond.fieldLink "ReductionFinder" (32 : Nat) "ReductionFinder" "programs" "[LReductionFinder$Program;") ∈ PWS := pws_mem 330 (by decide +kernel) rfl
theorem qw331 : (Jvm.Cond.fieldLink "ReductionFinder" (39 : Nat) "ReductionFinder" "data" "LReductionFinder$Data;") ∈ PWS := pws_mem 331 (by decide +kernel) rfl
theorem qw332 : (Jvm.Cond.fieldLink "ReductionFinder" (43 : Nat) "ReductionFinder" "savedData" "LReductionFinder$Data;") ∈ PWS := pws_mem 332 (by decide +kernel) rfl
theorem qw333 : (Jvm.Cond.fieldLink "ReductionFinder" (51 : Nat) "ReductionFinder" "intMachine" "LReductionFinder$IntMachine;") ∈ PWS := pws_mem 333 (by decide +kernel) rfl
theorem qw334 : (Jvm.Cond.fieldLink "ReductionFinder" (58 : Nat) "ReductionFinder" "floatMachine" "LReductionFinder$FloatMachine;") ∈ PWS := pws_mem 334 (by decide +kernel) rfl
theorem qw335 : (Jvm.Cond.fieldLink "ReductionFinder" (80 : Nat) "ReductionFinder" "program" "LReductionFinder$Program;") ∈ PWS := pws_mem 335 (by decide +kernel) rfl
theorem qw336 : (Jvm.Cond.fieldLink "ReductionFinder" (62 : Nat) "ReductionFinder" "savedProgram" "LReductionFinder$Program;") ∈ PWS := pws_mem 336 (by decide +kernel) rfl
theorem qw337 : (Jvm.Cond.fieldLink "ReductionFinder" (66 : Nat) "ReductionFinder" "fault" "I") ∈ PWS := pws_mem 337 (by decide +kernel) rfl
theorem qw338 : (Jvm.Cond.fieldLink "ReductionFinder" (70 : Nat) "ReductionFinder" "cursorVariable" "I") ∈ PWS := pws_mem 338 (by decide +kernel) rfl
theorem qw339 : (Jvm.Cond.fieldLink "ReductionFinder" (73 : Nat) "ReductionFinder" "cursorPosition" "I") ∈ PWS := pws_mem 339 (by decide +kernel) rfl
theorem qw340 : (Jvm.Cond.fieldLink "ReductionFinder" (76 : Nat) "ReductionFinder" "resultMode" "I") ∈ PWS := pws_mem 340 (by decide +kernel) rfl
theorem qw386 : (Jvm.Cond.methodLink "ReductionFinder" (242 : Nat) ({ cls := "ReductionFinder", name := "unitsOf", desc := "(II)I" } : Jvm.MethodName)) ∈ PWS := pws_mem 386 (by decide +kernel) rfl
theorem qw388 : (Jvm.Cond.instanceMethod ({ cls := "ReductionFinder", name := "unitsOf", desc := "(II)I" } : Jvm.MethodName)) ∈ PWS := pws_mem 388 (by decide +kernel) rfl
theorem qw389 : (Jvm.Cond.code ({ cls := "ReductionFinder", name := "unitsOf", desc := "(II)I" } : Jvm.MethodName) prog_1_method_41_code (4 : Nat) (Option.some Jvm.ClassFile.FieldType.int)) ∈ PWS := pws_mem 389 (by decide +kernel) rfl
theorem qw390 : (Jvm.Cond.methodLink "ReductionFinder" (282 : Nat) ({ cls := "ReductionFinder", name := "treeRows", desc := "(I)I" } : Jvm.MethodName)) ∈ PWS := pws_mem 390 (by decide +kernel) rfl
theorem qw391 : (Jvm.Cond.static ({ cls := "ReductionFinder", name := "treeRows", desc := "(I)I" } : Jvm.MethodName)) ∈ PWS := pws_mem 391 (by decide +kernel) rfl
theorem qw392 : (Jvm.Cond.code ({ cls := "ReductionFinder", name := "treeRows", desc := "(I)I" } : Jvm.MethodName) prog_1_method_42_code (3 : Nat) (Option.some Jvm.ClassFile.FieldType.int)) ∈ PWS := pws_mem 392 (by decide +kernel) rfl
theorem qw393 : (Jvm.Cond.methodLink "ReductionFinder" (286 : Nat) ({ cls := "ReductionFinder", name := "quotientUp", desc := "(II)I" } : Jvm.MethodName)) ∈ PWS := pws_mem 393 (by decide +kernel) rfl
theorem qw394 : (Jvm.Cond.static ({ cls := "ReductionFinder", name := "quotientUp", desc := "(II)I" } : Jvm.MethodName)) ∈ PWS := pws_mem 394 (by decide +kernel) rfl
theorem qw395 : (Jvm.Cond.code ({ cls := "ReductionFinder", name := "quotientUp", desc := "(II)I" } : Jvm.MethodName) prog_1_method_43_code (2 : Nat) (Option.some Jvm.ClassFile.FieldType.int)) ∈ PWS := pws_mem 395 (by decide +kernel) rfl
theorem qw400 : (Jvm.Cond.methodLinkNest "ReductionFinder" (246 : Nat) ({ cls := "ReductionFinder$Data", name := "copyFrom", desc := "(LReductionFinder$Data;)V" } : Jvm.MethodName) "ReductionFinder") ∈ PWS := pws_mem 400 (by decide +kernel) rfl
theorem qw402 : (Jvm.Cond.instanceMethod ({ cls := "ReductionFinder$Data", name := "copyFrom", desc := "(LReductionFinder$Data;)V" } : Jvm.MethodName)) ∈ PWS := pws_mem 402 (by decide +kernel) rfl
theorem qw403 : (Jvm.Cond.code ({ cls := "ReductionFinder$Data", name := "copyFrom", desc := "(LReductionFinder$Data;)V" } : Jvm.MethodName) prog_3_method_2_code (3 : Nat) (Option.none : Option Jvm.ClassFile.FieldType)) ∈ PWS := pws_mem 403 (by decide +kernel) rfl
theorem qw404 : (Jvm.Cond.methodLink "ReductionFinder$Data" (27 : Nat) ({ cls := "java/lang/System", name := "arraycopy", desc := "(Ljava/lang/Object;ILjava/lang/Object;II)V" } : Jvm.MethodName)) ∈ PWS := pws_mem 404 (by decide +kernel) rfl
theorem qw405 : (Jvm.Cond.static ({ cls := "java/lang/System", name := "arraycopy", desc := "(Ljava/lang/Object;ILjava/lang/Object;II)V" } : Jvm.MethodName)) ∈ PWS := pws_mem 405 (by decide +kernel) rfl
theorem qw406 : (Jvm.Cond.native ({ cls := "java/lang/System", name := "arraycopy", desc := "(Ljava/lang/Object;ILjava/lang/Object;II)V" } : Jvm.MethodName)) ∈ PWS := pws_mem 406 (by decide +kernel) rfl
theorem qw502 : (Jvm.Cond.methodLinkNest "ReductionFinder" (98 : Nat) ({ cls := "ReductionFinder$Reader", name := "addSign", desc := "(C)V" } : Jvm.MethodName) "ReductionFinder") ∈ PWS := pws_mem 502 (by decide +kernel) rfl
theorem qw504 : (Jvm.Cond.instanceMethod ({ cls := "ReductionFinder$Reader", name := "addSign", desc := "(C)V" } : Jvm.MethodName)) ∈ PWS := pws_mem 504 (by decide +kernel) rfl
theorem qw505 : (Jvm.Cond.code ({ cls := "ReductionFinder$Reader", name := "addSign", desc := "(C)V" } : Jvm.MethodName) prog_9_method_2_code (2 : Nat) (Option.none : Option Jvm.ClassFile.FieldType)) ∈ PWS := pws_mem 505 (by decide +kernel) rfl
theorem qw513 : (Jvm.Cond.methodLinkNest "ReductionFinder" (102 : Nat) ({ cls := "ReductionFinder$Reader", name := "readText", desc := "()Z" } : Jvm.MethodName) "ReductionFinder") ∈ PWS := pws_mem 513 (by decide +kernel) rfl
theorem qw515 : (Jvm.Cond.instanceMethod ({ cls := "ReductionFinder$Reader", name := "readText", desc := "()Z" } : Jvm.MethodName)) ∈ PWS := pws_mem 515 (by decide +kernel) rfl
theorem qw516 : (Jvm.Cond.code ({ cls := "ReductionFinder$Reader", name := "readText", desc := "()Z" } : Jvm.MethodName) prog_9_method_3_code (2 : Nat) (Option.some Jvm.ClassFile.FieldType.boolean)) ∈ PWS := pws_mem 516 (by decide +kernel) rfl
theorem qw517 : (Jvm.Cond.methodLink "ReductionFinder$Reader" (38 : Nat) ({ cls := "ReductionFinder$Reader", name := "readStatement", desc := "()Z" } : Jvm.MethodName)) ∈ PWS := pws_mem 517 (by decide +kernel) rfl
theorem qw519 : (Jvm.Cond.instanceMethod ({ cls := "ReductionFinder$Reader", name := "readStatement", desc := "()Z" } : Jvm.MethodName)) ∈ PWS := pws_mem 519 (by decide +kernel) rfl
theorem qw520 : (Jvm.Cond.code ({ cls := "ReductionFinder$Reader", name := "readStatement", desc := "()Z" } : Jvm.MethodName) prog_9_method_4_code (2 : Nat) (Option.some Jvm.ClassFile.FieldType.boolean)) ∈ PWS := pws_mem 520 (by decide +kernel) rfl
theorem qw521 : (Jvm.Cond.methodLink "ReductionFinder$Reader" (42 : Nat) ({ cls := "ReductionFinder$Reader", name := "peek", desc := "()C" } : Jvm.MethodName)) ∈ PWS := pws_mem 521 (by decide +kernel) rfl
theorem qw523 : (Jvm.Cond.instanceMethod ({ cls := "ReductionFinder$Reader", name := "peek", desc := "()C" } : Jvm.MethodName)) ∈ PWS := pws_mem 523 (by decide +kernel) rfl
theorem qw524 : (Jvm.Cond.code ({ cls := "ReductionFinder$Reader", name := "peek", desc := "()C" } : Jvm.MethodName) prog_9_method_10_code (1 : Nat) (Option.some Jvm.ClassFile.FieldType.char)) ∈ PWS := pws_mem 524 (by decide +kernel) rfl
theorem qw525 : (Jvm.Cond.methodLink "ReductionFinder$Reader" (46 : Nat) ({ cls := "ReductionFinder$Reader", name := "isVariable", desc := "(C)Z" } : Jvm.MethodName)) ∈ PWS := pws_mem 525 (by decide +kernel) rfl
theorem qw526 : (Jvm.Cond.static ({ cls := "ReductionFinder$Reader", name := "isVariable", desc := "(C)Z" } : Jvm.MethodName)) ∈ PWS := pws_mem 526 (by decide +kernel) rfl
theorem qw527 : (Jvm.Cond.code ({ cls := "ReductionFinder$Reader", name := "isVariable", desc := "(C)Z" } : Jvm.MethodName) prog_9_method_14_code (1 : Nat) (Option.some Jvm.ClassFile.FieldType.boolean)) ∈ PWS := pws_mem 527 (by decide +kernel) rfl
theorem qw528 : (Jvm.Cond.methodLink "ReductionFinder$Reader" (50 : Nat) ({ cls := "ReductionFinder$Reader", name := "take", desc := "(C)Z" } : Jvm.MethodName)) ∈ PWS := pws_mem 528 (by decide +kernel) rfl
theorem qw530 : (Jvm.Cond.instanceMethod ({ cls := "ReductionFinder$Reader", name := "take", desc := "(C)Z" } : Jvm.MethodName)) ∈ PWS := pws_mem 530 (by decide +kernel) rfl
theorem qw531 : (Jvm.Cond.code ({ cls := "ReductionFinder$Reader", name := "take", desc := "(C)Z" } : Jvm.MethodName) prog_9_method_11_code (2 : Nat) (Option.some Jvm.ClassFile.FieldType.boolean)) ∈ PWS := pws_mem 531 (by decide +kernel) rfl
theorem qw532 : (Jvm.Cond.methodLink "ReductionFinder$Reader" (53 : Nat) ({ cls := "ReductionFinder$Reader", name := "readLevel", desc := "(II)Z" } : Jvm.MethodName)) ∈ PWS := pws_mem 532 (by decide +kernel) rfl
theorem qw534 : (Jvm.Cond.instanceMethod ({ cls := "ReductionFinder$Reader", name := "readLevel", desc := "(II)Z" } : Jvm.MethodName)) ∈ PWS := pws_mem 534 (by decide +kernel) rfl
theorem qw535 : (Jvm.Cond.code ({ cls := "ReductionFinder$Reader", name := "readLevel", desc := "(II)Z" } : Jvm.MethodName) prog_9_method_5_code (4 : Nat) (Option.some Jvm.ClassFile.FieldType.boolean)) ∈ PWS := pws_mem 535 (by decide +kernel) rfl
theorem qw536 : (Jvm.Cond.methodLink "ReductionFinder$Reader" (57 : Nat) ({ cls := "ReductionFinder$Reader", name := "readFactor", desc := "(I)Z" } : Jvm.MethodName)) ∈ PWS := pws_mem 536 (by decide +kernel) rfl
theorem qw538 : (Jvm.Cond.instanceMethod ({ cls := "ReductionFinder$Reader", name := "readFactor", desc := "(I)Z" } : Jvm.MethodName)) ∈ PWS := pws_mem 538 (by decide +kernel) rfl
theorem qw539 : (Jvm.Cond.code ({ cls := "ReductionFinder$Reader", name := "readFactor", desc := "(I)Z" } : Jvm.MethodName) prog_9_method_6_code (4 : Nat) (Option.some Jvm.ClassFile.FieldType.boolean)) ∈ PWS := pws_mem 539 (by decide +kernel) rfl
theorem qw540 : (Jvm.Cond.methodLink "ReductionFinder$Reader" (73 : Nat) ({ cls := "ReductionFinder$Reader", name := "isDigit", desc := "(C)Z" } : Jvm.MethodName)) ∈ PWS := pws_mem 540 (by decide +kernel) rfl
theorem qw541 : (Jvm.Cond.static ({ cls := "ReductionFinder$Reader", name := "isDigit", desc := "(C)Z" } : Jvm.MethodName)) ∈ PWS := pws_mem 541 (by decide +kernel) rfl
theorem qw542 : (Jvm.Cond.code ({ cls := "ReductionFinder$Reader", name := "isDigit", desc := "(C)Z" } : Jvm.MethodName) prog_9_method_15_code (1 : Nat) (Option.some Jvm.ClassFile.FieldType.boolean)) ∈ PWS := pws_mem 542 (by decide +kernel) rfl
theorem qw543 : (Jvm.Cond.methodLink "ReductionFinder$Reader" (76 : Nat) ({ cls := "ReductionFinder$Reader", name := "readNumber", desc := "()Z" } : Jvm.MethodName)) ∈ PWS := pws_mem 543 (by decide +kernel) rfl
theorem qw545 : (Jvm.Cond.instanceMethod ({ cls := "ReductionFinder$Reader", name := "readNumber", desc := "()Z" } : Jvm.MethodName)) ∈ PWS := pws_mem 545 (by decide +kernel) rfl
theorem qw546 : (Jvm.Cond.code ({ cls := "ReductionFinder$Reader", name := "readNumber", desc := "()Z" } : Jvm.MethodName) prog_9_method_7_code (3 : Nat) (Option.some Jvm.ClassFile.FieldType.boolean)) ∈ PWS := pws_mem 546 (by decide +kernel) rfl
theorem qw547 : (Jvm.Cond.methodLink "ReductionFinder$Reader" (79 : Nat) ({ cls := "ReductionFinder$Reader", name := "addCode", desc := "(I)V" } : Jvm.MethodName)) ∈ PWS := pws_mem 547 (by decide +kernel) rfl
theorem qw549 : (Jvm.Cond.instanceMethod ({ cls := "ReductionFinder$Reader", name := "addCode", desc := "(I)V" } : Jvm.MethodName)) ∈ PWS := pws_mem 549 (by decide +kernel) rfl
theorem qw550 : (Jvm.Cond.code ({ cls := "ReductionFinder$Reader", name := "addCode", desc := "(I)V" } : Jvm.MethodName) prog_9_method_12_code (2 : Nat) (Option.none : Option Jvm.ClassFile.FieldType)) ∈ PWS := pws_mem 550 (by decide +kernel) rfl
theorem qw551 : (Jvm.Cond.methodLink "ReductionFinder$Reader" (83 : Nat) ({ cls := "ReductionFinder$Reader", name := "readName", desc := "()I" } : Jvm.MethodName)) ∈ PWS := pws_mem 551 (by decide +kernel) rfl
theorem qw553 : (Jvm.Cond.instanceMethod ({ cls := "ReductionFinder$Reader", name := "readName", desc := "()I" } : Jvm.MethodName)) ∈ PWS := pws_mem 553 (by decide +kernel) rfl
theorem qw554 : (Jvm.Cond.code ({ cls := "ReductionFinder$Reader", name := "readName", desc := "()I" } : Jvm.MethodName) prog_9_method_8_code (1 : Nat) (Option.some Jvm.ClassFile.FieldType.int)) ∈ PWS := pws_mem 554 (by decide +kernel) rfl
theorem qw555 : (Jvm.Cond.methodLink "ReductionFinder$Reader" (87 : Nat) ({ cls := "ReductionFinder$Reader", name := "readFunction", desc := "(II)Z" } : Jvm.MethodName)) ∈ PWS := pws_mem 555 (by decide +kernel) rfl
theorem qw557 : (Jvm.Cond.instanceMethod ({ cls := "ReductionFinder$Reader", name := "readFunction", desc := "(II)Z" } : Jvm.MethodName)) ∈ PWS := pws_mem 557 (by decide +kernel) rfl
theorem qw558 : (Jvm.Cond.code ({ cls := "ReductionFinder$Reader", name := "readFunction", desc := "(II)Z" } : Jvm.MethodName) prog_9_method_9_code (5 : Nat) (Option.some Jvm.ClassFile.FieldType.boolean)) ∈ PWS := pws_mem 558 (by decide +kernel) rfl
theorem qw559 : (Jvm.Cond.methodLinkNest "ReductionFinder$Reader" (90 : Nat) ({ cls := "ReductionFinder", name := "operandsOf", desc := "(I)I" } : Jvm.MethodName) "ReductionFinder") ∈ PWS := pws_mem 559 (by decide +kernel) rfl
theorem qw560 : (Jvm.Cond.static ({ cls := "ReductionFinder", name := "operandsOf", desc := "(I)I" } : Jvm.MethodName)) ∈ PWS := pws_mem 560 (by decide +kernel) rfl
theorem qw561 : (Jvm.Cond.code ({ cls := "ReductionFinder", name := "operandsOf", desc := "(I)I" } : Jvm.MethodName) prog_1_method_45_code (1 : Nat) (Option.some Jvm.ClassFile.FieldType.int)) ∈ PWS := pws_mem 561 (by decide +kernel) rfl
theorem qw562 : (Jvm.Cond.methodLink "ReductionFinder$Reader" (61 : Nat) ({ cls := "ReductionFinder$Reader", name := "codeOf", desc := "(C)I" } : Jvm.MethodName)) ∈ PWS := pws_mem 562 (by decide +kernel) rfl
theorem qw563 : (Jvm.Cond.static ({ cls := "ReductionFinder$Reader", name := "codeOf", desc := "(C)I" } : Jvm.MethodName)) ∈ PWS := pws_mem 563 (by decide +kernel) rfl
theorem qw564 : (Jvm.Cond.code ({ cls := "ReductionFinder$Reader", name := "codeOf", desc := "(C)I" } : Jvm.MethodName) prog_9_method_16_code (1 : Nat) (Option.some Jvm.ClassFile.FieldType.int)) ∈ PWS := pws_mem 564 (by decide +kernel) rfl
theorem qw565 : (Jvm.Cond.methodLink "ReductionFinder$Reader" (65 : Nat) ({ cls := "ReductionFinder$Reader", name := "levelOf", desc := "(I)I" } : Jvm.MethodName)) ∈ PWS := pws_mem 565 (by decide +kernel) rfl
theorem qw566 : (Jvm.Cond.static ({ cls := "ReductionFinder$Reader", name := "levelOf", desc := "(I)I" } : Jvm.MethodName)) ∈ PWS := pws_mem 566 (by decide +kernel) rfl
theorem qw567 : (Jvm.Cond.code ({ cls := "ReductionFinder$Reader", name := "levelOf", desc := "(I)I" } : Jvm.MethodName) prog_9_method_17_code (1 : Nat) (Option.some Jvm.ClassFile.FieldType.int)) ∈ PWS := pws_mem 567 (by decide +kernel) rfl
theorem qw568 : (Jvm.Cond.methodLink "ReductionFinder$Reader" (69 : Nat) ({ cls := "ReductionFinder$Reader", name := "insertCode", desc := "(II)V" } : Jvm.MethodName)) ∈ PWS := pws_mem 568 (by decide +kernel) rfl
theorem qw570 : (Jvm.Cond.instanceMethod ({ cls := "ReductionFinder$Reader", name := "insertCode", desc := "(II)V" } : Jvm.MethodName)) ∈ PWS := pws_mem 570 (by decide +kernel) rfl
theorem qw571 : (Jvm.Cond.code ({ cls := "ReductionFinder$Reader", name := "insertCode", desc := "(II)V" } : Jvm.MethodName) prog_9_method_13_code (3 : Nat) (Option.none : Option Jvm.ClassFile.FieldType)) ∈ PWS := pws_mem 571 (by decide +kernel) rfl
theorem qw572 : (Jvm.Cond.methodLink "ReductionFinder$Reader" (93 : Nat) ({ cls := "java/lang/System", name := "arraycopy", desc := "(Ljava/lang/Object;ILjava/lang/Object;II)V" } : Jvm.MethodName)) ∈ PWS := pws_mem 572 (by decide +kernel) rfl
theorem qw574 : (Jvm.Cond.methodLink "ReductionFinder" (111 : Nat) ({ cls := "ReductionFinder", name := "spareProgram", desc := "()LReductionFinder$Program;" } : Jvm.MethodName)) ∈ PWS := pws_mem 574 (by decide +kernel) rfl
theorem qw576 : (Jvm.Cond.instanceMethod ({ cls := "ReductionFinder", name := "spareProgram", desc := "()LReductionFinder$Program;" } : Jvm.MethodName)) ∈ PWS := pws_mem 576 (by decide +kernel) rfl
theorem qw577 : (Jvm.Cond.code ({ cls := "ReductionFinder", name := "spareProgram", desc := "()LReductionFinder$Program;" } : Jvm.MethodName) prog_1_method_38_code (2 : Nat) (Option.some (Jvm.ClassFile.FieldType.object "ReductionFinder$Program"))) ∈ PWS := pws_mem 577 (by decide +kernel) rfl
theorem qw578 : (Jvm.Cond.methodLinkNest "ReductionFinder" (115 : Nat) ({ cls := "ReductionFinder$Program", name := "build", desc := "(LReductionFinder$Reader;)Z" } : Jvm.MethodName) "ReductionFinder") ∈ PWS := pws_mem 578 (by decide +kernel) rfl
theorem qw580 : (Jvm.Cond.instanceMethod ({ cls := "ReductionFinder$Program", name := "build", desc := "(LReductionFinder$Reader;)Z" } : Jvm.MethodName)) ∈ PWS := pws_mem 580 (by decide +kernel) rfl
theorem qw581 : (Jvm.Cond.code ({ cls := "ReductionFinder$Program", name := "build", desc := "(LReductionFinder$Reader;)Z" } : Jvm.MethodName) prog_8_method_2_code (3 : Nat) (Option.some Jvm.ClassFile.FieldType.boolean)) ∈ PWS := pws_mem 581 (by decide +kernel) rfl
theorem qw582 : (Jvm.Cond.methodLink "ReductionFinder$Program" (68 : Nat) ({ cls := "ReductionFinder$Program", name := "copyStatements", desc := "(LReductionFinder$Reader;)V" } : Jvm.MethodName)) ∈ PWS := pws_mem 582 (by decide +kernel) rfl
theorem qw584 : (Jvm.Cond.instanceMethod ({ cls := "ReductionFinder$Program", name := "copyStatements", desc := "(LReductionFinder$Reader;)V" } : Jvm.MethodName)) ∈ PWS := pws_mem 584 (by decide +kernel) rfl
theorem qw585 : (Jvm.Cond.code ({ cls := "ReductionFinder$Program", name := "copyStatements", desc := "(LReductionFinder$Reader;)V" } : Jvm.MethodName) prog_8_method_3_code (2 : Nat) (Option.none : Option Jvm.ClassFile.FieldType)) ∈ PWS := pws_mem 585 (by decide +kernel) rfl
theorem qw586 : (Jvm.Cond.methodLink "ReductionFinder$Program" (84 : Nat) ({ cls := "java/lang/System", name := "arraycopy", desc := "(Ljava/lang/Object;ILjava/lang/Object;II)V" } : Jvm.MethodName)) ∈ PWS := pws_mem 586 (by decide +kernel) rfl
theorem qw587 : (Jvm.Cond.methodLink "ReductionFinder$Program" (75 : Nat) ({ cls := "ReductionFinder$Program", name := "countOperations", desc := "(I)V" } : Jvm.MethodName)) ∈ PWS := pws_mem 587 (by decide +kernel) rfl
theorem qw589 : (Jvm.Cond.instanceMethod ({ cls := "ReductionFinder$Program", name := "countOperations", desc := "(I)V" } : Jvm.MethodName)) ∈ PWS := pws_mem 589 (by decide +kernel) rfl
theorem qw590 : (Jvm.Cond.code ({ cls := "ReductionFinder$Program", name := "countOperations", desc := "(I)V" } : Jvm.MethodName) prog_8_method_4_code (4 : Nat) (Option.none : Option Jvm.ClassFile.FieldType)) ∈ PWS := pws_mem 590 (by decide +kernel) rfl
theorem qw591 : (Jvm.Cond.methodLinkNest "ReductionFinder$Program" (92 : Nat) ({ cls := "ReductionFinder", name := "operandsOf", desc := "(I)I" } : Jvm.MethodName) "ReductionFinder") ∈ PWS := pws_mem 591 (by decide +kernel) rfl
theorem qw592 : (Jvm.Cond.methodLink "ReductionFinder$Program" (79 : Nat) ({ cls := "ReductionFinder$Program", name := "assign", desc := "(I)Z" } : Jvm.MethodName)) ∈ PWS := pws_mem 592 (by decide +kernel) rfl
theorem qw594 : (Jvm.Cond.instanceMethod ({ cls := "ReductionFinder$Program", name := "assign", desc := "(I)Z" } : Jvm.MethodName)) ∈ PWS := pws_mem 594 (by decide +kernel) rfl
theorem qw595 : (Jvm.Cond.code ({ cls := "ReductionFinder$Program", name := "assign", desc := "(I)Z" } : Jvm.MethodName) prog_8_method_6_code (7 : Nat) (Option.some Jvm.ClassFile.FieldType.boolean)) ∈ PWS := pws_mem 595 (by decide +kernel) rfl
theorem qw596 : (Jvm.Cond.methodLink "ReductionFinder$Program" (96 : Nat) ({ cls := "ReductionFinder$Program", name := "firstCodeOf", desc := "(I)I" } : Jvm.MethodName)) ∈ PWS := pws_mem 596 (by decide +kernel) rfl
theorem qw598 : (Jvm.Cond.instanceMethod ({ cls := "ReductionFinder$Program", name := "firstCodeOf", desc := "(I)I" } : Jvm.MethodName)) ∈ PWS := pws_mem 598 (by decide +kernel) rfl
theorem qw599 : (Jvm.Cond.code ({ cls := "ReductionFinder$Program", name := "firstCodeOf", desc := "(I)I" } : Jvm.MethodName) prog_8_method_5_code (2 : Nat) (Option.some Jvm.ClassFile.FieldType.int)) ∈ PWS := pws_mem 599 (by decide +kernel) rfl
theorem qw600 : (Jvm.Cond.methodLinkNest "ReductionFinder$Program" (99 : Nat) ({ cls := "ReductionFinder", name := "isStart", desc := "(I)Z" } : Jvm.MethodName) "ReductionFinder") ∈ PWS := pws_mem 600 (by decide +kernel) rfl
theorem qw601 : (Jvm.Cond.static ({ cls := "ReductionFinder", name := "isStart", desc := "(I)Z" } : Jvm.MethodName)) ∈ PWS := pws_mem 601 (by decide +kernel) rfl
theorem qw602 : (Jvm.Cond.code ({ cls := "ReductionFinder", name := "isStart", desc := "(I)Z" } : Jvm.MethodName) prog_1_method_44_code (1 : Nat) (Option.some Jvm.ClassFile.FieldType.boolean)) ∈ PWS := pws_mem 602 (by decide +kernel) rfl
theorem qw604 : (Jvm.Cond.methodLinkNest "ReductionFinder" (121 : Nat) ({ cls := "ReductionFinder$Program", name := "classify", desc := "(LReductionFinder$ChainWalk;)V" } : Jvm.MethodName) "ReductionFinder") ∈ PWS := pws_mem 604 (by decide +kernel) rfl
theorem qw606 : (Jvm.Cond.instanceMethod ({ cls := "ReductionFinder$Program", name := "classify", desc := "(LReductionFinder$ChainWalk;)V" } : Jvm.MethodName)) ∈ PWS := pws_mem 606 (by decide +kernel) rfl
theorem qw607 : (Jvm.Cond.code ({ cls := "ReductionFinder$Program", name := "classify", desc := "(LReductionFinder$ChainWalk;)V" } : Jvm.MethodName) prog_8_method_7_code (4 : Nat) (Option.none : Option Jvm.ClassFile.FieldType)) ∈ PWS := pws_mem 607 (by decide +kernel) rfl
theorem qw608 : (Jvm.Cond.methodLink "ReductionFinder$Program" (102 : Nat) ({ cls := "ReductionFinder$Program", name := "maskOf", desc := "(I)I" } : Jvm.MethodName)) ∈ PWS := pws_mem 608 (by decide +kernel) rfl
theorem qw610 : (Jvm.Cond.instanceMethod ({ cls := "ReductionFinder$Program", name := "maskOf", desc := "(I)I" } : Jvm.MethodName)) ∈ PWS := pws_mem 610 (by decide +kernel) rfl
theorem qw611 : (Jvm.Cond.code ({ cls := "ReductionFinder$Program", name := "maskOf", desc := "(I)I" } : Jvm.MethodName) prog_8_method_8_code (5 : Nat) (Option.some Jvm.ClassFile.FieldType.int)) ∈ PWS := pws_mem 611 (by decide +kernel) rfl
theorem qw612 : (Jvm.Cond.methodLink "ReductionFinder$Program" (105 : Nat) ({ cls := "ReductionFinder$Program", name := "kindOf", desc := "(ILReductionFinder$ChainWalk;)I" } : Jvm.MethodName)) ∈ PWS := pws_mem 612 (by decide +kernel) rfl
theorem qw614 : (Jvm.Cond.instanceMethod ({ cls := "ReductionFinder$Program", name := "kindOf", desc := "(ILReductionFinder$ChainWalk;)I" } : Jvm.MethodName)) ∈ PWS := pws_mem 614 (by decide +kernel) rfl
theorem qw615 : (Jvm.Cond.code ({ cls := "ReductionFinder$Program", name := "kindOf", desc := "(ILReductionFinder$ChainWalk;)I" } : Jvm.MethodName) prog_8_method_9_code (5 : Nat) (Option.some Jvm.ClassFile.FieldType.int)) ∈ PWS := pws_mem 615 (by decide +kernel) rfl
theorem qw616 : (Jvm.Cond.methodLink "ReductionFinder$Program" (109 : Nat) ({ cls := "ReductionFinder$Program", name := "occursInOthers", desc := "(I)Z" } : Jvm.MethodName)) ∈ PWS := pws_mem 616 (by decide +kernel) rfl
theorem qw618 : (Jvm.Cond.instanceMethod ({ cls := "ReductionFinder$Program", name := "occursInOthers", desc := "(I)Z" } : Jvm.MethodName)) ∈ PWS := pws_mem 618 (by decide +kernel) rfl
theorem qw619 : (Jvm.Cond.code ({ cls := "ReductionFinder$Program", name := "occursInOthers", desc := "(I)Z" } : Jvm.MethodName) prog_8_method_10_code (3 : Nat) (Option.some Jvm.ClassFile.FieldType.boolean)) ∈ PWS := pws_mem 619 (by decide +kernel) rfl
theorem qw620 : (Jvm.Cond.methodLink "ReductionFinder$Program" (112 : Nat) ({ cls := "ReductionFinder$Program", name := "findChain", desc := "(ILReductionFinder$ChainWalk;)Z" } : Jvm.MethodName)) ∈ PWS := pws_mem 620 (by decide +kernel) rfl
theorem qw622 : (Jvm.Cond.instanceMethod ({ cls := "ReductionFinder$Program", name := "findChain", desc := "(ILReductionFinder$ChainWalk;)Z" } : Jvm.MethodName)) ∈ PWS := pws_mem 622 (by decide +kernel) rfl
theorem qw623 : (Jvm.Cond.code ({ cls := "ReductionFinder$Program", name := "findChain", desc := "(ILReductionFinder$ChainWalk;)Z" } : Jvm.MethodName) prog_8_method_11_code (5 : Nat) (Option.some Jvm.ClassFile.FieldType.boolean)) ∈ PWS := pws_mem 623 (by decide +kernel) rfl
theorem qw624 : (Jvm.Cond.methodLinkNest "ReductionFinder$Program" (116 : Nat) ({ cls := "ReductionFinder$ChainWalk", name := "countTerms", desc := "([IIII)I" } : Jvm.MethodName) "ReductionFinder") ∈ PWS := pws_mem 624 (by decide +kernel) rfl
theorem qw626 : (Jvm.Cond.instanceMethod ({ cls := "ReductionFinder$ChainWalk", name := "countTerms", desc := "([IIII)I" } : Jvm.MethodName)) ∈ PWS := pws_mem 626 (by decide +kernel) rfl
theorem qw627 : (Jvm.Cond.code ({ cls := "ReductionFinder$ChainWalk", name := "countTerms", desc := "([IIII)I" } : Jvm.MethodName) prog_2_method_2_code (5 : Nat) (Option.some Jvm.ClassFile.FieldType.int)) ∈ PWS := pws_mem 627 (by decide +kernel) rfl
theorem qw628 : (Jvm.Cond.methodLink "ReductionFinder$ChainWalk" (22 : Nat) ({ cls := "ReductionFinder$ChainWalk", name := "walk", desc := "([III)V" } : Jvm.MethodName)) ∈ PWS := pws_mem 628 (by decide +kernel) rfl
theorem qw629 : (Jvm.Cond.sameMethod "ReductionFinder$ChainWalk" "ReductionFinder$Walk" "walk" "([III)V") ∈ PWS := pws_mem 629 (by decide +kernel) rfl
theorem qw630 : (Jvm.Cond.declares ({ cls := "ReductionFinder$Walk", name := "walk", desc := "([III)V" } : Jvm.MethodName)) ∈ PWS := pws_mem 630 (by decide +kernel) rfl
theorem qw631 : (Jvm.Cond.selects "ReductionFinder$ChainWalk" ({ cls := "ReductionFinder$ChainWalk", name := "walk", desc := "([III)V" } : Jvm.MethodName) ({ cls := "ReductionFinder$Walk", name := "walk", desc := "([III)V" } : Jvm.MethodName)) ∈ PWS := pws_mem 631 (by decide +kernel) rfl
theorem qw632 : (Jvm.Cond.instanceMethod ({ cls := "ReductionFinder$Walk", name := "walk", desc := "([III)V" } : Jvm.MethodName)) ∈ PWS := pws_mem 632 (by decide +kernel) rfl
theorem qw633 : (Jvm.Cond.code ({ cls := "ReductionFinder$Walk", name := "walk", desc := "([III)V" } : Jvm.MethodName) prog_10_method_5_code (9 : Nat) (Option.none : Option Jvm.ClassFile.FieldType)) ∈ PWS := pws_mem 633 (by decide +kernel) rfl
theorem qw634 : (Jvm.Cond.methodLink "ReductionFinder$Walk" (9 : Nat) ({ cls := "java/lang/Math", name := "min", desc := "(II)I" } : Jvm.MethodName)) ∈ PWS := pws_mem 634 (by decide +kernel) rfl
theorem qw635 : (Jvm.Cond.static ({ cls := "java/lang/Math", name := "min", desc := "(II)I" } : Jvm.MethodName)) ∈ PWS := pws_mem 635 (by decide +kernel) rfl
theorem qw636 : (Jvm.Cond.code ({ cls := "java/lang/Math", name := "min", desc := "(II)I" } : Jvm.MethodName) prog_21_method_69_code (2 : Nat) (Option.some Jvm.ClassFile.FieldType.int)) ∈ PWS := pws_mem 636 (by decide +kernel) rfl
theorem qw637 : (Jvm.Cond.methodLinkNest "ReductionFinder$Walk" (15 : Nat) ({ cls := "ReductionFinder", name := "operandsOf", desc := "(I)I" } : Jvm.MethodName) "ReductionFinder") ∈ PWS := pws_mem 637 (by decide +kernel) rfl
theorem qw638 : (Jvm.Cond.methodLink "ReductionFinder$Walk" (19 : Nat) ({ cls := "ReductionFinder$Walk", name := "putLeaf", desc := "(II)V" } : Jvm.MethodName)) ∈ PWS := pws_mem 638 (by decide +kernel) rfl
theorem qw639 : (Jvm.Cond.declares ({ cls := "ReductionFinder$Walk", name := "putLeaf", desc := "(II)V" } : Jvm.MethodName)) ∈ PWS := pws_mem 639 (by decide +kernel) rfl
theorem qw640 : (Jvm.Cond.sameMethod "ReductionFinder$Walk" "ReductionFinder$Walk" "putLeaf" "(II)V") ∈ PWS := pws_mem 640 (by decide +kernel) rfl
theorem qw641 : (Jvm.Cond.selects "ReductionFinder$ChainWalk" ({ cls := "ReductionFinder$Walk", name := "putLeaf", desc := "(II)V" } : Jvm.MethodName) ({ cls := "ReductionFinder$ChainWalk", name := "putLeaf", desc := "(II)V" } : Jvm.MethodName)) ∈ PWS := pws_mem 641 (by decide +kernel) rfl
theorem qw642 : (Jvm.Cond.instanceMethod ({ cls := "ReductionFinder$ChainWalk", name := "putLeaf", desc := "(II)V" } : Jvm.MethodName)) ∈ PWS := pws_mem 642 (by decide +kernel) rfl
theorem qw643 : (Jvm.Cond.code ({ cls := "ReductionFinder$ChainWalk", name := "putLeaf", desc := "(II)V" } : Jvm.MethodName) prog_2_method_3_code (3 : Nat) (Option.none : Option Jvm.ClassFile.FieldType)) ∈ PWS := pws_mem 643 (by decide +kernel) rfl
theorem qw644 : (Jvm.Cond.selects "ReductionFinder$FloatMachine" ({ cls := "ReductionFinder$Walk", name := "putLeaf", desc := "(II)V" } : Jvm.MethodName) ({ cls := "ReductionFinder$FloatMachine", name := "putLeaf", desc := "(II)V" } : Jvm.MethodName)) ∈ PWS := pws_mem 644 (by decide +kernel) rfl
theorem qw645 : (Jvm.Cond.instanceMethod ({ cls := "ReductionFinder$FloatMachine", name := "putLeaf", desc := "(II)V" } : Jvm.MethodName)) ∈ PWS := pws_mem 645 (by decide +kernel) rfl
theorem qw646 : (Jvm.Cond.code ({ cls := "ReductionFinder$FloatMachine", name := "putLeaf", desc := "(II)V" } : Jvm.MethodName) prog_4_method_2_code (3 : Nat) (Option.none : Option Jvm.ClassFile.FieldType)) ∈ PWS := pws_mem 646 (by decide +kernel) rfl
theorem qw647 : (Jvm.Cond.methodLinkNest "ReductionFinder$FloatMachine" (20 : Nat) ({ cls := "ReductionFinder", name := "isStart", desc := "(I)Z" } : Jvm.MethodName) "ReductionFinder") ∈ PWS := pws_mem 647 (by decide +kernel) rfl
theorem qw648 : (Jvm.Cond.methodLink "ReductionFinder$FloatMachine" (24 : Nat) ({ cls := "ReductionFinder$FloatMachine", name := "rowNow", desc := "()I" } : Jvm.MethodName)) ∈ PWS := pws_mem 648 (by decide +kernel) rfl
theorem qw649 : (Jvm.Cond.sameMethod "ReductionFinder$FloatMachine" "ReductionFinder$Machine" "rowNow" "()I") ∈ PWS := pws_mem 649 (by decide +kernel) rfl
theorem qw650 : (Jvm.Cond.declares ({ cls := "ReductionFinder$Machine", name := "rowNow", desc := "()I" } : Jvm.MethodName)) ∈ PWS := pws_mem 650 (by decide +kernel) rfl
theorem qw651 : (Jvm.Cond.selects "ReductionFinder$FloatMachine" ({ cls := "ReductionFinder$FloatMachine", name := "rowNow", desc := "()I" } : Jvm.MethodName) ({ cls := "ReductionFinder$Machine", name := "rowNow", desc := "()I" } : Jvm.MethodName)) ∈ PWS := pws_mem 651 (by decide +kernel) rfl
theorem qw652 : (Jvm.Cond.instanceMethod ({ cls := "ReductionFinder$Machine", name := "rowNow", desc := "()I" } : Jvm.MethodName)) ∈ PWS := pws_mem 652 (by decide +kernel) rfl
theorem qw653 : (Jvm.Cond.code ({ cls := "ReductionFinder$Machine", name := "rowNow", desc := "()I" } : Jvm.MethodName) prog_7_method_8_code (1 : Nat) (Option.some Jvm.ClassFile.FieldType.int)) ∈ PWS := pws_mem 653 (by decide +kernel) rfl
theorem qw654 : (Jvm.Cond.methodLink "ReductionFinder$FloatMachine" (28 : Nat) ({ cls := "ReductionFinder$FloatMachine", name := "constantOf", desc := "(I)I" } : Jvm.MethodName)) ∈ PWS := pws_mem 654 (by decide +kernel) rfl
theorem qw655 : (Jvm.Cond.sameMethod "ReductionFinder$FloatMachine" "ReductionFinder$Machine" "constantOf" "(I)I") ∈ PWS := pws_mem 655 (by decide +kernel) rfl
theorem qw656 : (Jvm.Cond.declares ({ cls := "ReductionFinder$Machine", name := "constantOf", desc := "(I)I" } : Jvm.MethodName)) ∈ PWS := pws_mem 656 (by decide +kernel) rfl
theorem qw657 : (Jvm.Cond.selects "ReductionFinder$FloatMachine" ({ cls := "ReductionFinder$FloatMachine", name := "constantOf", desc := "(I)I" } : Jvm.MethodName) ({ cls := "ReductionFinder$Machine", name := "constantOf", desc := "(I)I" } : Jvm.MethodName)) ∈ PWS := pws_mem 657 (by decide +kernel) rfl
theorem qw658 : (Jvm.Cond.instanceMethod ({ cls := "ReductionFinder$Machine", name := "constantOf", desc := "(I)I" } : Jvm.MethodName)) ∈ PWS := pws_mem 658 (by decide +kernel) rfl
theorem qw659 : (Jvm.Cond.code ({ cls := "ReductionFinder$Machine", name := "constantOf", desc := "(I)I" } : Jvm.MethodName) prog_7_method_9_code (3 : Nat) (Option.some Jvm.ClassFile.FieldType.int)) ∈ PWS := pws_mem 659 (by decide +kernel) rfl
theorem qw660 : (Jvm.Cond.selects "ReductionFinder$HeightWalk" ({ cls := "ReductionFinder$Walk", name := "putLeaf", desc := "(II)V" } : Jvm.MethodName) ({ cls := "ReductionFinder$HeightWalk", name := "putLeaf", desc := "(II)V" } : Jvm.MethodName)) ∈ PWS := pws_mem 660 (by decide +kernel) rfl
theorem qw661 : (Jvm.Cond.instanceMethod ({ cls := "ReductionFinder$HeightWalk", name := "putLeaf", desc := "(II)V" } : Jvm.MethodName)) ∈ PWS := pws_mem 661 (by decide +kernel) rfl
theorem qw662 : (Jvm.Cond.code ({ cls := "ReductionFinder$HeightWalk", name := "putLeaf", desc := "(II)V" } : Jvm.MethodName) prog_5_method_3_code (3 : Nat) (Option.none : Option Jvm.ClassFile.FieldType)) ∈ PWS := pws_mem 662 (by decide +kernel) rfl
theorem qw663 : (Jvm.Cond.selects "ReductionFinder$IntMachine" ({ cls := "ReductionFinder$Walk", name := "putLeaf", desc := "(II)V" } : Jvm.MethodName) ({ cls := "ReductionFinder$IntMachine", name := "putLeaf", desc := "(II)V" } : Jvm.MethodName)) ∈ PWS := pws_mem 663 (by decide +kernel) rfl
theorem qw664 : (Jvm.Cond.instanceMethod ({ cls := "ReductionFinder$IntMachine", name := "putLeaf", desc := "(II)V" } : Jvm.MethodName)) ∈ PWS := pws_mem 664 (by decide +kernel) rfl
theorem qw665 : (Jvm.Cond.code ({ cls := "ReductionFinder$IntMachine", name := "putLeaf", desc := "(II)V" } : Jvm.MethodName) prog_6_method_2_code (3 : Nat) (Option.none : Option Jvm.ClassFile.FieldType)) ∈ PWS := pws_mem 665 (by decide +kernel) rfl
theorem qw666 : (Jvm.Cond.methodLinkNest "ReductionFinder$IntMachine" (20 : Nat) ({ cls := "ReductionFinder", name := "isStart", desc := "(I)Z" } : Jvm.MethodName) "ReductionFinder") ∈ PWS := pws_mem 666 (by decide +kernel) rfl
theorem qw667 : (Jvm.Cond.methodLink "ReductionFinder$IntMachine" (24 : Nat) ({ cls := "ReductionFinder$IntMachine", name := "rowNow", desc := "()I" } : Jvm.MethodName)) ∈ PWS := pws_mem 667 (by decide +kernel) rfl
theorem qw668 : (Jvm.Cond.sameMethod "ReductionFinder$IntMachine" "ReductionFinder$Machine" "rowNow" "()I") ∈ PWS := pws_mem 668 (by decide +kernel) rfl
theorem qw669 : (Jvm.Cond.selects "ReductionFinder$IntMachine" ({ cls := "ReductionFinder$IntMachine", name := "rowNow", desc := "()I" } : Jvm.MethodName) ({ cls := "ReductionFinder$Machine", name := "rowNow", desc := "()I" } : Jvm.MethodName)) ∈ PWS := pws_mem 669 (by decide +kernel) rfl
theorem qw670 : (Jvm.Cond.methodLink "ReductionFinder$IntMachine" (28 : Nat) ({ cls := "ReductionFinder$IntMachine", name := "constantOf", desc := "(I)I" } : Jvm.MethodName)) ∈ PWS := pws_mem 670 (by decide +kernel) rfl
theorem qw671 : (Jvm.Cond.sameMethod "ReductionFinder$IntMachine" "ReductionFinder$Machine" "constantOf" "(I)I") ∈ PWS := pws_mem 671 (by decide +kernel) rfl
theorem qw672 : (Jvm.Cond.selects "ReductionFinder$IntMachine" ({ cls := "ReductionFinder$IntMachine", name := "constantOf", desc := "(I)I" } : Jvm.MethodName) ({ cls := "ReductionFinder$Machine", name := "constantOf", desc := "(I)I" } : Jvm.MethodName)) ∈ PWS := pws_mem 672 (by decide +kernel) rfl
theorem qw673 : (Jvm.Cond.methodLink "ReductionFinder$Walk" (25 : Nat) ({ cls := "ReductionFinder$Walk", name := "joinPair", desc := "(II)V" } : Jvm.MethodName)) ∈ PWS := pws_mem 673 (by decide +kernel) rfl
theorem qw674 : (Jvm.Cond.declares ({ cls := "ReductionFinder$Walk", name := "joinPair", desc := "(II)V" } : Jvm.MethodName)) ∈ PWS := pws_mem 674 (by decide +kernel) rfl
theorem qw675 : (Jvm.Cond.sameMethod "ReductionFinder$Walk" "ReductionFinder$Walk" "joinPair" "(II)V") ∈ PWS := pws_mem 675 (by decide +kernel) rfl
theorem qw676 : (Jvm.Cond.selects "ReductionFinder$ChainWalk" ({ cls := "ReductionFinder$Walk", name := "joinPair", desc := "(II)V" } : Jvm.MethodName) ({ cls := "ReductionFinder$ChainWalk", name := "joinPair", desc := "(II)V" } : Jvm.MethodName)) ∈ PWS := pws_mem 676 (by decide +kernel) rfl
theorem qw677 : (Jvm.Cond.instanceMethod ({ cls := "ReductionFinder$ChainWalk", name := "joinPair", desc := "(II)V" } : Jvm.MethodName)) ∈ PWS := pws_mem 677 (by decide +kernel) rfl
theorem qw678 : (Jvm.Cond.code ({ cls := "ReductionFinder$ChainWalk", name := "joinPair", desc := "(II)V" } : Jvm.MethodName) prog_2_method_4_code (6 : Nat) (Option.none : Option Jvm.ClassFile.FieldType)) ∈ PWS := pws_mem 678 (by decide +kernel) rfl
theorem qw679 : (Jvm.Cond.selects "ReductionFinder$FloatMachine" ({ cls := "ReductionFinder$Walk", name := "joinPair", desc := "(II)V" } : Jvm.MethodName) ({ cls := "ReductionFinder$FloatMachine", name := "joinPair", desc := "(II)V" } : Jvm.MethodName)) ∈ PWS := pws_mem 679 (by decide +kernel) rfl
theorem qw680 : (Jvm.Cond.instanceMethod ({ cls := "ReductionFinder$FloatMachine", name := "joinPair", desc := "(II)V" } : Jvm.MethodName)) ∈ PWS := pws_mem 680 (by decide +kernel) rfl
theorem qw681 : (Jvm.Cond.code ({ cls := "ReductionFinder$FloatMachine", name := "joinPair", desc := "(II)V" } : Jvm.MethodName) prog_4_method_3_code (3 : Nat) (Option.none : Option Jvm.ClassFile.FieldType)) ∈ PWS := pws_mem 681 (by decide +kernel) rfl
theorem qw682 : (Jvm.Cond.methodLink "ReductionFinder$FloatMachine" (32 : Nat) ({ cls := "ReductionFinder$FloatMachine", name := "calculate", desc := "(IFF)F" } : Jvm.MethodName)) ∈ PWS := pws_mem 682 (by decide +kernel) rfl
theorem qw683 : (Jvm.Cond.static ({ cls := "ReductionFinder$FloatMachine", name := "calculate", desc := "(IFF)F" } : Jvm.MethodName)) ∈ PWS := pws_mem 683 (by decide +kernel) rfl
theorem qw684 : (Jvm.Cond.code ({ cls := "ReductionFinder$FloatMachine", name := "calculate", desc := "(IFF)F" } : Jvm.MethodName) prog_4_method_12_code (4 : Nat) (Option.some Jvm.ClassFile.FieldType.float)) ∈ PWS := pws_mem 684 (by decide +kernel) rfl
theorem qw685 : (Jvm.Cond.constantFloat "ReductionFinder$FloatMachine" (40 : Nat) (1900671690 : UInt32)) ∈ PWS := pws_mem 685 (by decide +kernel) rfl
theorem qw686 : (Jvm.Cond.constantFloat "ReductionFinder$FloatMachine" (41 : Nat) (4048155338 : UInt32)) ∈ PWS := pws_mem 686 (by decide +kernel) rfl
theorem qw687 : (Jvm.Cond.selects "ReductionFinder$HeightWalk" ({ cls := "ReductionFinder$Walk", name := "joinPair", desc := "(II)V" } : Jvm.MethodName) ({ cls := "ReductionFinder$HeightWalk", name := "joinPair", desc := "(II)V" } : Jvm.MethodName)) ∈ PWS := pws_mem 687 (by decide +kernel) rfl
theorem qw688 : (Jvm.Cond.instanceMethod ({ cls := "ReductionFinder$HeightWalk", name := "joinPair", desc := "(II)V" } : Jvm.MethodName)) ∈ PWS := pws_mem 688 (by decide +kernel) rfl
theorem qw689 : (Jvm.Cond.code ({ cls := "ReductionFinder$HeightWalk", name := "joinPair", desc := "(II)V" } : Jvm.MethodName) prog_5_method_4_code (3 : Nat) (Option.none : Option Jvm.ClassFile.FieldType)) ∈ PWS := pws_mem 689 (by decide +kernel) rfl
theorem qw690 : (Jvm.Cond.methodLink "ReductionFinder$HeightWalk" (19 : Nat) ({ cls := "java/lang/Math", name := "max", desc := "(II)I" } : Jvm.MethodName)) ∈ PWS := pws_mem 690 (by decide +kernel) rfl
theorem qw691 : (Jvm.Cond.static ({ cls := "java/lang/Math", name := "max", desc := "(II)I" } : Jvm.MethodName)) ∈ PWS := pws_mem 691 (by decide +kernel) rfl
theorem qw692 : (Jvm.Cond.code ({ cls := "java/lang/Math", name := "max", desc := "(II)I" } : Jvm.MethodName) prog_21_method_65_code (2 : Nat) (Option.some Jvm.ClassFile.FieldType.int)) ∈ PWS := pws_mem 692 (by decide +kernel) rfl
theorem qw693 : (Jvm.Cond.selects "ReductionFinder$IntMachine" ({ cls := "ReductionFinder$Walk", name := "joinPair", desc := "(II)V" } : Jvm.MethodName) ({ cls := "ReductionFinder$IntMachine", name := "joinPair", desc := "(II)V" } : Jvm.MethodName)) ∈ PWS := pws_mem 693 (by decide +kernel) rfl
theorem qw694 : (Jvm.Cond.instanceMethod ({ cls := "ReductionFinder$IntMachine", name := "joinPair", desc := "(II)V" } : Jvm.MethodName)) ∈ PWS := pws_mem 694 (by decide +kernel) rfl
theorem qw695 : (Jvm.Cond.code ({ cls := "ReductionFinder$IntMachine", name := "joinPair", desc := "(II)V" } : Jvm.MethodName) prog_6_method_3_code (3 : Nat) (Option.none : Option Jvm.ClassFile.FieldType)) ∈ PWS := pws_mem 695 (by decide +kernel) rfl
theorem qw696 : (Jvm.Cond.methodLink "ReductionFinder$IntMachine" (32 : Nat) ({ cls := "ReductionFinder$IntMachine", name := "calculate", desc := "(III)I" } : Jvm.MethodName)) ∈ PWS := pws_mem 696 (by decide +kernel) rfl
theorem qw697 : (Jvm.Cond.static ({ cls := "ReductionFinder$IntMachine", name := "calculate", desc := "(III)I" } : Jvm.MethodName)) ∈ PWS := pws_mem 697 (by decide +kernel) rfl
theorem qw698 : (Jvm.Cond.code ({ cls := "ReductionFinder$IntMachine", name := "calculate", desc := "(III)I" } : Jvm.MethodName) prog_6_method_12_code (3 : Nat) (Option.some Jvm.ClassFile.FieldType.int)) ∈ PWS := pws_mem 698 (by decide +kernel) rfl
theorem qw699 : (Jvm.Cond.methodLink "ReductionFinder$IntMachine" (41 : Nat) ({ cls := "java/lang/Math", name := "min", desc := "(II)I" } : Jvm.MethodName)) ∈ PWS := pws_mem 699 (by decide +kernel) rfl
theorem qw700 : (Jvm.Cond.methodLink "ReductionFinder$IntMachine" (47 : Nat) ({ cls := "java/lang/Math", name := "max", desc := "(II)I" } : Jvm.MethodName)) ∈ PWS := pws_mem 700 (by decide +kernel) rfl
theorem qw701 : (Jvm.Cond.methodLink "ReductionFinder$Walk" (28 : Nat) ({ cls := "ReductionFinder$Walk", name := "joinChoice", desc := "(I)V" } : Jvm.MethodName)) ∈ PWS := pws_mem 701 (by decide +kernel) rfl
theorem qw702 : (Jvm.Cond.declares ({ cls := "ReductionFinder$Walk", name := "joinChoice", desc := "(I)V" } : Jvm.MethodName)) ∈ PWS := pws_mem 702 (by decide +kernel) rfl
theorem qw703 : (Jvm.Cond.sameMethod "ReductionFinder$Walk" "ReductionFinder$Walk" "joinChoice" "(I)V") ∈ PWS := pws_mem 703 (by decide +kernel) rfl
theorem qw704 : (Jvm.Cond.selects "ReductionFinder$ChainWalk" ({ cls := "ReductionFinder$Walk", name := "joinChoice", desc := "(I)V" } : Jvm.MethodName) ({ cls := "ReductionFinder$ChainWalk", name := "joinChoice", desc := "(I)V" } : Jvm.MethodName)) ∈ PWS := pws_mem 704 (by decide +kernel) rfl
theorem qw705 : (Jvm.Cond.instanceMethod ({ cls := "ReductionFinder$ChainWalk", name := "joinChoice", desc := "(I)V" } : Jvm.MethodName)) ∈ PWS := pws_mem 705 (by decide +kernel) rfl
theorem qw706 : (Jvm.Cond.code ({ cls := "ReductionFinder$ChainWalk", name := "joinChoice", desc := "(I)V" } : Jvm.MethodName) prog_2_method_5_code (5 : Nat) (Option.none : Option Jvm.ClassFile.FieldType)) ∈ PWS := pws_mem 706 (by decide +kernel) rfl
theorem qw707 : (Jvm.Cond.selects "ReductionFinder$FloatMachine" ({ cls := "ReductionFinder$Walk", name := "joinChoice", desc := "(I)V" } : Jvm.MethodName) ({ cls := "ReductionFinder$FloatMachine", name := "joinChoice", desc := "(I)V" } : Jvm.MethodName)) ∈ PWS := pws_mem 707 (by decide +kernel) rfl
theorem qw708 : (Jvm.Cond.instanceMethod ({ cls := "ReductionFinder$FloatMachine", name := "joinChoice", desc := "(I)V" } : Jvm.MethodName)) ∈ PWS := pws_mem 708 (by decide +kernel) rfl
theorem qw709 : (Jvm.Cond.code ({ cls := "ReductionFinder$FloatMachine", name := "joinChoice", desc := "(I)V" } : Jvm.MethodName) prog_4_method_4_code (2 : Nat) (Option.none : Option Jvm.ClassFile.FieldType)) ∈ PWS := pws_mem 709 (by decide +kernel) rfl
theorem qw710 : (Jvm.Cond.selects "ReductionFinder$HeightWalk" ({ cls := "ReductionFinder$Walk", name := "joinChoice", desc := "(I)V" } : Jvm.MethodName) ({ cls := "ReductionFinder$HeightWalk", name := "joinChoice", desc := "(I)V" } : Jvm.MethodName)) ∈ PWS := pws_mem 710 (by decide +kernel) rfl
theorem qw711 : (Jvm.Cond.instanceMethod ({ cls := "ReductionFinder$HeightWalk", name := "joinChoice", desc := "(I)V" } : Jvm.MethodName)) ∈ PWS := pws_mem 711 (by decide +kernel) rfl
theorem qw712 : (Jvm.Cond.code ({ cls := "ReductionFinder$HeightWalk", name := "joinChoice", desc := "(I)V" } : Jvm.MethodName) prog_5_method_5_code (2 : Nat) (Option.none : Option Jvm.ClassFile.FieldType)) ∈ PWS := pws_mem 712 (by decide +kernel) rfl
theorem qw713 : (Jvm.Cond.selects "ReductionFinder$IntMachine" ({ cls := "ReductionFinder$Walk", name := "joinChoice", desc := "(I)V" } : Jvm.MethodName) ({ cls := "ReductionFinder$IntMachine", name := "joinChoice", desc := "(I)V" } : Jvm.MethodName)) ∈ PWS := pws_mem 713 (by decide +kernel) rfl
theorem qw714 : (Jvm.Cond.instanceMethod ({ cls := "ReductionFinder$IntMachine", name := "joinChoice", desc := "(I)V" } : Jvm.MethodName)) ∈ PWS := pws_mem 714 (by decide +kernel) rfl
theorem qw715 : (Jvm.Cond.code ({ cls := "ReductionFinder$IntMachine", name := "joinChoice", desc := "(I)V" } : Jvm.MethodName) prog_6_method_4_code (2 : Nat) (Option.none : Option Jvm.ClassFile.FieldType)) ∈ PWS := pws_mem 715 (by decide +kernel) rfl
theorem qw716 : (Jvm.Cond.methodLink "ReductionFinder" (125 : Nat) ({ cls := "ReductionFinder", name := "switchTo", desc := "(LReductionFinder$Program;)V" } : Jvm.MethodName)) ∈ PWS := pws_mem 716 (by decide +kernel) rfl
theorem qw718 : (Jvm.Cond.instanceMethod ({ cls := "ReductionFinder", name := "switchTo", desc := "(LReductionFinder$Program;)V" } : Jvm.MethodName)) ∈ PWS := pws_mem 718 (by decide +kernel) rfl
theorem qw719 : (Jvm.Cond.code ({ cls := "ReductionFinder", name := "switchTo", desc := "(LReductionFinder$Program;)V" } : Jvm.MethodName) prog_1_method_39_code (2 : Nat) (Option.none : Option Jvm.ClassFile.FieldType)) ∈ PWS := pws_mem 719 (by decide +kernel) rfl
theorem qw744 : (Jvm.Cond.methodLink "ReductionFinder" (142 : Nat) ({ cls := "ReductionFinder", name := "checkElement", desc := "(II)V" } : Jvm.MethodName)) ∈ PWS := pws_mem 744 (by decide +kernel) rfl
theorem qw745 : (Jvm.Cond.static ({ cls := "ReductionFinder", name := "checkElement", desc := "(II)V" } : Jvm.MethodName)) ∈ PWS := pws_mem 745 (by decide +kernel) rfl
theorem qw746 : (Jvm.Cond.code ({ cls := "ReductionFinder", name := "checkElement", desc := "(II)V" } : Jvm.MethodName) prog_1_method_32_code (2 : Nat) (Option.none : Option Jvm.ClassFile.FieldType)) ∈ PWS := pws_mem 746 (by decide +kernel) rfl
theorem qw771 : (Jvm.Cond.constant "ReductionFinder" (152 : Nat) (1664525 : Int32)) ∈ PWS := pws_mem 771 (by decide +kernel) rfl
theorem qw772 : (Jvm.Cond.constant "ReductionFinder" (153 : Nat) (1013904223 : Int32)) ∈ PWS := pws_mem 772 (by decide +kernel) rfl
theorem qw787 : (Jvm.Cond.methodLink "ReductionFinder" (154 : Nat) ({ cls := "ReductionFinder", name := "checkVariable", desc := "(I)V" } : Jvm.MethodName)) ∈ PWS := pws_mem 787 (by decide +kernel) rfl
theorem qw788 : (Jvm.Cond.static ({ cls := "ReductionFinder", name := "checkVariable", desc := "(I)V" } : Jvm.MethodName)) ∈ PWS := pws_mem 788 (by decide +kernel) rfl
theorem qw789 : (Jvm.Cond.code ({ cls := "ReductionFinder", name := "checkVariable", desc := "(I)V" } : Jvm.MethodName) prog_1_method_31_code (1 : Nat) (Option.none : Option Jvm.ClassFile.FieldType)) ∈ PWS := pws_mem 789 (by decide +kernel) rfl
theorem qw806 : (Jvm.Cond.methodLink "ReductionFinder" (165 : Nat) ({ cls := "ReductionFinder", name := "checkChain", desc := "(I)V" } : Jvm.MethodName)) ∈ PWS := pws_mem 806 (by decide +kernel) rfl
theorem qw808 : (Jvm.Cond.instanceMethod ({ cls := "ReductionFinder", name := "checkChain", desc := "(I)V" } : Jvm.MethodName)) ∈ PWS := pws_mem 808 (by decide +kernel) rfl
theorem qw809 : (Jvm.Cond.code ({ cls := "ReductionFinder", name := "checkChain", desc := "(I)V" } : Jvm.MethodName) prog_1_method_33_code (3 : Nat) (Option.none : Option Jvm.ClassFile.FieldType)) ∈ PWS := pws_mem 809 (by decide +kernel) rfl
theorem qw854 : (Jvm.Cond.methodLinkNest "ReductionFinder" (183 : Nat) ({ cls := "ReductionFinder$HeightWalk", name := "heightOf", desc := "([II)I" } : Jvm.MethodName) "ReductionFinder") ∈ PWS := pws_mem 854 (by decide +kernel) rfl
theorem qw856 : (Jvm.Cond.instanceMethod ({ cls := "ReductionFinder$HeightWalk", name := "heightOf", desc := "([II)I" } : Jvm.MethodName)) ∈ PWS := pws_mem 856 (by decide +kernel) rfl
theorem qw857 : (Jvm.Cond.code ({ cls := "ReductionFinder$HeightWalk", name := "heightOf", desc := "([II)I" } : Jvm.MethodName) prog_5_method_2_code (3 : Nat) (Option.some Jvm.ClassFile.FieldType.int)) ∈ PWS := pws_mem 857 (by decide +kernel) rfl
theorem qw858 : (Jvm.Cond.methodLink "ReductionFinder$HeightWalk" (15 : Nat) ({ cls := "ReductionFinder$HeightWalk", name := "walk", desc := "([III)V" } : Jvm.MethodName)) ∈ PWS := pws_mem 858 (by decide +kernel) rfl
theorem qw859 : (Jvm.Cond.sameMethod "ReductionFinder$HeightWalk" "ReductionFinder$Walk" "walk" "([III)V") ∈ PWS := pws_mem 859 (by decide +kernel) rfl
theorem qw860 : (Jvm.Cond.selects "ReductionFinder$HeightWalk" ({ cls := "ReductionFinder$HeightWalk", name := "walk", desc := "([III)V" } : Jvm.MethodName) ({ cls := "ReductionFinder$Walk", name := "walk", desc := "([III)V" } : Jvm.MethodName)) ∈ PWS := pws_mem 860 (by decide +kernel) rfl
theorem qw875 : (Jvm.Cond.methodLink "ReductionFinder" (187 : Nat) ({ cls := "ReductionFinder", name := "checkCursor", desc := "()V" } : Jvm.MethodName)) ∈ PWS := pws_mem 875 (by decide +kernel) rfl
theorem qw877 : (Jvm.Cond.instanceMethod ({ cls := "ReductionFinder", name := "checkCursor", desc := "()V" } : Jvm.MethodName)) ∈ PWS := pws_mem 877 (by decide +kernel) rfl
theorem qw878 : (Jvm.Cond.code ({ cls := "ReductionFinder", name := "checkCursor", desc := "()V" } : Jvm.MethodName) prog_1_method_34_code (1 : Nat) (Option.none : Option Jvm.ClassFile.FieldType)) ∈ PWS := pws_mem 878 (by decide +kernel) rfl
theorem qw918 : (Jvm.Cond.methodLink "ReductionFinder" (199 : Nat) ({ cls := "ReductionFinder", name := "checkOrder", desc := "(II)V" } : Jvm.MethodName)) ∈ PWS := pws_mem 918 (by decide +kernel) rfl
theorem qw919 : (Jvm.Cond.static ({ cls := "ReductionFinder", name := "checkOrder", desc := "(II)V" } : Jvm.MethodName)) ∈ PWS := pws_mem 919 (by decide +kernel) rfl
theorem qw920 : (Jvm.Cond.code ({ cls := "ReductionFinder", name := "checkOrder", desc := "(II)V" } : Jvm.MethodName) prog_1_method_35_code (2 : Nat) (Option.none : Option Jvm.ClassFile.FieldType)) ∈ PWS := pws_mem 920 (by decide +kernel) rfl
theorem qw923 : (Jvm.Cond.methodLink "ReductionFinder" (202 : Nat) ({ cls := "ReductionFinder", name := "checkOperators", desc := "()V" } : Jvm.MethodName)) ∈ PWS := pws_mem 923 (by decide +kernel) rfl
theorem qw925 : (Jvm.Cond.instanceMethod ({ cls := "ReductionFinder", name := "checkOperators", desc := "()V" } : Jvm.MethodName)) ∈ PWS := pws_mem 925 (by decide +kernel) rfl
theorem qw926 : (Jvm.Cond.code ({ cls := "ReductionFinder", name := "checkOperators", desc := "()V" } : Jvm.MethodName) prog_1_method_36_code (1 : Nat) (Option.none : Option Jvm.ClassFile.FieldType)) ∈ PWS := pws_mem 926 (by decide +kernel) rfl
theorem qw928 : (Jvm.Cond.methodLink "ReductionFinder" (205 : Nat) ({ cls := "ReductionFinder", name := "checkParallel", desc := "(I)V" } : Jvm.MethodName)) ∈ PWS := pws_mem 928 (by decide +kernel) rfl
theorem qw930 : (Jvm.Cond.instanceMethod ({ cls := "ReductionFinder", name := "checkParallel", desc := "(I)V" } : Jvm.MethodName)) ∈ PWS := pws_mem 930 (by decide +kernel) rfl
theorem qw931 : (Jvm.Cond.code ({ cls := "ReductionFinder", name := "checkParallel", desc := "(I)V" } : Jvm.MethodName) prog_1_method_37_code (2 : Nat) (Option.none : Option Jvm.ClassFile.FieldType)) ∈ PWS := pws_mem 931 (by decide +kernel) rfl
theorem qw933 : (Jvm.Cond.methodLink "ReductionFinder" (208 : Nat) ({ cls := "ReductionFinder", name := "machineOfMode", desc := "()LReductionFinder$Machine;" } : Jvm.MethodName)) ∈ PWS := pws_mem 933 (by decide +kernel) rfl
theorem qw935 : (Jvm.Cond.instanceMethod ({ cls := "ReductionFinder", name := "machineOfMode", desc := "()LReductionFinder$Machine;" } : Jvm.MethodName)) ∈ PWS := pws_mem 935 (by decide +kernel) rfl
theorem qw936 : (Jvm.Cond.code ({ cls := "ReductionFinder", name := "machineOfMode", desc := "()LReductionFinder$Machine;" } : Jvm.MethodName) prog_1_method_40_code (1 : Nat) (Option.some (Jvm.ClassFile.FieldType.object "ReductionFinder$Machine"))) ∈ PWS := pws_mem 936 (by decide +kernel) rfl
theorem qw937 : (Jvm.Cond.methodLinkNest "ReductionFinder" (212 : Nat) ({ cls := "ReductionFinder$Machine", name := "runOrder", desc := "(LReductionFinder$Program;II)V" } : Jvm.MethodName) "ReductionFinder") ∈ PWS := pws_mem 937 (by decide +kernel) rfl
theorem qw938 : (Jvm.Cond.privateMethod ({ cls := "ReductionFinder$Machine", name := "runOrder", desc := "(LReductionFinder$Program;II)V" } : Jvm.MethodName)) ∈ PWS := pws_mem 938 (by decide +kernel) rfl
theorem qw939 : (Jvm.Cond.instanceMethod ({ cls := "ReductionFinder$Machine", name := "runOrder", desc := "(LReductionFinder$Program;II)V" } : Jvm.MethodName)) ∈ PWS := pws_mem 939 (by decide +kernel) rfl
theorem qw940 : (Jvm.Cond.code ({ cls := "ReductionFinder$Machine", name := "runOrder", desc := "(LReductionFinder$Program;II)V" } : Jvm.MethodName) prog_7_method_11_code (6 : Nat) (Option.none : Option Jvm.ClassFile.FieldType)) ∈ PWS := pws_mem 940 (by decide +kernel) rfl
theorem qw941 : (Jvm.Cond.methodLink "ReductionFinder$Machine" (39 : Nat) ({ cls := "ReductionFinder$Machine", name := "runSequence", desc := "(LReductionFinder$Program;I)V" } : Jvm.MethodName)) ∈ PWS := pws_mem 941 (by decide +kernel) rfl
theorem qw942 : (Jvm.Cond.privateMethod ({ cls := "ReductionFinder$Machine", name := "runSequence", desc := "(LReductionFinder$Program;I)V" } : Jvm.MethodName)) ∈ PWS := pws_mem 942 (by decide +kernel) rfl
theorem qw943 : (Jvm.Cond.instanceMethod ({ cls := "ReductionFinder$Machine", name := "runSequence", desc := "(LReductionFinder$Program;I)V" } : Jvm.MethodName)) ∈ PWS := pws_mem 943 (by decide +kernel) rfl
theorem qw944 : (Jvm.Cond.code ({ cls := "ReductionFinder$Machine", name := "runSequence", desc := "(LReductionFinder$Program;I)V" } : Jvm.MethodName) prog_7_method_12_code (4 : Nat) (Option.none : Option Jvm.ClassFile.FieldType)) ∈ PWS := pws_mem 944 (by decide +kernel) rfl
theorem qw945 : (Jvm.Cond.methodLink "ReductionFinder$Machine" (53 : Nat) ({ cls := "ReductionFinder$Machine", name := "beginRow", desc := "(I)V" } : Jvm.MethodName)) ∈ PWS := pws_mem 945 (by decide +kernel) rfl
theorem qw946 : (Jvm.Cond.privateMethod ({ cls := "ReductionFinder$Machine", name := "beginRow", desc := "(I)V" } : Jvm.MethodName)) ∈ PWS := pws_mem 946 (by decide +kernel) rfl
theorem qw947 : (Jvm.Cond.instanceMethod ({ cls := "ReductionFinder$Machine", name := "beginRow", desc := "(I)V" } : Jvm.MethodName)) ∈ PWS := pws_mem 947 (by decide +kernel) rfl
theorem qw948 : (Jvm.Cond.code ({ cls := "ReductionFinder$Machine", name := "beginRow", desc := "(I)V" } : Jvm.MethodName) prog_7_method_18_code (3 : Nat) (Option.none : Option Jvm.ClassFile.FieldType)) ∈ PWS := pws_mem 948 (by decide +kernel) rfl
theorem qw949 : (Jvm.Cond.methodLink "ReductionFinder$Machine" (91 : Nat) ({ cls := "ReductionFinder$Machine", name := "setInitialValue", desc := "(III)V" } : Jvm.MethodName)) ∈ PWS := pws_mem 949 (by decide +kernel) rfl
theorem qw950 : (Jvm.Cond.declares ({ cls := "ReductionFinder$Machine", name := "setInitialValue", desc := "(III)V" } : Jvm.MethodName)) ∈ PWS := pws_mem 950 (by decide +kernel) rfl
theorem qw951 : (Jvm.Cond.sameMethod "ReductionFinder$Machine" "ReductionFinder$Machine" "setInitialValue" "(III)V") ∈ PWS := pws_mem 951 (by decide +kernel) rfl
theorem qw952 : (Jvm.Cond.selects "ReductionFinder$FloatMachine" ({ cls := "ReductionFinder$Machine", name := "setInitialValue", desc := "(III)V" } : Jvm.MethodName) ({ cls := "ReductionFinder$FloatMachine", name := "setInitialValue", desc := "(III)V" } : Jvm.MethodName)) ∈ PWS := pws_mem 952 (by decide +kernel) rfl
theorem qw953 : (Jvm.Cond.instanceMethod ({ cls := "ReductionFinder$FloatMachine", name := "setInitialValue", desc := "(III)V" } : Jvm.MethodName)) ∈ PWS := pws_mem 953 (by decide +kernel) rfl
theorem qw954 : (Jvm.Cond.code ({ cls := "ReductionFinder$FloatMachine", name := "setInitialValue", desc := "(III)V" } : Jvm.MethodName) prog_4_method_5_code (4 : Nat) (Option.none : Option Jvm.ClassFile.FieldType)) ∈ PWS := pws_mem 954 (by decide +kernel) rfl
theorem qw955 : (Jvm.Cond.selects "ReductionFinder$IntMachine" ({ cls := "ReductionFinder$Machine", name := "setInitialValue", desc := "(III)V" } : Jvm.MethodName) ({ cls := "ReductionFinder$IntMachine", name := "setInitialValue", desc := "(III)V" } : Jvm.MethodName)) ∈ PWS := pws_mem 955 (by decide +kernel) rfl
theorem qw956 : (Jvm.Cond.instanceMethod ({ cls := "ReductionFinder$IntMachine", name := "setInitialValue", desc := "(III)V" } : Jvm.MethodName)) ∈ PWS := pws_mem 956 (by decide +kernel) rfl
theorem qw957 : (Jvm.Cond.code ({ cls := "ReductionFinder$IntMachine", name := "setInitialValue", desc := "(III)V" } : Jvm.MethodName) prog_6_method_5_code (4 : Nat) (Option.none : Option Jvm.ClassFile.FieldType)) ∈ PWS := pws_mem 957 (by decide +kernel) rfl
theorem qw958 : (Jvm.Cond.methodLink "ReductionFinder$Machine" (57 : Nat) ({ cls := "ReductionFinder$Machine", name := "runIteration", desc := "(LReductionFinder$Program;II)V" } : Jvm.MethodName)) ∈ PWS := pws_mem 958 (by decide +kernel) rfl
theorem qw959 : (Jvm.Cond.privateMethod ({ cls := "ReductionFinder$Machine", name := "runIteration", desc := "(LReductionFinder$Program;II)V" } : Jvm.MethodName)) ∈ PWS := pws_mem 959 (by decide +kernel) rfl
theorem qw960 : (Jvm.Cond.instanceMethod ({ cls := "ReductionFinder$Machine", name := "runIteration", desc := "(LReductionFinder$Program;II)V" } : Jvm.MethodName)) ∈ PWS := pws_mem 960 (by decide +kernel) rfl
theorem qw961 : (Jvm.Cond.code ({ cls := "ReductionFinder$Machine", name := "runIteration", desc := "(LReductionFinder$Program;II)V" } : Jvm.MethodName) prog_7_method_19_code (5 : Nat) (Option.none : Option Jvm.ClassFile.FieldType)) ∈ PWS := pws_mem 961 (by decide +kernel) rfl
theorem qw962 : (Jvm.Cond.methodLinkNest "ReductionFinder$Machine" (107 : Nat) ({ cls := "ReductionFinder$Program", name := "firstCodeOf", desc := "(I)I" } : Jvm.MethodName) "ReductionFinder") ∈ PWS := pws_mem 962 (by decide +kernel) rfl
theorem qw963 : (Jvm.Cond.methodLink "ReductionFinder$Machine" (114 : Nat) ({ cls := "ReductionFinder$Machine", name := "walk", desc := "([III)V" } : Jvm.MethodName)) ∈ PWS := pws_mem 963 (by decide +kernel) rfl
theorem qw964 : (Jvm.Cond.sameMethod "ReductionFinder$Machine" "ReductionFinder$Walk" "walk" "([III)V") ∈ PWS := pws_mem 964 (by decide +kernel) rfl
theorem qw965 : (Jvm.Cond.selects "ReductionFinder$FloatMachine" ({ cls := "ReductionFinder$Machine", name := "walk", desc := "([III)V" } : Jvm.MethodName) ({ cls := "ReductionFinder$Walk", name := "walk", desc := "([III)V" } : Jvm.MethodName)) ∈ PWS := pws_mem 965 (by decide +kernel) rfl
theorem qw966 : (Jvm.Cond.selects "ReductionFinder$IntMachine" ({ cls := "ReductionFinder$Machine", name := "walk", desc := "([III)V" } : Jvm.MethodName) ({ cls := "ReductionFinder$Walk", name := "walk", desc := "([III)V" } : Jvm.MethodName)) ∈ PWS := pws_mem 966 (by decide +kernel) rfl
theorem qw967 : (Jvm.Cond.methodLink "ReductionFinder$Machine" (121 : Nat) ({ cls := "ReductionFinder$Machine", name := "storeValue", desc := "(II)V" } : Jvm.MethodName)) ∈ PWS := pws_mem 967 (by decide +kernel) rfl
theorem qw968 : (Jvm.Cond.declares ({ cls := "ReductionFinder$Machine", name := "storeValue", desc := "(II)V" } : Jvm.MethodName)) ∈ PWS := pws_mem 968 (by decide +kernel) rfl
theorem qw969 : (Jvm.Cond.sameMethod "ReductionFinder$Machine" "ReductionFinder$Machine" "storeValue" "(II)V") ∈ PWS := pws_mem 969 (by decide +kernel) rfl
theorem qw970 : (Jvm.Cond.selects "ReductionFinder$FloatMachine" ({ cls := "ReductionFinder$Machine", name := "storeValue", desc := "(II)V" } : Jvm.MethodName) ({ cls := "ReductionFinder$FloatMachine", name := "storeValue", desc := "(II)V" } : Jvm.MethodName)) ∈ PWS := pws_mem 970 (by decide +kernel) rfl
theorem qw971 : (Jvm.Cond.instanceMethod ({ cls := "ReductionFinder$FloatMachine", name := "storeValue", desc := "(II)V" } : Jvm.MethodName)) ∈ PWS := pws_mem 971 (by decide +kernel) rfl
theorem qw972 : (Jvm.Cond.code ({ cls := "ReductionFinder$FloatMachine", name := "storeValue", desc := "(II)V" } : Jvm.MethodName) prog_4_method_9_code (3 : Nat) (Option.none : Option Jvm.ClassFile.FieldType)) ∈ PWS := pws_mem 972 (by decide +kernel) rfl
theorem qw973 : (Jvm.Cond.selects "ReductionFinder$IntMachine" ({ cls := "ReductionFinder$Machine", name := "storeValue", desc := "(II)V" } : Jvm.MethodName) ({ cls := "ReductionFinder$IntMachine", name := "storeValue", desc := "(II)V" } : Jvm.MethodName)) ∈ PWS := pws_mem 973 (by decide +kernel) rfl
theorem qw974 : (Jvm.Cond.instanceMethod ({ cls := "ReductionFinder$IntMachine", name := "storeValue", desc := "(II)V" } : Jvm.MethodName)) ∈ PWS := pws_mem 974 (by decide +kernel) rfl
theorem qw975 : (Jvm.Cond.code ({ cls := "ReductionFinder$IntMachine", name := "storeValue", desc := "(II)V" } : Jvm.MethodName) prog_6_method_9_code (3 : Nat) (Option.none : Option Jvm.ClassFile.FieldType)) ∈ PWS := pws_mem 975 (by decide +kernel) rfl
theorem qw976 : (Jvm.Cond.methodLink "ReductionFinder$Machine" (43 : Nat) ({ cls := "java/lang/Math", name := "min", desc := "(II)I" } : Jvm.MethodName)) ∈ PWS := pws_mem 976 (by decide +kernel) rfl
theorem qw977 : (Jvm.Cond.methodLink "ReductionFinder$Machine" (49 : Nat) ({ cls := "ReductionFinder$Machine", name := "runPart", desc := "(LReductionFinder$Program;III)V" } : Jvm.MethodName)) ∈ PWS := pws_mem 977 (by decide +kernel) rfl
theorem qw978 : (Jvm.Cond.privateMethod ({ cls := "ReductionFinder$Machine", name := "runPart", desc := "(LReductionFinder$Program;III)V" } : Jvm.MethodName)) ∈ PWS := pws_mem 978 (by decide +kernel) rfl
theorem qw979 : (Jvm.Cond.instanceMethod ({ cls := "ReductionFinder$Machine", name := "runPart", desc := "(LReductionFinder$Program;III)V" } : Jvm.MethodName)) ∈ PWS := pws_mem 979 (by decide +kernel) rfl
theorem qw980 : (Jvm.Cond.code ({ cls := "ReductionFinder$Machine", name := "runPart", desc := "(LReductionFinder$Program;III)V" } : Jvm.MethodName) prog_7_method_13_code (10 : Nat) (Option.none : Option Jvm.ClassFile.FieldType)) ∈ PWS := pws_mem 980 (by decide +kernel) rfl
theorem qw981 : (Jvm.Cond.methodLink "ReductionFinder$Machine" (75 : Nat) ({ cls := "ReductionFinder$Machine", name := "setNeutral", desc := "(III)V" } : Jvm.MethodName)) ∈ PWS := pws_mem 981 (by decide +kernel) rfl
theorem qw982 : (Jvm.Cond.declares ({ cls := "ReductionFinder$Machine", name := "setNeutral", desc := "(III)V" } : Jvm.MethodName)) ∈ PWS := pws_mem 982 (by decide +kernel) rfl
theorem qw983 : (Jvm.Cond.sameMethod "ReductionFinder$Machine" "ReductionFinder$Machine" "setNeutral" "(III)V") ∈ PWS := pws_mem 983 (by decide +kernel) rfl
theorem qw984 : (Jvm.Cond.selects "ReductionFinder$FloatMachine" ({ cls := "ReductionFinder$Machine", name := "setNeutral", desc := "(III)V" } : Jvm.MethodName) ({ cls := "ReductionFinder$FloatMachine", name := "setNeutral", desc := "(III)V" } : Jvm.MethodName)) ∈ PWS := pws_mem 984 (by decide +kernel) rfl
theorem qw985 : (Jvm.Cond.instanceMethod ({ cls := "ReductionFinder$FloatMachine", name := "setNeutral", desc := "(III)V" } : Jvm.MethodName)) ∈ PWS := pws_mem 985 (by decide +kernel) rfl
theorem qw986 : (Jvm.Cond.code ({ cls := "ReductionFinder$FloatMachine", name := "setNeutral", desc := "(III)V" } : Jvm.MethodName) prog_4_method_6_code (4 : Nat) (Option.none : Option Jvm.ClassFile.FieldType)) ∈ PWS := pws_mem 986 (by decide +kernel) rfl
theorem qw987 : (Jvm.Cond.methodLink "ReductionFinder$FloatMachine" (36 : Nat) ({ cls := "ReductionFinder$FloatMachine", name := "neutralOf", desc := "(I)F" } : Jvm.MethodName)) ∈ PWS := pws_mem 987 (by decide +kernel) rfl
theorem qw988 : (Jvm.Cond.static ({ cls := "ReductionFinder$FloatMachine", name := "neutralOf", desc := "(I)F" } : Jvm.MethodName)) ∈ PWS := pws_mem 988 (by decide +kernel) rfl
theorem qw989 : (Jvm.Cond.code ({ cls := "ReductionFinder$FloatMachine", name := "neutralOf", desc := "(I)F" } : Jvm.MethodName) prog_4_method_11_code (1 : Nat) (Option.some Jvm.ClassFile.FieldType.float)) ∈ PWS := pws_mem 989 (by decide +kernel) rfl
theorem qw990 : (Jvm.Cond.selects "ReductionFinder$IntMachine" ({ cls := "ReductionFinder$Machine", name := "setNeutral", desc := "(III)V" } : Jvm.MethodName) ({ cls := "ReductionFinder$IntMachine", name := "setNeutral", desc := "(III)V" } : Jvm.MethodName)) ∈ PWS := pws_mem 990 (by decide +kernel) rfl
theorem qw991 : (Jvm.Cond.instanceMethod ({ cls := "ReductionFinder$IntMachine", name := "setNeutral", desc := "(III)V" } : Jvm.MethodName)) ∈ PWS := pws_mem 991 (by decide +kernel) rfl
theorem qw992 : (Jvm.Cond.code ({ cls := "ReductionFinder$IntMachine", name := "setNeutral", desc := "(III)V" } : Jvm.MethodName) prog_6_method_6_code (4 : Nat) (Option.none : Option Jvm.ClassFile.FieldType)) ∈ PWS := pws_mem 992 (by decide +kernel) rfl
theorem qw993 : (Jvm.Cond.methodLink "ReductionFinder$IntMachine" (36 : Nat) ({ cls := "ReductionFinder$IntMachine", name := "neutralOf", desc := "(I)I" } : Jvm.MethodName)) ∈ PWS := pws_mem 993 (by decide +kernel) rfl
theorem qw994 : (Jvm.Cond.static ({ cls := "ReductionFinder$IntMachine", name := "neutralOf", desc := "(I)I" } : Jvm.MethodName)) ∈ PWS := pws_mem 994 (by decide +kernel) rfl
theorem qw995 : (Jvm.Cond.code ({ cls := "ReductionFinder$IntMachine", name := "neutralOf", desc := "(I)I" } : Jvm.MethodName) prog_6_method_11_code (1 : Nat) (Option.some Jvm.ClassFile.FieldType.int)) ∈ PWS := pws_mem 995 (by decide +kernel) rfl
theorem qw996 : (Jvm.Cond.constant "ReductionFinder$IntMachine" (39 : Nat) (2147483647 : Int32)) ∈ PWS := pws_mem 996 (by decide +kernel) rfl
theorem qw997 : (Jvm.Cond.constant "ReductionFinder$IntMachine" (40 : Nat) (-2147483648 : Int32)) ∈ PWS := pws_mem 997 (by decide +kernel) rfl
theorem qw998 : (Jvm.Cond.methodLinkNest "ReductionFinder$Machine" (79 : Nat) ({ cls := "ReductionFinder", name := "quotientUp", desc := "(II)I" } : Jvm.MethodName) "ReductionFinder") ∈ PWS := pws_mem 998 (by decide +kernel) rfl
theorem qw999 : (Jvm.Cond.methodLink "ReductionFinder$Machine" (82 : Nat) ({ cls := "java/lang/Math", name := "max", desc := "(II)I" } : Jvm.MethodName)) ∈ PWS := pws_mem 999 (by decide +kernel) rfl
theorem qw1000 : (Jvm.Cond.methodLink "ReductionFinder$Machine" (61 : Nat) ({ cls := "ReductionFinder$Machine", name := "joinTree", desc := "(LReductionFinder$Program;I)V" } : Jvm.MethodName)) ∈ PWS := pws_mem 1000 (by decide +kernel) rfl
theorem qw1001 : (Jvm.Cond.privateMethod ({ cls := "ReductionFinder$Machine", name := "joinTree", desc := "(LReductionFinder$Program;I)V" } : Jvm.MethodName)) ∈ PWS := pws_mem 1001 (by decide +kernel) rfl
theorem qw1002 : (Jvm.Cond.instanceMethod ({ cls := "ReductionFinder$Machine", name := "joinTree", desc := "(LReductionFinder$Program;I)V" } : Jvm.MethodName)) ∈ PWS := pws_mem 1002 (by decide +kernel) rfl
theorem qw1003 : (Jvm.Cond.code ({ cls := "ReductionFinder$Machine", name := "joinTree", desc := "(LReductionFinder$Program;I)V" } : Jvm.MethodName) prog_7_method_14_code (5 : Nat) (Option.none : Option Jvm.ClassFile.FieldType)) ∈ PWS := pws_mem 1003 (by decide +kernel) rfl
theorem qw1004 : (Jvm.Cond.methodLink "ReductionFinder$Machine" (85 : Nat) ({ cls := "ReductionFinder$Machine", name := "copyReductions", desc := "(LReductionFinder$Program;II)V" } : Jvm.MethodName)) ∈ PWS := pws_mem 1004 (by decide +kernel) rfl
theorem qw1005 : (Jvm.Cond.privateMethod ({ cls := "ReductionFinder$Machine", name := "copyReductions", desc := "(LReductionFinder$Program;II)V" } : Jvm.MethodName)) ∈ PWS := pws_mem 1005 (by decide +kernel) rfl
theorem qw1006 : (Jvm.Cond.instanceMethod ({ cls := "ReductionFinder$Machine", name := "copyReductions", desc := "(LReductionFinder$Program;II)V" } : Jvm.MethodName)) ∈ PWS := pws_mem 1006 (by decide +kernel) rfl
theorem qw1007 : (Jvm.Cond.code ({ cls := "ReductionFinder$Machine", name := "copyReductions", desc := "(LReductionFinder$Program;II)V" } : Jvm.MethodName) prog_7_method_17_code (5 : Nat) (Option.none : Option Jvm.ClassFile.FieldType)) ∈ PWS := pws_mem 1007 (by decide +kernel) rfl
theorem qw1008 : (Jvm.Cond.methodLink "ReductionFinder$Machine" (98 : Nat) ({ cls := "ReductionFinder$Machine", name := "copyValue", desc := "(III)V" } : Jvm.MethodName)) ∈ PWS := pws_mem 1008 (by decide +kernel) rfl
theorem qw1009 : (Jvm.Cond.declares ({ cls := "ReductionFinder$Machine", name := "copyValue", desc := "(III)V" } : Jvm.MethodName)) ∈ PWS := pws_mem 1009 (by decide +kernel) rfl
theorem qw1010 : (Jvm.Cond.sameMethod "ReductionFinder$Machine" "ReductionFinder$Machine" "copyValue" "(III)V") ∈ PWS := pws_mem 1010 (by decide +kernel) rfl
theorem qw1011 : (Jvm.Cond.selects "ReductionFinder$FloatMachine" ({ cls := "ReductionFinder$Machine", name := "copyValue", desc := "(III)V" } : Jvm.MethodName) ({ cls := "ReductionFinder$FloatMachine", name := "copyValue", desc := "(III)V" } : Jvm.MethodName)) ∈ PWS := pws_mem 1011 (by decide +kernel) rfl
theorem qw1012 : (Jvm.Cond.instanceMethod ({ cls := "ReductionFinder$FloatMachine", name := "copyValue", desc := "(III)V" } : Jvm.MethodName)) ∈ PWS := pws_mem 1012 (by decide +kernel) rfl
theorem qw1013 : (Jvm.Cond.code ({ cls := "ReductionFinder$FloatMachine", name := "copyValue", desc := "(III)V" } : Jvm.MethodName) prog_4_method_8_code (4 : Nat) (Option.none : Option Jvm.ClassFile.FieldType)) ∈ PWS := pws_mem 1013 (by decide +kernel) rfl
theorem qw1014 : (Jvm.Cond.selects "ReductionFinder$IntMachine" ({ cls := "ReductionFinder$Machine", name := "copyValue", desc := "(III)V" } : Jvm.MethodName) ({ cls := "ReductionFinder$IntMachine", name := "copyValue", desc := "(III)V" } : Jvm.MethodName)) ∈ PWS := pws_mem 1014 (by decide +kernel) rfl
theorem qw1015 : (Jvm.Cond.instanceMethod ({ cls := "ReductionFinder$IntMachine", name := "copyValue", desc := "(III)V" } : Jvm.MethodName)) ∈ PWS := pws_mem 1015 (by decide +kernel) rfl
theorem qw1016 : (Jvm.Cond.code ({ cls := "ReductionFinder$IntMachine", name := "copyValue", desc := "(III)V" } : Jvm.MethodName) prog_6_method_8_code (4 : Nat) (Option.none : Option Jvm.ClassFile.FieldType)) ∈ PWS := pws_mem 1016 (by decide +kernel) rfl
theorem qw1017 : (Jvm.Cond.methodLink "ReductionFinder$Machine" (88 : Nat) ({ cls := "ReductionFinder$Machine", name := "combineReductions", desc := "(LReductionFinder$Program;II)V" } : Jvm.MethodName)) ∈ PWS := pws_mem 1017 (by decide +kernel) rfl
theorem qw1018 : (Jvm.Cond.privateMethod ({ cls := "ReductionFinder$Machine", name := "combineReductions", desc := "(LReductionFinder$Program;II)V" } : Jvm.MethodName)) ∈ PWS := pws_mem 1018 (by decide +kernel) rfl
theorem qw1019 : (Jvm.Cond.instanceMethod ({ cls := "ReductionFinder$Machine", name := "combineReductions", desc := "(LReductionFinder$Program;II)V" } : Jvm.MethodName)) ∈ PWS := pws_mem 1019 (by decide +kernel) rfl
theorem qw1020 : (Jvm.Cond.code ({ cls := "ReductionFinder$Machine", name := "combineReductions", desc := "(LReductionFinder$Program;II)V" } : Jvm.MethodName) prog_7_method_16_code (5 : Nat) (Option.none : Option Jvm.ClassFile.FieldType)) ∈ PWS := pws_mem 1020 (by decide +kernel) rfl
theorem qw1021 : (Jvm.Cond.methodLink "ReductionFinder$Machine" (94 : Nat) ({ cls := "ReductionFinder$Machine", name := "combine", desc := "(IIII)V" } : Jvm.MethodName)) ∈ PWS := pws_mem 1021 (by decide +kernel) rfl
theorem qw1022 : (Jvm.Cond.declares ({ cls := "ReductionFinder$Machine", name := "combine", desc := "(IIII)V" } : Jvm.MethodName)) ∈ PWS := pws_mem 1022 (by decide +kernel) rfl
theorem qw1023 : (Jvm.Cond.sameMethod "ReductionFinder$Machine" "ReductionFinder$Machine" "combine" "(IIII)V") ∈ PWS := pws_mem 1023 (by decide +kernel) rfl
theorem qw1024 : (Jvm.Cond.selects "ReductionFinder$FloatMachine" ({ cls := "ReductionFinder$Machine", name := "combine", desc := "(IIII)V" } : Jvm.MethodName) ({ cls := "ReductionFinder$FloatMachine", name := "combine", desc := "(IIII)V" } : Jvm.MethodName)) ∈ PWS := pws_mem 1024 (by decide +kernel) rfl
theorem qw1025 : (Jvm.Cond.instanceMethod ({ cls := "ReductionFinder$FloatMachine", name := "combine", desc := "(IIII)V" } : Jvm.MethodName)) ∈ PWS := pws_mem 1025 (by decide +kernel) rfl
theorem qw1026 : (Jvm.Cond.code ({ cls := "ReductionFinder$FloatMachine", name := "combine", desc := "(IIII)V" } : Jvm.MethodName) prog_4_method_7_code (5 : Nat) (Option.none : Option Jvm.ClassFile.FieldType)) ∈ PWS := pws_mem 1026 (by decide +kernel) rfl
theorem qw1027 : (Jvm.Cond.selects "ReductionFinder$IntMachine" ({ cls := "ReductionFinder$Machine", name := "combine", desc := "(IIII)V" } : Jvm.MethodName) ({ cls := "ReductionFinder$IntMachine", name := "combine", desc := "(IIII)V" } : Jvm.MethodName)) ∈ PWS := pws_mem 1027 (by decide +kernel) rfl
theorem qw1028 : (Jvm.Cond.instanceMethod ({ cls := "ReductionFinder$IntMachine", name := "combine", desc := "(IIII)V" } : Jvm.MethodName)) ∈ PWS := pws_mem 1028 (by decide +kernel) rfl
theorem qw1029 : (Jvm.Cond.code ({ cls := "ReductionFinder$IntMachine", name := "combine", desc := "(IIII)V" } : Jvm.MethodName) prog_6_method_7_code (5 : Nat) (Option.none : Option Jvm.ClassFile.FieldType)) ∈ PWS := pws_mem 1029 (by decide +kernel) rfl
theorem qw1030 : (Jvm.Cond.methodLink "ReductionFinder$Machine" (64 : Nat) ({ cls := "ReductionFinder$Machine", name := "joinParts", desc := "(LReductionFinder$Program;I)V" } : Jvm.MethodName)) ∈ PWS := pws_mem 1030 (by decide +kernel) rfl
theorem qw1031 : (Jvm.Cond.privateMethod ({ cls := "ReductionFinder$Machine", name := "joinParts", desc := "(LReductionFinder$Program;I)V" } : Jvm.MethodName)) ∈ PWS := pws_mem 1031 (by decide +kernel) rfl
theorem qw1032 : (Jvm.Cond.instanceMethod ({ cls := "ReductionFinder$Machine", name := "joinParts", desc := "(LReductionFinder$Program;I)V" } : Jvm.MethodName)) ∈ PWS := pws_mem 1032 (by decide +kernel) rfl
theorem qw1033 : (Jvm.Cond.code ({ cls := "ReductionFinder$Machine", name := "joinParts", desc := "(LReductionFinder$Program;I)V" } : Jvm.MethodName) prog_7_method_15_code (4 : Nat) (Option.none : Option Jvm.ClassFile.FieldType)) ∈ PWS := pws_mem 1033 (by decide +kernel) rfl
theorem qw1034 : (Jvm.Cond.methodLinkNest "ReductionFinder" (218 : Nat) ({ cls := "ReductionFinder$Machine", name := "countChanged", desc := "()I" } : Jvm.MethodName) "ReductionFinder") ∈ PWS := pws_mem 1034 (by decide +kernel) rfl
theorem qw1035 : (Jvm.Cond.privateMethod ({ cls := "ReductionFinder$Machine", name := "countChanged", desc := "()I" } : Jvm.MethodName)) ∈ PWS := pws_mem 1035 (by decide +kernel) rfl
theorem qw1036 : (Jvm.Cond.instanceMethod ({ cls := "ReductionFinder$Machine", name := "countChanged", desc := "()I" } : Jvm.MethodName)) ∈ PWS := pws_mem 1036 (by decide +kernel) rfl
theorem qw1037 : (Jvm.Cond.code ({ cls := "ReductionFinder$Machine", name := "countChanged", desc := "()I" } : Jvm.MethodName) prog_7_method_10_code (3 : Nat) (Option.some Jvm.ClassFile.FieldType.int)) ∈ PWS := pws_mem 1037 (by decide +kernel) rfl
theorem qw1038 : (Jvm.Cond.methodLink "ReductionFinder$Machine" (28 : Nat) ({ cls := "ReductionFinder$Machine", name := "valueOf", desc := "(II)D" } : Jvm.MethodName)) ∈ PWS := pws_mem 1038 (by decide +kernel) rfl
theorem qw1039 : (Jvm.Cond.declares ({ cls := "ReductionFinder$Machine", name := "valueOf", desc := "(II)D" } : Jvm.MethodName)) ∈ PWS := pws_mem 1039 (by decide +kernel) rfl
theorem qw1040 : (Jvm.Cond.sameMethod "ReductionFinder$Machine" "ReductionFinder$Machine" "valueOf" "(II)D") ∈ PWS := pws_mem 1040 (by decide +kernel) rfl
theorem qw1041 : (Jvm.Cond.selects "ReductionFinder$FloatMachine" ({ cls := "ReductionFinder$Machine", name := "valueOf", desc := "(II)D" } : Jvm.MethodName) ({ cls := "ReductionFinder$FloatMachine", name := "valueOf", desc := "(II)D" } : Jvm.MethodName)) ∈ PWS := pws_mem 1041 (by decide +kernel) rfl
theorem qw1042 : (Jvm.Cond.instanceMethod ({ cls := "ReductionFinder$FloatMachine", name := "valueOf", desc := "(II)D" } : Jvm.MethodName)) ∈ PWS := pws_mem 1042 (by decide +kernel) rfl
theorem qw1043 : (Jvm.Cond.code ({ cls := "ReductionFinder$FloatMachine", name := "valueOf", desc := "(II)D" } : Jvm.MethodName) prog_4_method_10_code (3 : Nat) (Option.some Jvm.ClassFile.FieldType.double)) ∈ PWS := pws_mem 1043 (by decide +kernel) rfl
theorem qw1044 : (Jvm.Cond.selects "ReductionFinder$IntMachine" ({ cls := "ReductionFinder$Machine", name := "valueOf", desc := "(II)D" } : Jvm.MethodName) ({ cls := "ReductionFinder$IntMachine", name := "valueOf", desc := "(II)D" } : Jvm.MethodName)) ∈ PWS := pws_mem 1044 (by decide +kernel) rfl
theorem qw1045 : (Jvm.Cond.instanceMethod ({ cls := "ReductionFinder$IntMachine", name := "valueOf", desc := "(II)D" } : Jvm.MethodName)) ∈ PWS := pws_mem 1045 (by decide +kernel) rfl
theorem qw1046 : (Jvm.Cond.code ({ cls := "ReductionFinder$IntMachine", name := "valueOf", desc := "(II)D" } : Jvm.MethodName) prog_6_method_10_code (3 : Nat) (Option.some Jvm.ClassFile.FieldType.double)) ∈ PWS := pws_mem 1046 (by decide +kernel) rfl
theorem qw1071 : (Jvm.Cond.methodLinkNest "ReductionFinder" (234 : Nat) ({ cls := "ReductionFinder$Machine", name := "runSequence", desc := "(LReductionFinder$Program;I)V" } : Jvm.MethodName) "ReductionFinder") ∈ PWS := pws_mem 1071 (by decide +kernel) rfl
theorem qw1072 : (Jvm.Cond.methodLink "ReductionFinder" (238 : Nat) ({ cls := "ReductionFinder$Machine", name := "valueOf", desc := "(II)D" } : Jvm.MethodName)) ∈ PWS := pws_mem 1072 (by decide +kernel) rfl
theorem qw1094 : (Jvm.Cond.methodLink "ReductionFinderModel" (87 : Nat) ({ cls := "ReductionFinderModel", name := "ends", desc := "()Z" } : Jvm.MethodName)) ∈ PWS := pws_mem 1094 (by decide +kernel) rfl
theorem qw1096 : (Jvm.Cond.instanceMethod ({ cls := "ReductionFinderModel", name := "ends", desc := "()Z" } : Jvm.MethodName)) ∈ PWS := pws_mem 1096 (by decide +kernel) rfl
theorem qw1097 : (Jvm.Cond.code ({ cls := "ReductionFinderModel", name := "ends", desc := "()Z" } : Jvm.MethodName) prog_12_method_22_code (7 : Nat) (Option.some Jvm.ClassFile.FieldType.boolean)) ∈ PWS := pws_mem 1097 (by decide +kernel) rfl
theorem qw1098 : (Jvm.Cond.methodLink "ReductionFinderModel" (168 : Nat) ({ cls := "ReductionFinderModel", name := "code", desc := "(I)I" } : Jvm.MethodName)) ∈ PWS := pws_mem 1098 (by decide +kernel) rfl
theorem qw1099 : (Jvm.Cond.static ({ cls := "ReductionFinderModel", name := "code", desc := "(I)I" } : Jvm.MethodName)) ∈ PWS := pws_mem 1099 (by decide +kernel) rfl
theorem qw1100 : (Jvm.Cond.code ({ cls := "ReductionFinderModel", name := "code", desc := "(I)I" } : Jvm.MethodName) prog_12_method_21_code (1 : Nat) (Option.some Jvm.ClassFile.FieldType.int)) ∈ PWS := pws_mem 1100 (by decide +kernel) rfl
theorem qw1101 : (Jvm.Cond.methodLink "ReductionFinderModel" (94 : Nat) ({ cls := "ReductionFinderModel", name := "in", desc := "(III)Z" } : Jvm.MethodName)) ∈ PWS := pws_mem 1101 (by decide +kernel) rfl
theorem qw1102 : (Jvm.Cond.static ({ cls := "ReductionFinderModel", name := "in", desc := "(III)Z" } : Jvm.MethodName)) ∈ PWS := pws_mem 1102 (by decide +kernel) rfl
theorem qw1103 : (Jvm.Cond.code ({ cls := "ReductionFinderModel", name := "in", desc := "(III)Z" } : Jvm.MethodName) prog_12_method_3_code (3 : Nat) (Option.some Jvm.ClassFile.FieldType.boolean)) ∈ PWS := pws_mem 1103 (by decide +kernel) rfl
theorem qw1104 : (Jvm.Cond.fieldLink "ReductionFinderModel" (91 : Nat) "ReductionFinderModel" "thrown" "I") ∈ PWS := pws_mem 1104 (by decide +kernel) rfl
theorem qw1105 : (Jvm.Cond.fieldLink "ReductionFinderModel" (9 : Nat) "ReductionFinderModel" "now" "[I") ∈ PWS := pws_mem 1105 (by decide +kernel) rfl
theorem qw1106 : (Jvm.Cond.fieldLink "ReductionFinderModel" (13 : Nat) "ReductionFinderModel" "saved" "[I") ∈ PWS := pws_mem 1106 (by decide +kernel) rfl
theorem qw1107 : (Jvm.Cond.fieldLink "ReductionFinderModel" (313 : Nat) "ReductionFinderModel" "isSaved" "Z") ∈ PWS := pws_mem 1107 (by decide +kernel) rfl
theorem qw1108 : (Jvm.Cond.fieldLink "ReductionFinderModel" (16 : Nat) "ReductionFinderModel" "kept" "[I") ∈ PWS := pws_mem 1108 (by decide +kernel) rfl
theorem qw1109 : (Jvm.Cond.fieldLink "ReductionFinderModel" (19 : Nat) "ReductionFinderModel" "buffer" "[I") ∈ PWS := pws_mem 1109 (by decide +kernel) rfl
theorem qw1110 : (Jvm.Cond.fieldLink "ReductionFinderModel" (102 : Nat) "ReductionFinderModel" "length" "I") ∈ PWS := pws_mem 1110 (by decide +kernel) rfl
theorem qw1111 : (Jvm.Cond.fieldLink "ReductionFinderModel" (105 : Nat) "ReductionFinderModel" "at" "I") ∈ PWS := pws_mem 1111 (by decide +kernel) rfl
theorem qw1112 : (Jvm.Cond.fieldLink "ReductionFinderModel" (22 : Nat) "ReductionFinderModel" "fault" "I") ∈ PWS := pws_mem 1112 (by decide +kernel) rfl
theorem qw1113 : (Jvm.Cond.fieldLink "ReductionFinderModel" (108 : Nat) "ReductionFinderModel" "bad" "Z") ∈ PWS := pws_mem 1113 (by decide +kernel) rfl
theorem qw1114 : (Jvm.Cond.fieldLink "ReductionFinderModel" (136 : Nat) "ReductionFinderModel" "opened" "I") ∈ PWS := pws_mem 1114 (by decide +kernel) rfl
theorem qw1115 : (Jvm.Cond.fieldLink "ReductionFinderModel" (26 : Nat) "ReductionFinderModel" "kindOf" "[I") ∈ PWS := pws_mem 1115 (by decide +kernel) rfl
theorem qw1116 : (Jvm.Cond.fieldLink "ReductionFinderModel" (29 : Nat) "ReductionFinderModel" "one" "[I") ∈ PWS := pws_mem 1116 (by decide +kernel) rfl
theorem qw1117 : (Jvm.Cond.fieldLink "ReductionFinderModel" (32 : Nat) "ReductionFinderModel" "two" "[I") ∈ PWS := pws_mem 1117 (by decide +kernel) rfl
theorem qw1118 : (Jvm.Cond.fieldLink "ReductionFinderModel" (35 : Nat) "ReductionFinderModel" "three" "[I") ∈ PWS := pws_mem 1118 (by decide +kernel) rfl
theorem qw1119 : (Jvm.Cond.fieldLink "ReductionFinderModel" (120 : Nat) "ReductionFinderModel" "made" "I") ∈ PWS := pws_mem 1119 (by decide +kernel) rfl
theorem qw1120 : (Jvm.Cond.fieldLink "ReductionFinderModel" (38 : Nat) "ReductionFinderModel" "readTarget" "[I") ∈ PWS := pws_mem 1120 (by decide +kernel) rfl
theorem qw1121 : (Jvm.Cond.fieldLink "ReductionFinderModel" (41 : Nat) "ReductionFinderModel" "readSize" "[I") ∈ PWS := pws_mem 1121 (by decide +kernel) rfl
theorem qw1122 : (Jvm.Cond.fieldLink "ReductionFinderModel" (44 : Nat) "ReductionFinderModel" "readCode" "[I") ∈ PWS := pws_mem 1122 (by decide +kernel) rfl
theorem qw1123 : (Jvm.Cond.fieldLink "ReductionFinderModel" (155 : Nat) "ReductionFinderModel" "written" "I") ∈ PWS := pws_mem 1123 (by decide +kernel) rfl
theorem qw1124 : (Jvm.Cond.fieldLink "ReductionFinderModel" (47 : Nat) "ReductionFinderModel" "end" "[I") ∈ PWS := pws_mem 1124 (by decide +kernel) rfl
theorem qw1125 : (Jvm.Cond.fieldLink "ReductionFinderModel" (50 : Nat) "ReductionFinderModel" "endSize" "[I") ∈ PWS := pws_mem 1125 (by decide +kernel) rfl
theorem qw1126 : (Jvm.Cond.fieldLink "ReductionFinderModel" (53 : Nat) "ReductionFinderModel" "fresh" "[I") ∈ PWS := pws_mem 1126 (by decide +kernel) rfl
theorem qw1127 : (Jvm.Cond.fieldLink "ReductionFinderModel" (165 : Nat) "ReductionFinderModel" "freshSize" "I") ∈ PWS := pws_mem 1127 (by decide +kernel) rfl
theorem qw1128 : (Jvm.Cond.fieldLink "ReductionFinderModel" (250 : Nat) "ReductionFinderModel" "walk" "I") ∈ PWS := pws_mem 1128 (by decide +kernel) rfl
theorem qw1129 : (Jvm.Cond.fieldLink "ReductionFinderModel" (56 : Nat) "ReductionFinderModel" "ints" "[I") ∈ PWS := pws_mem 1129 (by decide +kernel) rfl
theorem qw1130 : (Jvm.Cond.fieldLink "ReductionFinderModel" (59 : Nat) "ReductionFinderModel" "floats" "[F") ∈ PWS := pws_mem 1130 (by decide +kernel) rfl
theorem qw1131 : (Jvm.Cond.fieldLink "ReductionFinderModel" (63 : Nat) "ReductionFinderModel" "intParts" "[I") ∈ PWS := pws_mem 1131 (by decide +kernel) rfl
theorem qw1132 : (Jvm.Cond.fieldLink "ReductionFinderModel" (66 : Nat) "ReductionFinderModel" "floatParts" "[F") ∈ PWS := pws_mem 1132 (by decide +kernel) rfl
theorem qw1133 : (Jvm.Cond.fieldLink "ReductionFinderModel" (69 : Nat) "ReductionFinderModel" "kindOfResults" "I") ∈ PWS := pws_mem 1133 (by decide +kernel) rfl
theorem qw1134 : (Jvm.Cond.fieldLink "ReductionFinderModel" (72 : Nat) "ReductionFinderModel" "intResults" "[I") ∈ PWS := pws_mem 1134 (by decide +kernel) rfl
theorem qw1135 : (Jvm.Cond.fieldLink "ReductionFinderModel" (75 : Nat) "ReductionFinderModel" "floatResults" "[F") ∈ PWS := pws_mem 1135 (by decide +kernel) rfl
theorem qw1136 : (Jvm.Cond.fieldLink "ReductionFinderModel" (78 : Nat) "ReductionFinderModel" "intKept" "[I") ∈ PWS := pws_mem 1136 (by decide +kernel) rfl
theorem qw1137 : (Jvm.Cond.fieldLink "ReductionFinderModel" (81 : Nat) "ReductionFinderModel" "floatKept" "[F") ∈ PWS := pws_mem 1137 (by decide +kernel) rfl
theorem qw1138 : (Jvm.Cond.fieldLink "ReductionFinderModel" (84 : Nat) "ReductionFinderModel" "cursor" "I") ∈ PWS := pws_mem 1138 (by decide +kernel) rfl
theorem qw1139 : (Jvm.Cond.fieldLink "ReductionFinderModel" (232 : Nat) "ReductionFinderModel" "cursorOf" "I") ∈ PWS := pws_mem 1139 (by decide +kernel) rfl
theorem qw1221 : (Jvm.Cond.methodLink "ReductionFinderModel" (98 : Nat) ({ cls := "ReductionFinderModel", name := "raises", desc := "(I)I" } : Jvm.MethodName)) ∈ PWS := pws_mem 1221 (by decide +kernel) rfl
theorem qw1223 : (Jvm.Cond.instanceMethod ({ cls := "ReductionFinderModel", name := "raises", desc := "(I)I" } : Jvm.MethodName)) ∈ PWS := pws_mem 1223 (by decide +kernel) rfl
theorem qw1224 : (Jvm.Cond.code ({ cls := "ReductionFinderModel", name := "raises", desc := "(I)I" } : Jvm.MethodName) prog_12_method_4_code (2 : Nat) (Option.some Jvm.ClassFile.FieldType.int)) ∈ PWS := pws_mem 1224 (by decide +kernel) rfl
theorem qw1229 : (Jvm.Cond.methodLink "ReductionFinderModel" (171 : Nat) ({ cls := "ReductionFinderModel", name := "reads", desc := "()I" } : Jvm.MethodName)) ∈ PWS := pws_mem 1229 (by decide +kernel) rfl
theorem qw1231 : (Jvm.Cond.instanceMethod ({ cls := "ReductionFinderModel", name := "reads", desc := "()I" } : Jvm.MethodName)) ∈ PWS := pws_mem 1231 (by decide +kernel) rfl
theorem qw1232 : (Jvm.Cond.code ({ cls := "ReductionFinderModel", name := "reads", desc := "()I" } : Jvm.MethodName) prog_12_method_20_code (5 : Nat) (Option.some Jvm.ClassFile.FieldType.int)) ∈ PWS := pws_mem 1232 (by decide +kernel) rfl
theorem qw1233 : (Jvm.Cond.methodLink "ReductionFinderModel" (112 : Nat) ({ cls := "ReductionFinderModel", name := "here", desc := "()I" } : Jvm.MethodName)) ∈ PWS := pws_mem 1233 (by decide +kernel) rfl
theorem qw1235 : (Jvm.Cond.instanceMethod ({ cls := "ReductionFinderModel", name := "here", desc := "()I" } : Jvm.MethodName)) ∈ PWS := pws_mem 1235 (by decide +kernel) rfl
theorem qw1236 : (Jvm.Cond.code ({ cls := "ReductionFinderModel", name := "here", desc := "()I" } : Jvm.MethodName) prog_12_method_7_code (1 : Nat) (Option.some Jvm.ClassFile.FieldType.int)) ∈ PWS := pws_mem 1236 (by decide +kernel) rfl
theorem qw1237 : (Jvm.Cond.methodLink "ReductionFinderModel" (139 : Nat) ({ cls := "ReductionFinderModel", name := "expects", desc := "(C)V" } : Jvm.MethodName)) ∈ PWS := pws_mem 1237 (by decide +kernel) rfl
theorem qw1239 : (Jvm.Cond.instanceMethod ({ cls := "ReductionFinderModel", name := "expects", desc := "(C)V" } : Jvm.MethodName)) ∈ PWS := pws_mem 1239 (by decide +kernel) rfl
theorem qw1240 : (Jvm.Cond.code ({ cls := "ReductionFinderModel", name := "expects", desc := "(C)V" } : Jvm.MethodName) prog_12_method_9_code (2 : Nat) (Option.none : Option Jvm.ClassFile.FieldType)) ∈ PWS := pws_mem 1240 (by decide +kernel) rfl
theorem qw1241 : (Jvm.Cond.methodLink "ReductionFinderModel" (116 : Nat) ({ cls := "ReductionFinderModel", name := "takes", desc := "(C)Z" } : Jvm.MethodName)) ∈ PWS := pws_mem 1241 (by decide +kernel) rfl
theorem qw1243 : (Jvm.Cond.instanceMethod ({ cls := "ReductionFinderModel", name := "takes", desc := "(C)Z" } : Jvm.MethodName)) ∈ PWS := pws_mem 1243 (by decide +kernel) rfl
theorem qw1244 : (Jvm.Cond.code ({ cls := "ReductionFinderModel", name := "takes", desc := "(C)Z" } : Jvm.MethodName) prog_12_method_8_code (2 : Nat) (Option.some Jvm.ClassFile.FieldType.boolean)) ∈ PWS := pws_mem 1244 (by decide +kernel) rfl
theorem qw1245 : (Jvm.Cond.methodLink "ReductionFinderModel" (146 : Nat) ({ cls := "ReductionFinderModel", name := "expression", desc := "()I" } : Jvm.MethodName)) ∈ PWS := pws_mem 1245 (by decide +kernel) rfl
theorem qw1247 : (Jvm.Cond.instanceMethod ({ cls := "ReductionFinderModel", name := "expression", desc := "()I" } : Jvm.MethodName)) ∈ PWS := pws_mem 1247 (by decide +kernel) rfl
theorem qw1248 : (Jvm.Cond.code ({ cls := "ReductionFinderModel", name := "expression", desc := "()I" } : Jvm.MethodName) prog_12_method_11_code (3 : Nat) (Option.some Jvm.ClassFile.FieldType.int)) ∈ PWS := pws_mem 1248 (by decide +kernel) rfl
theorem qw1249 : (Jvm.Cond.methodLink "ReductionFinderModel" (123 : Nat) ({ cls := "ReductionFinderModel", name := "sum", desc := "()I" } : Jvm.MethodName)) ∈ PWS := pws_mem 1249 (by decide +kernel) rfl
theorem qw1251 : (Jvm.Cond.instanceMethod ({ cls := "ReductionFinderModel", name := "sum", desc := "()I" } : Jvm.MethodName)) ∈ PWS := pws_mem 1251 (by decide +kernel) rfl
theorem qw1252 : (Jvm.Cond.code ({ cls := "ReductionFinderModel", name := "sum", desc := "()I" } : Jvm.MethodName) prog_12_method_12_code (3 : Nat) (Option.some Jvm.ClassFile.FieldType.int)) ∈ PWS := pws_mem 1252 (by decide +kernel) rfl
theorem qw1253 : (Jvm.Cond.methodLink "ReductionFinderModel" (130 : Nat) ({ cls := "ReductionFinderModel", name := "product", desc := "()I" } : Jvm.MethodName)) ∈ PWS := pws_mem 1253 (by decide +kernel) rfl
theorem qw1255 : (Jvm.Cond.instanceMethod ({ cls := "ReductionFinderModel", name := "product", desc := "()I" } : Jvm.MethodName)) ∈ PWS := pws_mem 1255 (by decide +kernel) rfl
theorem qw1256 : (Jvm.Cond.code ({ cls := "ReductionFinderModel", name := "product", desc := "()I" } : Jvm.MethodName) prog_12_method_13_code (2 : Nat) (Option.some Jvm.ClassFile.FieldType.int)) ∈ PWS := pws_mem 1256 (by decide +kernel) rfl
theorem qw1257 : (Jvm.Cond.methodLink "ReductionFinderModel" (133 : Nat) ({ cls := "ReductionFinderModel", name := "factor", desc := "()I" } : Jvm.MethodName)) ∈ PWS := pws_mem 1257 (by decide +kernel) rfl
theorem qw1259 : (Jvm.Cond.instanceMethod ({ cls := "ReductionFinderModel", name := "factor", desc := "()I" } : Jvm.MethodName)) ∈ PWS := pws_mem 1259 (by decide +kernel) rfl
theorem qw1260 : (Jvm.Cond.code ({ cls := "ReductionFinderModel", name := "factor", desc := "()I" } : Jvm.MethodName) prog_12_method_17_code (3 : Nat) (Option.some Jvm.ClassFile.FieldType.int)) ∈ PWS := pws_mem 1260 (by decide +kernel) rfl
theorem qw1261 : (Jvm.Cond.methodLink "ReductionFinderModel" (126 : Nat) ({ cls := "ReductionFinderModel", name := "node", desc := "(IIII)I" } : Jvm.MethodName)) ∈ PWS := pws_mem 1261 (by decide +kernel) rfl
theorem qw1263 : (Jvm.Cond.instanceMethod ({ cls := "ReductionFinderModel", name := "node", desc := "(IIII)I" } : Jvm.MethodName)) ∈ PWS := pws_mem 1263 (by decide +kernel) rfl
theorem qw1264 : (Jvm.Cond.code ({ cls := "ReductionFinderModel", name := "node", desc := "(IIII)I" } : Jvm.MethodName) prog_12_method_10_code (5 : Nat) (Option.some Jvm.ClassFile.FieldType.int)) ∈ PWS := pws_mem 1264 (by decide +kernel) rfl
theorem qw1265 : (Jvm.Cond.methodLink "ReductionFinderModel" (152 : Nat) ({ cls := "ReductionFinderModel", name := "function", desc := "(I)I" } : Jvm.MethodName)) ∈ PWS := pws_mem 1265 (by decide +kernel) rfl
theorem qw1267 : (Jvm.Cond.instanceMethod ({ cls := "ReductionFinderModel", name := "function", desc := "(I)I" } : Jvm.MethodName)) ∈ PWS := pws_mem 1267 (by decide +kernel) rfl
theorem qw1268 : (Jvm.Cond.code ({ cls := "ReductionFinderModel", name := "function", desc := "(I)I" } : Jvm.MethodName) prog_12_method_16_code (5 : Nat) (Option.some Jvm.ClassFile.FieldType.int)) ∈ PWS := pws_mem 1268 (by decide +kernel) rfl
theorem qw1269 : (Jvm.Cond.methodLink "ReductionFinderModel" (143 : Nat) ({ cls := "ReductionFinderModel", name := "opens", desc := "()V" } : Jvm.MethodName)) ∈ PWS := pws_mem 1269 (by decide +kernel) rfl
theorem qw1271 : (Jvm.Cond.instanceMethod ({ cls := "ReductionFinderModel", name := "opens", desc := "()V" } : Jvm.MethodName)) ∈ PWS := pws_mem 1271 (by decide +kernel) rfl
theorem qw1272 : (Jvm.Cond.code ({ cls := "ReductionFinderModel", name := "opens", desc := "()V" } : Jvm.MethodName) prog_12_method_14_code (1 : Nat) (Option.none : Option Jvm.ClassFile.FieldType)) ∈ PWS := pws_mem 1272 (by decide +kernel) rfl
theorem qw1273 : (Jvm.Cond.methodLink "ReductionFinderModel" (149 : Nat) ({ cls := "ReductionFinderModel", name := "closes", desc := "()V" } : Jvm.MethodName)) ∈ PWS := pws_mem 1273 (by decide +kernel) rfl
theorem qw1275 : (Jvm.Cond.instanceMethod ({ cls := "ReductionFinderModel", name := "closes", desc := "()V" } : Jvm.MethodName)) ∈ PWS := pws_mem 1275 (by decide +kernel) rfl
theorem qw1276 : (Jvm.Cond.code ({ cls := "ReductionFinderModel", name := "closes", desc := "()V" } : Jvm.MethodName) prog_12_method_15_code (1 : Nat) (Option.none : Option Jvm.ClassFile.FieldType)) ∈ PWS := pws_mem 1276 (by decide +kernel) rfl
theorem qw1277 : (Jvm.Cond.methodLink "ReductionFinderModel" (161 : Nat) ({ cls := "ReductionFinderModel", name := "writes", desc := "(I)V" } : Jvm.MethodName)) ∈ PWS := pws_mem 1277 (by decide +kernel) rfl
theorem qw1279 : (Jvm.Cond.instanceMethod ({ cls := "ReductionFinderModel", name := "writes", desc := "(I)V" } : Jvm.MethodName)) ∈ PWS := pws_mem 1279 (by decide +kernel) rfl
theorem qw1280 : (Jvm.Cond.code ({ cls := "ReductionFinderModel", name := "writes", desc := "(I)V" } : Jvm.MethodName) prog_12_method_19_code (3 : Nat) (Option.none : Option Jvm.ClassFile.FieldType)) ∈ PWS := pws_mem 1280 (by decide +kernel) rfl
theorem qw1281 : (Jvm.Cond.methodLink "ReductionFinderModel" (158 : Nat) ({ cls := "ReductionFinderModel", name := "operands", desc := "(I)I" } : Jvm.MethodName)) ∈ PWS := pws_mem 1281 (by decide +kernel) rfl
theorem qw1282 : (Jvm.Cond.static ({ cls := "ReductionFinderModel", name := "operands", desc := "(I)I" } : Jvm.MethodName)) ∈ PWS := pws_mem 1282 (by decide +kernel) rfl
theorem qw1283 : (Jvm.Cond.code ({ cls := "ReductionFinderModel", name := "operands", desc := "(I)I" } : Jvm.MethodName) prog_12_method_18_code (1 : Nat) (Option.some Jvm.ClassFile.FieldType.int)) ∈ PWS := pws_mem 1283 (by decide +kernel) rfl
theorem qw1284 : (Jvm.Cond.methodLink "ReductionFinderModel" (174 : Nat) ({ cls := "ReductionFinderModel", name := "keeps", desc := "([I[I)V" } : Jvm.MethodName)) ∈ PWS := pws_mem 1284 (by decide +kernel) rfl
theorem qw1286 : (Jvm.Cond.instanceMethod ({ cls := "ReductionFinderModel", name := "keeps", desc := "([I[I)V" } : Jvm.MethodName)) ∈ PWS := pws_mem 1286 (by decide +kernel) rfl
theorem qw1287 : (Jvm.Cond.code ({ cls := "ReductionFinderModel", name := "keeps", desc := "([I[I)V" } : Jvm.MethodName) prog_12_method_23_code (4 : Nat) (Option.none : Option Jvm.ClassFile.FieldType)) ∈ PWS := pws_mem 1287 (by decide +kernel) rfl
theorem qw1288 : (Jvm.Cond.methodLink "ReductionFinderModel" (178 : Nat) ({ cls := "ReductionFinderModel", name := "drops", desc := "()V" } : Jvm.MethodName)) ∈ PWS := pws_mem 1288 (by decide +kernel) rfl
theorem qw1290 : (Jvm.Cond.instanceMethod ({ cls := "ReductionFinderModel", name := "drops", desc := "()V" } : Jvm.MethodName)) ∈ PWS := pws_mem 1290 (by decide +kernel) rfl
theorem qw1291 : (Jvm.Cond.code ({ cls := "ReductionFinderModel", name := "drops", desc := "()V" } : Jvm.MethodName) prog_12_method_24_code (1 : Nat) (Option.none : Option Jvm.ClassFile.FieldType)) ∈ PWS := pws_mem 1291 (by decide +kernel) rfl
theorem qw1312 : (Jvm.Cond.methodLink "ReductionFinderModel" (181 : Nat) ({ cls := "ReductionFinderModel", name := "isPlace", desc := "(II)Z" } : Jvm.MethodName)) ∈ PWS := pws_mem 1312 (by decide +kernel) rfl
theorem qw1313 : (Jvm.Cond.static ({ cls := "ReductionFinderModel", name := "isPlace", desc := "(II)Z" } : Jvm.MethodName)) ∈ PWS := pws_mem 1313 (by decide +kernel) rfl
theorem qw1314 : (Jvm.Cond.code ({ cls := "ReductionFinderModel", name := "isPlace", desc := "(II)Z" } : Jvm.MethodName) prog_12_method_30_code (2 : Nat) (Option.some Jvm.ClassFile.FieldType.boolean)) ∈ PWS := pws_mem 1314 (by decide +kernel) rfl
theorem qw1319 : (Jvm.Cond.constant "ReductionFinderModel" (185 : Nat) (1664525 : Int32)) ∈ PWS := pws_mem 1319 (by decide +kernel) rfl
theorem qw1320 : (Jvm.Cond.constant "ReductionFinderModel" (186 : Nat) (1013904223 : Int32)) ∈ PWS := pws_mem 1320 (by decide +kernel) rfl
theorem qw1329 : (Jvm.Cond.methodLink "ReductionFinderModel" (187 : Nat) ({ cls := "ReductionFinderModel", name := "isVariable", desc := "(I)Z" } : Jvm.MethodName)) ∈ PWS := pws_mem 1329 (by decide +kernel) rfl
theorem qw1330 : (Jvm.Cond.static ({ cls := "ReductionFinderModel", name := "isVariable", desc := "(I)Z" } : Jvm.MethodName)) ∈ PWS := pws_mem 1330 (by decide +kernel) rfl
theorem qw1331 : (Jvm.Cond.code ({ cls := "ReductionFinderModel", name := "isVariable", desc := "(I)Z" } : Jvm.MethodName) prog_12_method_5_code (1 : Nat) (Option.some Jvm.ClassFile.FieldType.boolean)) ∈ PWS := pws_mem 1331 (by decide +kernel) rfl
theorem qw1336 : (Jvm.Cond.methodLink "ReductionFinderModel" (218 : Nat) ({ cls := "ReductionFinderModel", name := "kinds", desc := "(I)I" } : Jvm.MethodName)) ∈ PWS := pws_mem 1336 (by decide +kernel) rfl
theorem qw1338 : (Jvm.Cond.instanceMethod ({ cls := "ReductionFinderModel", name := "kinds", desc := "(I)I" } : Jvm.MethodName)) ∈ PWS := pws_mem 1338 (by decide +kernel) rfl
theorem qw1339 : (Jvm.Cond.code ({ cls := "ReductionFinderModel", name := "kinds", desc := "(I)I" } : Jvm.MethodName) prog_12_method_43_code (4 : Nat) (Option.some Jvm.ClassFile.FieldType.int)) ∈ PWS := pws_mem 1339 (by decide +kernel) rfl
theorem qw1340 : (Jvm.Cond.methodLink "ReductionFinderModel" (209 : Nat) ({ cls := "ReductionFinderModel", name := "isAssigned", desc := "(I)Z" } : Jvm.MethodName)) ∈ PWS := pws_mem 1340 (by decide +kernel) rfl
theorem qw1342 : (Jvm.Cond.instanceMethod ({ cls := "ReductionFinderModel", name := "isAssigned", desc := "(I)Z" } : Jvm.MethodName)) ∈ PWS := pws_mem 1342 (by decide +kernel) rfl
theorem qw1343 : (Jvm.Cond.code ({ cls := "ReductionFinderModel", name := "isAssigned", desc := "(I)Z" } : Jvm.MethodName) prog_12_method_42_code (3 : Nat) (Option.some Jvm.ClassFile.FieldType.boolean)) ∈ PWS := pws_mem 1343 (by decide +kernel) rfl
theorem qw1344 : (Jvm.Cond.methodLink "ReductionFinderModel" (212 : Nat) ({ cls := "ReductionFinderModel", name := "occurs", desc := "(II)Z" } : Jvm.MethodName)) ∈ PWS := pws_mem 1344 (by decide +kernel) rfl
theorem qw1346 : (Jvm.Cond.instanceMethod ({ cls := "ReductionFinderModel", name := "occurs", desc := "(II)Z" } : Jvm.MethodName)) ∈ PWS := pws_mem 1346 (by decide +kernel) rfl
theorem qw1347 : (Jvm.Cond.code ({ cls := "ReductionFinderModel", name := "occurs", desc := "(II)Z" } : Jvm.MethodName) prog_12_method_38_code (3 : Nat) (Option.some Jvm.ClassFile.FieldType.boolean)) ∈ PWS := pws_mem 1347 (by decide +kernel) rfl
theorem qw1348 : (Jvm.Cond.methodLink "ReductionFinderModel" (195 : Nat) ({ cls := "ReductionFinderModel", name := "has", desc := "(IIII)Z" } : Jvm.MethodName)) ∈ PWS := pws_mem 1348 (by decide +kernel) rfl
theorem qw1350 : (Jvm.Cond.instanceMethod ({ cls := "ReductionFinderModel", name := "has", desc := "(IIII)Z" } : Jvm.MethodName)) ∈ PWS := pws_mem 1350 (by decide +kernel) rfl
theorem qw1351 : (Jvm.Cond.code ({ cls := "ReductionFinderModel", name := "has", desc := "(IIII)Z" } : Jvm.MethodName) prog_12_method_37_code (6 : Nat) (Option.some Jvm.ClassFile.FieldType.boolean)) ∈ PWS := pws_mem 1351 (by decide +kernel) rfl
theorem qw1352 : (Jvm.Cond.methodLink "ReductionFinderModel" (191 : Nat) ({ cls := "ReductionFinderModel", name := "part", desc := "(II)I" } : Jvm.MethodName)) ∈ PWS := pws_mem 1352 (by decide +kernel) rfl
theorem qw1354 : (Jvm.Cond.instanceMethod ({ cls := "ReductionFinderModel", name := "part", desc := "(II)I" } : Jvm.MethodName)) ∈ PWS := pws_mem 1354 (by decide +kernel) rfl
theorem qw1355 : (Jvm.Cond.code ({ cls := "ReductionFinderModel", name := "part", desc := "(II)I" } : Jvm.MethodName) prog_12_method_35_code (3 : Nat) (Option.some Jvm.ClassFile.FieldType.int)) ∈ PWS := pws_mem 1355 (by decide +kernel) rfl
theorem qw1356 : (Jvm.Cond.methodLink "ReductionFinderModel" (215 : Nat) ({ cls := "ReductionFinderModel", name := "operatorOf", desc := "(I)I" } : Jvm.MethodName)) ∈ PWS := pws_mem 1356 (by decide +kernel) rfl
theorem qw1358 : (Jvm.Cond.instanceMethod ({ cls := "ReductionFinderModel", name := "operatorOf", desc := "(I)I" } : Jvm.MethodName)) ∈ PWS := pws_mem 1358 (by decide +kernel) rfl
theorem qw1359 : (Jvm.Cond.code ({ cls := "ReductionFinderModel", name := "operatorOf", desc := "(I)I" } : Jvm.MethodName) prog_12_method_41_code (3 : Nat) (Option.some Jvm.ClassFile.FieldType.int)) ∈ PWS := pws_mem 1359 (by decide +kernel) rfl
theorem qw1360 : (Jvm.Cond.methodLink "ReductionFinderModel" (202 : Nat) ({ cls := "ReductionFinderModel", name := "chain", desc := "(III)I" } : Jvm.MethodName)) ∈ PWS := pws_mem 1360 (by decide +kernel) rfl
theorem qw1362 : (Jvm.Cond.instanceMethod ({ cls := "ReductionFinderModel", name := "chain", desc := "(III)I" } : Jvm.MethodName)) ∈ PWS := pws_mem 1362 (by decide +kernel) rfl
theorem qw1363 : (Jvm.Cond.code ({ cls := "ReductionFinderModel", name := "chain", desc := "(III)I" } : Jvm.MethodName) prog_12_method_40_code (10 : Nat) (Option.some Jvm.ClassFile.FieldType.int)) ∈ PWS := pws_mem 1363 (by decide +kernel) rfl
theorem qw1364 : (Jvm.Cond.methodLink "ReductionFinderModel" (199 : Nat) ({ cls := "ReductionFinderModel", name := "behind", desc := "(II)I" } : Jvm.MethodName)) ∈ PWS := pws_mem 1364 (by decide +kernel) rfl
theorem qw1366 : (Jvm.Cond.instanceMethod ({ cls := "ReductionFinderModel", name := "behind", desc := "(II)I" } : Jvm.MethodName)) ∈ PWS := pws_mem 1366 (by decide +kernel) rfl
theorem qw1367 : (Jvm.Cond.code ({ cls := "ReductionFinderModel", name := "behind", desc := "(II)I" } : Jvm.MethodName) prog_12_method_36_code (5 : Nat) (Option.some Jvm.ClassFile.FieldType.int)) ∈ PWS := pws_mem 1367 (by decide +kernel) rfl
theorem qw1368 : (Jvm.Cond.methodLink "ReductionFinderModel" (206 : Nat) ({ cls := "ReductionFinderModel", name := "isFree", desc := "(II)Z" } : Jvm.MethodName)) ∈ PWS := pws_mem 1368 (by decide +kernel) rfl
theorem qw1370 : (Jvm.Cond.instanceMethod ({ cls := "ReductionFinderModel", name := "isFree", desc := "(II)Z" } : Jvm.MethodName)) ∈ PWS := pws_mem 1370 (by decide +kernel) rfl
theorem qw1371 : (Jvm.Cond.code ({ cls := "ReductionFinderModel", name := "isFree", desc := "(II)Z" } : Jvm.MethodName) prog_12_method_39_code (3 : Nat) (Option.some Jvm.ClassFile.FieldType.boolean)) ∈ PWS := pws_mem 1371 (by decide +kernel) rfl
theorem qw1376 : (Jvm.Cond.methodLink "ReductionFinderModel" (221 : Nat) ({ cls := "ReductionFinderModel", name := "hasChain", desc := "(I)Z" } : Jvm.MethodName)) ∈ PWS := pws_mem 1376 (by decide +kernel) rfl
theorem qw1378 : (Jvm.Cond.instanceMethod ({ cls := "ReductionFinderModel", name := "hasChain", desc := "(I)Z" } : Jvm.MethodName)) ∈ PWS := pws_mem 1378 (by decide +kernel) rfl
theorem qw1379 : (Jvm.Cond.code ({ cls := "ReductionFinderModel", name := "hasChain", desc := "(I)Z" } : Jvm.MethodName) prog_12_method_46_code (2 : Nat) (Option.some Jvm.ClassFile.FieldType.boolean)) ∈ PWS := pws_mem 1379 (by decide +kernel) rfl
theorem qw1396 : (Jvm.Cond.methodLink "ReductionFinderModel" (224 : Nat) ({ cls := "ReductionFinderModel", name := "high", desc := "(II)I" } : Jvm.MethodName)) ∈ PWS := pws_mem 1396 (by decide +kernel) rfl
theorem qw1398 : (Jvm.Cond.instanceMethod ({ cls := "ReductionFinderModel", name := "high", desc := "(II)I" } : Jvm.MethodName)) ∈ PWS := pws_mem 1398 (by decide +kernel) rfl
theorem qw1399 : (Jvm.Cond.code ({ cls := "ReductionFinderModel", name := "high", desc := "(II)I" } : Jvm.MethodName) prog_12_method_51_code (6 : Nat) (Option.some Jvm.ClassFile.FieldType.int)) ∈ PWS := pws_mem 1399 (by decide +kernel) rfl
theorem qw1400 : (Jvm.Cond.methodLink "ReductionFinderModel" (227 : Nat) ({ cls := "java/lang/Math", name := "max", desc := "(II)I" } : Jvm.MethodName)) ∈ PWS := pws_mem 1400 (by decide +kernel) rfl
theorem qw1417 : (Jvm.Cond.methodLink "ReductionFinderModel" (235 : Nat) ({ cls := "ReductionFinderModel", name := "parallel", desc := "()Z" } : Jvm.MethodName)) ∈ PWS := pws_mem 1417 (by decide +kernel) rfl
theorem qw1419 : (Jvm.Cond.instanceMethod ({ cls := "ReductionFinderModel", name := "parallel", desc := "()Z" } : Jvm.MethodName)) ∈ PWS := pws_mem 1419 (by decide +kernel) rfl
theorem qw1420 : (Jvm.Cond.code ({ cls := "ReductionFinderModel", name := "parallel", desc := "()Z" } : Jvm.MethodName) prog_12_method_56_code (2 : Nat) (Option.some Jvm.ClassFile.FieldType.boolean)) ∈ PWS := pws_mem 1420 (by decide +kernel) rfl
theorem qw1429 : (Jvm.Cond.methodLink "ReductionFinderModel" (296 : Nat) ({ cls := "ReductionFinderModel", name := "isOrder", desc := "(II)Z" } : Jvm.MethodName)) ∈ PWS := pws_mem 1429 (by decide +kernel) rfl
theorem qw1430 : (Jvm.Cond.static ({ cls := "ReductionFinderModel", name := "isOrder", desc := "(II)Z" } : Jvm.MethodName)) ∈ PWS := pws_mem 1430 (by decide +kernel) rfl
theorem qw1431 : (Jvm.Cond.code ({ cls := "ReductionFinderModel", name := "isOrder", desc := "(II)Z" } : Jvm.MethodName) prog_12_method_73_code (2 : Nat) (Option.some Jvm.ClassFile.FieldType.boolean)) ∈ PWS := pws_mem 1431 (by decide +kernel) rfl
theorem qw1432 : (Jvm.Cond.methodLink "ReductionFinderModel" (299 : Nat) ({ cls := "ReductionFinderModel", name := "hasBits", desc := "()Z" } : Jvm.MethodName)) ∈ PWS := pws_mem 1432 (by decide +kernel) rfl
theorem qw1434 : (Jvm.Cond.instanceMethod ({ cls := "ReductionFinderModel", name := "hasBits", desc := "()Z" } : Jvm.MethodName)) ∈ PWS := pws_mem 1434 (by decide +kernel) rfl
theorem qw1435 : (Jvm.Cond.code ({ cls := "ReductionFinderModel", name := "hasBits", desc := "()Z" } : Jvm.MethodName) prog_12_method_72_code (3 : Nat) (Option.some Jvm.ClassFile.FieldType.boolean)) ∈ PWS := pws_mem 1435 (by decide +kernel) rfl
theorem qw1436 : (Jvm.Cond.methodLink "ReductionFinderModel" (302 : Nat) ({ cls := "ReductionFinderModel", name := "executes", desc := "(II)V" } : Jvm.MethodName)) ∈ PWS := pws_mem 1436 (by decide +kernel) rfl
theorem qw1438 : (Jvm.Cond.instanceMethod ({ cls := "ReductionFinderModel", name := "executes", desc := "(II)V" } : Jvm.MethodName)) ∈ PWS := pws_mem 1438 (by decide +kernel) rfl
theorem qw1439 : (Jvm.Cond.code ({ cls := "ReductionFinderModel", name := "executes", desc := "(II)V" } : Jvm.MethodName) prog_12_method_70_code (5 : Nat) (Option.none : Option Jvm.ClassFile.FieldType)) ∈ PWS := pws_mem 1439 (by decide +kernel) rfl
theorem qw1440 : (Jvm.Cond.methodLink "ReductionFinderModel" (267 : Nat) ({ cls := "ReductionFinderModel", name := "begins", desc := "()V" } : Jvm.MethodName)) ∈ PWS := pws_mem 1440 (by decide +kernel) rfl
theorem qw1442 : (Jvm.Cond.instanceMethod ({ cls := "ReductionFinderModel", name := "begins", desc := "()V" } : Jvm.MethodName)) ∈ PWS := pws_mem 1442 (by decide +kernel) rfl
theorem qw1443 : (Jvm.Cond.code ({ cls := "ReductionFinderModel", name := "begins", desc := "()V" } : Jvm.MethodName) prog_12_method_65_code (2 : Nat) (Option.none : Option Jvm.ClassFile.FieldType)) ∈ PWS := pws_mem 1443 (by decide +kernel) rfl
theorem qw1444 : (Jvm.Cond.methodLink "ReductionFinderModel" (280 : Nat) ({ cls := "ReductionFinderModel", name := "runs", desc := "(I)V" } : Jvm.MethodName)) ∈ PWS := pws_mem 1444 (by decide +kernel) rfl
theorem qw1446 : (Jvm.Cond.instanceMethod ({ cls := "ReductionFinderModel", name := "runs", desc := "(I)V" } : Jvm.MethodName)) ∈ PWS := pws_mem 1446 (by decide +kernel) rfl
theorem qw1447 : (Jvm.Cond.code ({ cls := "ReductionFinderModel", name := "runs", desc := "(I)V" } : Jvm.MethodName) prog_12_method_64_code (3 : Nat) (Option.none : Option Jvm.ClassFile.FieldType)) ∈ PWS := pws_mem 1447 (by decide +kernel) rfl
theorem qw1448 : (Jvm.Cond.methodLink "ReductionFinderModel" (253 : Nat) ({ cls := "ReductionFinderModel", name := "intAt", desc := "(I)I" } : Jvm.MethodName)) ∈ PWS := pws_mem 1448 (by decide +kernel) rfl
theorem qw1450 : (Jvm.Cond.instanceMethod ({ cls := "ReductionFinderModel", name := "intAt", desc := "(I)I" } : Jvm.MethodName)) ∈ PWS := pws_mem 1450 (by decide +kernel) rfl
theorem qw1451 : (Jvm.Cond.code ({ cls := "ReductionFinderModel", name := "intAt", desc := "(I)I" } : Jvm.MethodName) prog_12_method_62_code (6 : Nat) (Option.some Jvm.ClassFile.FieldType.int)) ∈ PWS := pws_mem 1451 (by decide +kernel) rfl
theorem qw1452 : (Jvm.Cond.methodLink "ReductionFinderModel" (256 : Nat) ({ cls := "ReductionFinderModel", name := "intBy", desc := "(III)I" } : Jvm.MethodName)) ∈ PWS := pws_mem 1452 (by decide +kernel) rfl
theorem qw1453 : (Jvm.Cond.static ({ cls := "ReductionFinderModel", name := "intBy", desc := "(III)I" } : Jvm.MethodName)) ∈ PWS := pws_mem 1453 (by decide +kernel) rfl
theorem qw1454 : (Jvm.Cond.code ({ cls := "ReductionFinderModel", name := "intBy", desc := "(III)I" } : Jvm.MethodName) prog_12_method_59_code (3 : Nat) (Option.some Jvm.ClassFile.FieldType.int)) ∈ PWS := pws_mem 1454 (by decide +kernel) rfl
theorem qw1455 : (Jvm.Cond.methodLink "ReductionFinderModel" (259 : Nat) ({ cls := "ReductionFinderModel", name := "floatAt", desc := "(I)F" } : Jvm.MethodName)) ∈ PWS := pws_mem 1455 (by decide +kernel) rfl
theorem qw1457 : (Jvm.Cond.instanceMethod ({ cls := "ReductionFinderModel", name := "floatAt", desc := "(I)F" } : Jvm.MethodName)) ∈ PWS := pws_mem 1457 (by decide +kernel) rfl
theorem qw1458 : (Jvm.Cond.code ({ cls := "ReductionFinderModel", name := "floatAt", desc := "(I)F" } : Jvm.MethodName) prog_12_method_63_code (6 : Nat) (Option.some Jvm.ClassFile.FieldType.float)) ∈ PWS := pws_mem 1458 (by decide +kernel) rfl
theorem qw1459 : (Jvm.Cond.methodLink "ReductionFinderModel" (263 : Nat) ({ cls := "ReductionFinderModel", name := "floatBy", desc := "(IFF)F" } : Jvm.MethodName)) ∈ PWS := pws_mem 1459 (by decide +kernel) rfl
theorem qw1460 : (Jvm.Cond.static ({ cls := "ReductionFinderModel", name := "floatBy", desc := "(IFF)F" } : Jvm.MethodName)) ∈ PWS := pws_mem 1460 (by decide +kernel) rfl
theorem qw1461 : (Jvm.Cond.code ({ cls := "ReductionFinderModel", name := "floatBy", desc := "(IFF)F" } : Jvm.MethodName) prog_12_method_61_code (3 : Nat) (Option.some Jvm.ClassFile.FieldType.float)) ∈ PWS := pws_mem 1461 (by decide +kernel) rfl
theorem qw1462 : (Jvm.Cond.methodLink "ReductionFinderModel" (240 : Nat) ({ cls := "ReductionFinderModel", name := "bounded", desc := "(F)F" } : Jvm.MethodName)) ∈ PWS := pws_mem 1462 (by decide +kernel) rfl
theorem qw1463 : (Jvm.Cond.static ({ cls := "ReductionFinderModel", name := "bounded", desc := "(F)F" } : Jvm.MethodName)) ∈ PWS := pws_mem 1463 (by decide +kernel) rfl
theorem qw1464 : (Jvm.Cond.code ({ cls := "ReductionFinderModel", name := "bounded", desc := "(F)F" } : Jvm.MethodName) prog_12_method_60_code (1 : Nat) (Option.some Jvm.ClassFile.FieldType.float)) ∈ PWS := pws_mem 1464 (by decide +kernel) rfl
theorem qw1465 : (Jvm.Cond.constantFloat "ReductionFinderModel" (238 : Nat) (1900671690 : UInt32)) ∈ PWS := pws_mem 1465 (by decide +kernel) rfl
theorem qw1466 : (Jvm.Cond.constantFloat "ReductionFinderModel" (239 : Nat) (4048155338 : UInt32)) ∈ PWS := pws_mem 1466 (by decide +kernel) rfl
theorem qw1478 : (Jvm.Cond.methodLink "ReductionFinderModel" (270 : Nat) ({ cls := "ReductionFinderModel", name := "isReduction", desc := "(I)Z" } : Jvm.MethodName)) ∈ PWS := pws_mem 1478 (by decide +kernel) rfl
theorem qw1480 : (Jvm.Cond.instanceMethod ({ cls := "ReductionFinderModel", name := "isReduction", desc := "(I)Z" } : Jvm.MethodName)) ∈ PWS := pws_mem 1480 (by decide +kernel) rfl
theorem qw1481 : (Jvm.Cond.code ({ cls := "ReductionFinderModel", name := "isReduction", desc := "(I)Z" } : Jvm.MethodName) prog_12_method_44_code (2 : Nat) (Option.some Jvm.ClassFile.FieldType.boolean)) ∈ PWS := pws_mem 1481 (by decide +kernel) rfl
theorem qw1482 : (Jvm.Cond.methodLink "ReductionFinderModel" (283 : Nat) ({ cls := "ReductionFinderModel", name := "combines", desc := "(III)V" } : Jvm.MethodName)) ∈ PWS := pws_mem 1482 (by decide +kernel) rfl
theorem qw1484 : (Jvm.Cond.instanceMethod ({ cls := "ReductionFinderModel", name := "combines", desc := "(III)V" } : Jvm.MethodName)) ∈ PWS := pws_mem 1484 (by decide +kernel) rfl
theorem qw1485 : (Jvm.Cond.code ({ cls := "ReductionFinderModel", name := "combines", desc := "(III)V" } : Jvm.MethodName) prog_12_method_71_code (9 : Nat) (Option.none : Option Jvm.ClassFile.FieldType)) ∈ PWS := pws_mem 1485 (by decide +kernel) rfl
theorem qw1486 : (Jvm.Cond.methodLink "ReductionFinderModel" (287 : Nat) ({ cls := "ReductionFinderModel", name := "parts", desc := "(II)I" } : Jvm.MethodName)) ∈ PWS := pws_mem 1486 (by decide +kernel) rfl
theorem qw1488 : (Jvm.Cond.instanceMethod ({ cls := "ReductionFinderModel", name := "parts", desc := "(II)I" } : Jvm.MethodName)) ∈ PWS := pws_mem 1488 (by decide +kernel) rfl
theorem qw1489 : (Jvm.Cond.code ({ cls := "ReductionFinderModel", name := "parts", desc := "(II)I" } : Jvm.MethodName) prog_12_method_67_code (3 : Nat) (Option.some Jvm.ClassFile.FieldType.int)) ∈ PWS := pws_mem 1489 (by decide +kernel) rfl
theorem qw1490 : (Jvm.Cond.methodLink "ReductionFinderModel" (290 : Nat) ({ cls := "ReductionFinderModel", name := "beginsPart", desc := "()V" } : Jvm.MethodName)) ∈ PWS := pws_mem 1490 (by decide +kernel) rfl
theorem qw1492 : (Jvm.Cond.instanceMethod ({ cls := "ReductionFinderModel", name := "beginsPart", desc := "()V" } : Jvm.MethodName)) ∈ PWS := pws_mem 1492 (by decide +kernel) rfl
theorem qw1493 : (Jvm.Cond.code ({ cls := "ReductionFinderModel", name := "beginsPart", desc := "()V" } : Jvm.MethodName) prog_12_method_66_code (3 : Nat) (Option.none : Option Jvm.ClassFile.FieldType)) ∈ PWS := pws_mem 1493 (by decide +kernel) rfl
theorem qw1494 : (Jvm.Cond.constant "ReductionFinderModel" (275 : Nat) (2147483647 : Int32)) ∈ PWS := pws_mem 1494 (by decide +kernel) rfl
theorem qw1495 : (Jvm.Cond.constant "ReductionFinderModel" (276 : Nat) (-2147483648 : Int32)) ∈ PWS := pws_mem 1495 (by decide +kernel) rfl
theorem qw1496 : (Jvm.Cond.methodLink "ReductionFinderModel" (293 : Nat) ({ cls := "ReductionFinderModel", name := "partOf", desc := "(III)I" } : Jvm.MethodName)) ∈ PWS := pws_mem 1496 (by decide +kernel) rfl
theorem qw1498 : (Jvm.Cond.instanceMethod ({ cls := "ReductionFinderModel", name := "partOf", desc := "(III)I" } : Jvm.MethodName)) ∈ PWS := pws_mem 1498 (by decide +kernel) rfl
theorem qw1499 : (Jvm.Cond.code ({ cls := "ReductionFinderModel", name := "partOf", desc := "(III)I" } : Jvm.MethodName) prog_12_method_69_code (4 : Nat) (Option.some Jvm.ClassFile.FieldType.int)) ∈ PWS := pws_mem 1499 (by decide +kernel) rfl
theorem qw1500 : (Jvm.Cond.methodLink "ReductionFinderModel" (277 : Nat) ({ cls := "ReductionFinderModel", name := "share", desc := "(II)I" } : Jvm.MethodName)) ∈ PWS := pws_mem 1500 (by decide +kernel) rfl
theorem qw1501 : (Jvm.Cond.static ({ cls := "ReductionFinderModel", name := "share", desc := "(II)I" } : Jvm.MethodName)) ∈ PWS := pws_mem 1501 (by decide +kernel) rfl
theorem qw1502 : (Jvm.Cond.code ({ cls := "ReductionFinderModel", name := "share", desc := "(II)I" } : Jvm.MethodName) prog_12_method_68_code (2 : Nat) (Option.some Jvm.ClassFile.FieldType.int)) ∈ PWS := pws_mem 1502 (by decide +kernel) rfl
theorem qw1529 : (Jvm.Cond.methodLink "ReductionFinderModel" (310 : Nat) ({ cls := "ReductionFinderModel", name := "costs", desc := "(II)I" } : Jvm.MethodName)) ∈ PWS := pws_mem 1529 (by decide +kernel) rfl
theorem qw1531 : (Jvm.Cond.instanceMethod ({ cls := "ReductionFinderModel", name := "costs", desc := "(II)I" } : Jvm.MethodName)) ∈ PWS := pws_mem 1531 (by decide +kernel) rfl
theorem qw1532 : (Jvm.Cond.code ({ cls := "ReductionFinderModel", name := "costs", desc := "(II)I" } : Jvm.MethodName) prog_12_method_78_code (8 : Nat) (Option.some Jvm.ClassFile.FieldType.int)) ∈ PWS := pws_mem 1532 (by decide +kernel) rfl
theorem k_X9_checkChain : CalOK yX9_checkChain cX9_checkChain 3 none 1 := ⟨qw809, qw76, by decide, by decide +kernel, by decide⟩
theorem k_X9_checkCursor : CalOK yX9_checkCursor cX9_checkCursor 1 none 0 := ⟨qw878, qw76, by decide, by decide +kernel, by decide⟩
theorem k_X9_checkElement : CalOK yX9_checkElement cX9_checkElement 2 none 2 := ⟨qw746, qw76, by decide, by decide +kernel, by decide⟩
theorem k_X9_checkOperators : CalOK yX9_checkOperators cX9_checkOperators 1 none 0 := ⟨qw926, qw76, by decide, by decide +kernel, by decide⟩
theorem k_X9_checkOrder : CalOK yX9_checkOrder cX9_checkOrder 2 none 2 := ⟨qw920, qw76, by decide, by decide +kernel, by decide⟩
theorem k_X9_checkParallel : CalOK yX9_checkParallel cX9_checkParallel 2 none 1 := ⟨qw931, qw76, by decide, by decide +kernel, by decide⟩
theorem k_X9_checkVariable : CalOK yX9_checkVariable cX9_checkVariable 1 none 1 := ⟨qw789, qw76, by decide, by decide +kernel, by decide⟩
theorem k_X9_isStart : CalOK yX9_isStart cX9_isStart 1 (some .boolean) 1 := ⟨qw602, qw76, by decide, by decide +kernel, by decide⟩
theorem k_X9_machineOfMode : CalOK yX9_machineOfMode cX9_machineOfMode 1 (some (.object "ReductionFinder$Machine")) 0 := ⟨qw936, qw76, by decide, by decide +kernel, by decide⟩
theorem k_X9_operandsOf : CalOK yX9_operandsOf cX9_operandsOf 1 (some .int) 1 := ⟨qw561, qw76, by decide, by decide +kernel, by decide⟩
theorem k_X9_quotientUp : CalOK yX9_quotientUp cX9_quotientUp 2 (some .int) 2 := ⟨qw395, qw76, by decide, by decide +kernel, by decide⟩
theorem k_X9_spareProgram : CalOK yX9_spareProgram cX9_spareProgram 2 (some (.object "ReductionFinder$Program")) 0 := ⟨qw577, qw76, by decide, by decide +kernel, by decide⟩
theorem k_X9_switchTo : CalOK yX9_switchTo cX9_switchTo 2 none 1 := ⟨qw719, qw76, by decide, by decide +kernel, by decide⟩
theorem k_X9_treeRows : CalOK yX9_treeRows cX9_treeRows 3 (some .int) 1 := ⟨qw392, qw76, by decide, by decide +kernel, by decide⟩
theorem k_X9_unitsOf : CalOK yX9_unitsOf cX9_unitsOf 4 (some .int) 2 := ⟨qw389, qw76, by decide, by decide +kernel, by decide⟩
theorem k_X0_countTerms : CalOK yX0_countTerms cX0_countTerms 5 (some .int) 4 := ⟨qw627, qw80, by decide, by decide +kernel, by decide⟩
theorem k_X0_joinChoice : CalOK yX0_joinChoice cX0_joinChoice 5 none 1 := ⟨qw706, qw80, by decide, by decide +kernel, by decide⟩
theorem k_X0_joinPair : CalOK yX0_joinPair cX0_joinPair 6 none 2 := ⟨qw678, qw80, by decide, by decide +kernel, by decide⟩
theorem k_X0_putLeaf : CalOK yX0_putLeaf cX0_putLeaf 3 none 2 := ⟨qw643, qw80, by decide, by decide +kernel, by decide⟩
theorem k_X1_copyFrom : CalOK yX1_copyFrom cX1_copyFrom 3 none 1 := ⟨qw403, qw81, by decide, by decide +kernel, by decide⟩
theorem k_X2_calculate : CalOK yX2_calculate cX2_calculate 4 (some .float) 3 := ⟨qw684, qw84, by decide, by decide +kernel, by decide⟩
theorem k_X2_combine : CalOK yX2_combine cX2_combine 5 none 4 := ⟨qw1026, qw84, by decide, by decide +kernel, by decide⟩
theorem k_X2_copyValue : CalOK yX2_copyValue cX2_copyValue 4 none 3 := ⟨qw1013, qw84, by decide, by decide +kernel, by decide⟩
theorem k_X2_joinChoice : CalOK yX2_joinChoice cX2_joinChoice 2 none 1 := ⟨qw709, qw84, by decide, by decide +kernel, by decide⟩
theorem k_X2_joinPair : CalOK yX2_joinPair cX2_joinPair 3 none 2 := ⟨qw681, qw84, by decide, by decide +kernel, by decide⟩
theorem k_X2_neutralOf : CalOK yX2_neutralOf cX2_neutralOf 1 (some .float) 1 := ⟨qw989, qw84, by decide, by decide +kernel, by decide⟩
theorem k_X2_putLeaf : CalOK yX2_putLeaf cX2_putLeaf 3 none 2 := ⟨qw646, qw84, by decide, by decide +kernel, by decide⟩
theorem k_X2_setInitialValue : CalOK yX2_setInitialValue cX2_setInitialValue 4 none 3 := ⟨qw954, qw84, by decide, by decide +kernel, by decide⟩
theorem k_X2_setNeutral : CalOK yX2_setNeutral cX2_setNeutral 4 none 3 := ⟨qw986, qw84, by decide, by decide +kernel, by decide⟩
theorem k_X2_storeValue : CalOK yX2_storeValue cX2_storeValue 3 none 2 := ⟨qw972, qw84, by decide, by decide +kernel, by decide⟩
theorem k_X2_valueOf : CalOK yX2_valueOf cX2_valueOf 3 (some .double) 2 := ⟨qw1043, qw84, by decide, by decide +kernel, by decide⟩
theorem k_X3_heightOf : CalOK yX3_heightOf cX3_heightOf 3 (some .int) 2 := ⟨qw857, qw79, by decide, by decide +kernel, by decide⟩
theorem k_X3_joinChoice : CalOK yX3_joinChoice cX3_joinChoice 2 none 1 := ⟨qw712, qw79, by decide, by decide +kernel, by decide⟩
theorem k_X3_joinPair : CalOK yX3_joinPair cX3_joinPair 3 none 2 := ⟨qw689, qw79, by decide, by decide +kernel, by decide⟩
theorem k_X3_putLeaf : CalOK yX3_putLeaf cX3_putLeaf 3 none 2 := ⟨qw662, qw79, by decide, by decide +kernel, by decide⟩
theorem k_X4_calculate : CalOK yX4_calculate cX4_calculate 3 (some .int) 3 := ⟨qw698, qw83, by decide, by decide +kernel, by decide⟩
theorem k_X4_combine : CalOK yX4_combine cX4_combine 5 none 4 := ⟨qw1029, qw83, by decide, by decide +kernel, by decide⟩
theorem k_X4_copyValue : CalOK yX4_copyValue cX4_copyValue 4 none 3 := ⟨qw1016, qw83, by decide, by decide +kernel, by decide⟩
theorem k_X4_joinChoice : CalOK yX4_joinChoice cX4_joinChoice 2 none 1 := ⟨qw715, qw83, by decide, by decide +kernel, by decide⟩
theorem k_X4_joinPair : CalOK yX4_joinPair cX4_joinPair 3 none 2 := ⟨qw695, qw83, by decide, by decide +kernel, by decide⟩
theorem k_X4_neutralOf : CalOK yX4_neutralOf cX4_neutralOf 1 (some .int) 1 := ⟨qw995, qw83, by decide, by decide +kernel, by decide⟩
theorem k_X4_putLeaf : CalOK yX4_putLeaf cX4_putLeaf 3 none 2 := ⟨qw665, qw83, by decide, by decide +kernel, by decide⟩
theorem k_X4_setInitialValue : CalOK yX4_setInitialValue cX4_setInitialValue 4 none 3 := ⟨qw957, qw83, by decide, by decide +kernel, by decide⟩
theorem k_X4_setNeutral : CalOK yX4_setNeutral cX4_setNeutral 4 none 3 := ⟨qw992, qw83, by decide, by decide +kernel, by decide⟩
theorem k_X4_storeValue : CalOK yX4_storeValue cX4_storeValue 3 none 2 := ⟨qw975, qw83, by decide, by decide +kernel, by decide⟩
theorem k_X4_valueOf : CalOK yX4_valueOf cX4_valueOf 3 (some .double) 2 := ⟨qw1046, qw83, by decide, by decide +kernel, by decide⟩
theorem k_X5_beginRow : CalOK yX5_beginRow cX5_beginRow 3 none 1 := ⟨qw948, qw82, by decide, by decide +kernel, by decide⟩
theorem k_X5_combineReductions : CalOK yX5_combineReductions cX5_combineReductions 5 none 3 := ⟨qw1020, qw82, by decide, by decide +kernel, by decide⟩
theorem k_X5_constantOf : CalOK yX5_constantOf cX5_constantOf 3 (some .int) 1 := ⟨qw659, qw82, by decide, by decide +kernel, by decide⟩
theorem k_X5_copyReductions : CalOK yX5_copyReductions cX5_copyReductions 5 none 3 := ⟨qw1007, qw82, by decide, by decide +kernel, by decide⟩
theorem k_X5_countChanged : CalOK yX5_countChanged cX5_countChanged 3 (some .int) 0 := ⟨qw1037, qw82, by decide, by decide +kernel, by decide⟩
theorem k_X5_joinParts : CalOK yX5_joinParts cX5_joinParts 4 none 2 := ⟨qw1033, qw82, by decide, by decide +kernel, by decide⟩
theorem k_X5_joinTree : CalOK yX5_joinTree cX5_joinTree 5 none 2 := ⟨qw1003, qw82, by decide, by decide +kernel, by decide⟩
theorem k_X5_rowNow : CalOK yX5_rowNow cX5_rowNow 1 (some .int) 0 := ⟨qw653, qw82, by decide, by decide +kernel, by decide⟩
theorem k_X5_runIteration : CalOK yX5_runIteration cX5_runIteration 5 none 3 := ⟨qw961, qw82, by decide, by decide +kernel, by decide⟩
theorem k_X5_runOrder : CalOK yX5_runOrder cX5_runOrder 6 none 3 := ⟨qw940, qw82, by decide, by decide +kernel, by decide⟩
theorem k_X5_runPart : CalOK yX5_runPart cX5_runPart 10 none 4 := ⟨qw980, qw82, by decide, by decide +kernel, by decide⟩
theorem k_X5_runSequence : CalOK yX5_runSequence cX5_runSequence 4 none 2 := ⟨qw944, qw82, by decide, by decide +kernel, by decide⟩
theorem k_X6_assign : CalOK yX6_assign cX6_assign 7 (some .boolean) 1 := ⟨qw595, qw85, by decide, by decide +kernel, by decide⟩
theorem k_X6_build : CalOK yX6_build cX6_build 3 (some .boolean) 1 := ⟨qw581, qw85, by decide, by decide +kernel, by decide⟩
theorem k_X6_classify : CalOK yX6_classify cX6_classify 4 none 1 := ⟨qw607, qw85, by decide, by decide +kernel, by decide⟩
theorem k_X6_copyStatements : CalOK yX6_copyStatements cX6_copyStatements 2 none 1 := ⟨qw585, qw85, by decide, by decide +kernel, by decide⟩
theorem k_X6_countOperations : CalOK yX6_countOperations cX6_countOperations 4 none 1 := ⟨qw590, qw85, by decide, by decide +kernel, by decide⟩
theorem k_X6_findChain : CalOK yX6_findChain cX6_findChain 5 (some .boolean) 2 := ⟨qw623, qw85, by decide, by decide +kernel, by decide⟩
theorem k_X6_firstCodeOf : CalOK yX6_firstCodeOf cX6_firstCodeOf 2 (some .int) 1 := ⟨qw599, qw85, by decide, by decide +kernel, by decide⟩
theorem k_X6_kindOf : CalOK yX6_kindOf cX6_kindOf 5 (some .int) 2 := ⟨qw615, qw85, by decide, by decide +kernel, by decide⟩
theorem k_X6_maskOf : CalOK yX6_maskOf cX6_maskOf 5 (some .int) 1 := ⟨qw611, qw85, by decide, by decide +kernel, by decide⟩
theorem k_X6_occursInOthers : CalOK yX6_occursInOthers cX6_occursInOthers 3 (some .boolean) 1 := ⟨qw619, qw85, by decide, by decide +kernel, by decide⟩
theorem k_X7_addCode : CalOK yX7_addCode cX7_addCode 2 none 1 := ⟨qw550, qw77, by decide, by decide +kernel, by decide⟩
theorem k_X7_addSign : CalOK yX7_addSign cX7_addSign 2 none 1 := ⟨qw505, qw77, by decide, by decide +kernel, by decide⟩
theorem k_X7_codeOf : CalOK yX7_codeOf cX7_codeOf 1 (some .int) 1 := ⟨qw564, qw77, by decide, by decide +kernel, by decide⟩
theorem k_X7_insertCode : CalOK yX7_insertCode cX7_insertCode 3 none 2 := ⟨qw571, qw77, by decide, by decide +kernel, by decide⟩
theorem k_X7_isDigit : CalOK yX7_isDigit cX7_isDigit 1 (some .boolean) 1 := ⟨qw542, qw77, by decide, by decide +kernel, by decide⟩
theorem k_X7_isVariable : CalOK yX7_isVariable cX7_isVariable 1 (some .boolean) 1 := ⟨qw527, qw77, by decide, by decide +kernel, by decide⟩
theorem k_X7_levelOf : CalOK yX7_levelOf cX7_levelOf 1 (some .int) 1 := ⟨qw567, qw77, by decide, by decide +kernel, by decide⟩
theorem k_X7_peek : CalOK yX7_peek cX7_peek 1 (some .char) 0 := ⟨qw524, qw77, by decide, by decide +kernel, by decide⟩
theorem k_X7_readFactor : CalOK yX7_readFactor cX7_readFactor 4 (some .boolean) 1 := ⟨qw539, qw77, by decide, by decide +kernel, by decide⟩
theorem k_X7_readFunction : CalOK yX7_readFunction cX7_readFunction 5 (some .boolean) 2 := ⟨qw558, qw77, by decide, by decide +kernel, by decide⟩
theorem k_X7_readLevel : CalOK yX7_readLevel cX7_readLevel 4 (some .boolean) 2 := ⟨qw535, qw77, by decide, by decide +kernel, by decide⟩
theorem k_X7_readName : CalOK yX7_readName cX7_readName 1 (some .int) 0 := ⟨qw554, qw77, by decide, by decide +kernel, by decide⟩
theorem k_X7_readNumber : CalOK yX7_readNumber cX7_readNumber 3 (some .boolean) 0 := ⟨qw546, qw77, by decide, by decide +kernel, by decide⟩
theorem k_X7_readStatement : CalOK yX7_readStatement cX7_readStatement 2 (some .boolean) 0 := ⟨qw520, qw77, by decide, by decide +kernel, by decide⟩
theorem k_X7_readText : CalOK yX7_readText cX7_readText 2 (some .boolean) 0 := ⟨qw516, qw77, by decide, by decide +kernel, by decide⟩
theorem k_X7_take : CalOK yX7_take cX7_take 2 (some .boolean) 1 := ⟨qw531, qw77, by decide, by decide +kernel, by decide⟩
theorem k_X8_walk : CalOK yX8_walk cX8_walk 9 none 3 := ⟨qw633, qw78, by decide, by decide +kernel, by decide⟩
theorem k_X10_begins : CalOK yX10_begins cX10_begins 2 none 0 := ⟨qw1443, qw86, by decide, by decide +kernel, by decide⟩
theorem k_X10_beginsPart : CalOK yX10_beginsPart cX10_beginsPart 3 none 0 := ⟨qw1493, qw86, by decide, by decide +kernel, by decide⟩
theorem k_X10_behind : CalOK yX10_behind cX10_behind 5 (some .int) 2 := ⟨qw1367, qw86, by decide, by decide +kernel, by decide⟩
theorem k_X10_bounded : CalOK yX10_bounded cX10_bounded 1 (some .float) 1 := ⟨qw1464, qw86, by decide, by decide +kernel, by decide⟩
theorem k_X10_chain : CalOK yX10_chain cX10_chain 10 (some .int) 3 := ⟨qw1363, qw86, by decide, by decide +kernel, by decide⟩
theorem k_X10_closes : CalOK yX10_closes cX10_closes 1 none 0 := ⟨qw1276, qw86, by decide, by decide +kernel, by decide⟩
theorem k_X10_code : CalOK yX10_code cX10_code 1 (some .int) 1 := ⟨qw1100, qw86, by decide, by decide +kernel, by decide⟩
theorem k_X10_combines : CalOK yX10_combines cX10_combines 9 none 3 := ⟨qw1485, qw86, by decide, by decide +kernel, by decide⟩
theorem k_X10_costs : CalOK yX10_costs cX10_costs 8 (some .int) 2 := ⟨qw1532, qw86, by decide, by decide +kernel, by decide⟩
theorem k_X10_drops : CalOK yX10_drops cX10_drops 1 none 0 := ⟨qw1291, qw86, by decide, by decide +kernel, by decide⟩
theorem k_X10_ends : CalOK yX10_ends cX10_ends 7 (some .boolean) 0 := ⟨qw1097, qw86, by decide, by decide +kernel, by decide⟩
theorem k_X10_executes : CalOK yX10_executes cX10_executes 5 none 2 := ⟨qw1439, qw86, by decide, by decide +kernel, by decide⟩
theorem k_X10_expects : CalOK yX10_expects cX10_expects 2 none 1 := ⟨qw1240, qw86, by decide, by decide +kernel, by decide⟩
theorem k_X10_expression : CalOK yX10_expression cX10_expression 3 (some .int) 0 := ⟨qw1248, qw86, by decide, by decide +kernel, by decide⟩
theorem k_X10_factor : CalOK yX10_factor cX10_factor 3 (some .int) 0 := ⟨qw1260, qw86, by decide, by decide +kernel, by decide⟩
theorem k_X10_floatAt : CalOK yX10_floatAt cX10_floatAt 6 (some .float) 1 := ⟨qw1458, qw86, by decide, by decide +kernel, by decide⟩
theorem k_X10_floatBy : CalOK yX10_floatBy cX10_floatBy 3 (some .float) 3 := ⟨qw1461, qw86, by decide, by decide +kernel, by decide⟩
theorem k_X10_function : CalOK yX10_function cX10_function 5 (some .int) 1 := ⟨qw1268, qw86, by decide, by decide +kernel, by decide⟩
theorem k_X10_has : CalOK yX10_has cX10_has 6 (some .boolean) 4 := ⟨qw1351, qw86, by decide, by decide +kernel, by decide⟩
theorem k_X10_hasBits : CalOK yX10_hasBits cX10_hasBits 3 (some .boolean) 0 := ⟨qw1435, qw86, by decide, by decide +kernel, by decide⟩
theorem k_X10_hasChain : CalOK yX10_hasChain cX10_hasChain 2 (some .boolean) 1 := ⟨qw1379, qw86, by decide, by decide +kernel, by decide⟩
theorem k_X10_here : CalOK yX10_here cX10_here 1 (some .int) 0 := ⟨qw1236, qw86, by decide, by decide +kernel, by decide⟩
theorem k_X10_high : CalOK yX10_high cX10_high 6 (some .int) 2 := ⟨qw1399, qw86, by decide, by decide +kernel, by decide⟩
theorem k_X10_in : CalOK yX10_in cX10_in 3 (some .boolean) 3 := ⟨qw1103, qw86, by decide, by decide +kernel, by decide⟩
theorem k_X10_intAt : CalOK yX10_intAt cX10_intAt 6 (some .int) 1 := ⟨qw1451, qw86, by decide, by decide +kernel, by decide⟩
theorem k_X10_intBy : CalOK yX10_intBy cX10_intBy 3 (some .int) 3 := ⟨qw1454, qw86, by decide, by decide +kernel, by decide⟩
theorem k_X10_isAssigned : CalOK yX10_isAssigned cX10_isAssigned 3 (some .boolean) 1 := ⟨qw1343, qw86, by decide, by decide +kernel, by decide⟩
theorem k_X10_isFree : CalOK yX10_isFree cX10_isFree 3 (some .boolean) 2 := ⟨qw1371, qw86, by decide, by decide +kernel, by decide⟩
theorem k_X10_isOrder : CalOK yX10_isOrder cX10_isOrder 2 (some .boolean) 2 := ⟨qw1431, qw86, by decide, by decide +kernel, by decide⟩
theorem k_X10_isPlace : CalOK yX10_isPlace cX10_isPlace 2 (some .boolean) 2 := ⟨qw1314, qw86, by decide, by decide +kernel, by decide⟩
theorem k_X10_isReduction : CalOK yX10_isReduction cX10_isReduction 2 (some .boolean) 1 := ⟨qw1481, qw86, by decide, by decide +kernel, by decide⟩
theorem k_X10_isVariable : CalOK yX10_isVariable cX10_isVariable 1 (some .boolean) 1 := ⟨qw1331, qw86, by decide, by decide +kernel, by decide⟩
theorem k_X10_keeps : CalOK yX10_keeps cX10_keeps 4 none 2 := ⟨qw1287, qw86, by decide, by decide +kernel, by decide⟩
theorem k_X10_kinds : CalOK yX10_kinds cX10_kinds 4 (some .int) 1 := ⟨qw1339, qw86, by decide, by decide +kernel, by decide⟩
theorem k_X10_node : CalOK yX10_node cX10_node 5 (some .int) 4 := ⟨qw1264, qw86, by decide, by decide +kernel, by decide⟩
theorem k_X10_occurs : CalOK yX10_occurs cX10_occurs 3 (some .boolean) 2 := ⟨qw1347, qw86, by decide, by decide +kernel, by decide⟩
theorem k_X10_opens : CalOK yX10_opens cX10_opens 1 none 0 := ⟨qw1272, qw86, by decide, by decide +kernel, by decide⟩
theorem k_X10_operands : CalOK yX10_operands cX10_operands 1 (some .int) 1 := ⟨qw1283, qw86, by decide, by decide +kernel, by decide⟩
theorem k_X10_operatorOf : CalOK yX10_operatorOf cX10_operatorOf 3 (some .int) 1 := ⟨qw1359, qw86, by decide, by decide +kernel, by decide⟩
theorem k_X10_parallel : CalOK yX10_parallel cX10_parallel 2 (some .boolean) 0 := ⟨qw1420, qw86, by decide, by decide +kernel, by decide⟩
theorem k_X10_part : CalOK yX10_part cX10_part 3 (some .int) 2 := ⟨qw1355, qw86, by decide, by decide +kernel, by decide⟩
theorem k_X10_partOf : CalOK yX10_partOf cX10_partOf 4 (some .int) 3 := ⟨qw1499, qw86, by decide, by decide +kernel, by decide⟩
theorem k_X10_parts : CalOK yX10_parts cX10_parts 3 (some .int) 2 := ⟨qw1489, qw86, by decide, by decide +kernel, by decide⟩
theorem k_X10_product : CalOK yX10_product cX10_product 2 (some .int) 0 := ⟨qw1256, qw86, by decide, by decide +kernel, by decide⟩
theorem k_X10_raises : CalOK yX10_raises cX10_raises 2 (some .int) 1 := ⟨qw1224, qw86, by decide, by decide +kernel, by decide⟩
theorem k_X10_reads : CalOK yX10_reads cX10_reads 5 (some .int) 0 := ⟨qw1232, qw86, by decide, by decide +kernel, by decide⟩
theorem k_X10_runs : CalOK yX10_runs cX10_runs 3 none 1 := ⟨qw1447, qw86, by decide, by decide +kernel, by decide⟩
theorem k_X10_share : CalOK yX10_share cX10_share 2 (some .int) 2 := ⟨qw1502, qw86, by decide, by decide +kernel, by decide⟩
theorem k_X10_sum : CalOK yX10_sum cX10_sum 3 (some .int) 0 := ⟨qw1252, qw86, by decide, by decide +kernel, by decide⟩
theorem k_X10_takes : CalOK yX10_takes cX10_takes 2 (some .boolean) 1 := ⟨qw1244, qw86, by decide, by decide +kernel, by decide⟩
theorem k_X10_writes : CalOK yX10_writes cX10_writes 3 none 1 := ⟨qw1280, qw86, by decide, by decide +kernel, by decide⟩
