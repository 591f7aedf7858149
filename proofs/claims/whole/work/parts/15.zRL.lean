section
variable {d mc ms : Nat} {P : PO}
theorem lL_append_0 : lk (tL_append d mc ms P) 0 = oAld 2 1 := rfl
theorem lL_append_1 : lk (tL_append d mc ms P) 1 = oPush (.int 0) 2 := rfl
theorem lL_append_2 : lk (tL_append d mc ms P) 2 = oAld 0 3 := rfl
theorem lL_append_3 : lk (tL_append d mc ms P) 3 = oIld 1 4 := rfl
theorem lL_append_4 : lk (tL_append d mc ms P) 4 = oCallH d mc ms 1 6 yX9_append (Cond.code yX9_append cX9_append 5 (some .int)) 1 9 7 [(0, 12), (1, 15)] := rfl
theorem lL_append_7 : lk (tL_append d mc ms P) 7 = oIcv (fun x => .long x.toInt64) 8 := rfl
theorem lL_append_8 : lk (tL_append d mc ms P) 8 = oSl 9 := rfl
theorem lL_append_9 : lk (tL_append d mc ms P) 9 = oGoto 18 := rfl
theorem lL_append_12 : lk (tL_append d mc ms P) 12 = oAst 3 13 := rfl
theorem lL_append_13 : lk (tL_append d mc ms P) 13 = oPush (.int 1) 14 := rfl
theorem lL_append_14 : lk (tL_append d mc ms P) 14 = oRetI mc ms P := rfl
theorem lL_append_15 : lk (tL_append d mc ms P) 15 = oAst 3 16 := rfl
theorem lL_append_16 : lk (tL_append d mc ms P) 16 = oPush (.int 2) 17 := rfl
theorem lL_append_17 : lk (tL_append d mc ms P) 17 = oRetI mc ms P := rfl
theorem lL_append_18 : lk (tL_append d mc ms P) 18 = oPush (.int 0) 19 := rfl
theorem lL_append_19 : lk (tL_append d mc ms P) 19 = oRetI mc ms P := rfl
theorem lL_load_0 : lk (tL_load d mc ms P) 0 = oAld 1 1 := rfl
theorem lL_load_1 : lk (tL_load d mc ms P) 1 = oPush (.int 0) 2 := rfl
theorem lL_load_2 : lk (tL_load d mc ms P) 2 = oAld 0 3 := rfl
theorem lL_load_3 : lk (tL_load d mc ms P) 3 = oCallH d mc ms 1 6 yX9_load (Cond.code yX9_load cX9_load 3 (some .int)) 0 9 6 [(0, 11), (1, 14)] := rfl
theorem lL_load_6 : lk (tL_load d mc ms P) 6 = oIcv (fun x => .long x.toInt64) 7 := rfl
theorem lL_load_7 : lk (tL_load d mc ms P) 7 = oSl 8 := rfl
theorem lL_load_8 : lk (tL_load d mc ms P) 8 = oGoto 17 := rfl
theorem lL_load_11 : lk (tL_load d mc ms P) 11 = oAst 2 12 := rfl
theorem lL_load_12 : lk (tL_load d mc ms P) 12 = oPush (.int 1) 13 := rfl
theorem lL_load_13 : lk (tL_load d mc ms P) 13 = oRetI mc ms P := rfl
theorem lL_load_14 : lk (tL_load d mc ms P) 14 = oAst 2 15 := rfl
theorem lL_load_15 : lk (tL_load d mc ms P) 15 = oPush (.int 2) 16 := rfl
theorem lL_load_16 : lk (tL_load d mc ms P) 16 = oRetI mc ms P := rfl
theorem lL_load_17 : lk (tL_load d mc ms P) 17 = oPush (.int 0) 18 := rfl
theorem lL_load_18 : lk (tL_load d mc ms P) 18 = oRetI mc ms P := rfl
theorem lL_setMode_0 : lk (tL_setMode d mc ms P) 0 = oAld 2 1 := rfl
theorem lL_setMode_1 : lk (tL_setMode d mc ms P) 1 = oPush (.int 0) 2 := rfl
theorem lL_setMode_2 : lk (tL_setMode d mc ms P) 2 = oAld 0 3 := rfl
theorem lL_setMode_3 : lk (tL_setMode d mc ms P) 3 = oIld 1 4 := rfl
theorem lL_setMode_4 : lk (tL_setMode d mc ms P) 4 = oCallH d mc ms 1 6 yX9_setMode (Cond.code yX9_setMode cX9_setMode 3 (some .int)) 1 9 7 [(0, 12)] := rfl
theorem lL_setMode_7 : lk (tL_setMode d mc ms P) 7 = oIcv (fun x => .long x.toInt64) 8 := rfl
theorem lL_setMode_8 : lk (tL_setMode d mc ms P) 8 = oSl 9 := rfl
theorem lL_setMode_9 : lk (tL_setMode d mc ms P) 9 = oGoto 15 := rfl
theorem lL_setMode_12 : lk (tL_setMode d mc ms P) 12 = oAst 3 13 := rfl
theorem lL_setMode_13 : lk (tL_setMode d mc ms P) 13 = oPush (.int 1) 14 := rfl
theorem lL_setMode_14 : lk (tL_setMode d mc ms P) 14 = oRetI mc ms P := rfl
theorem lL_setMode_15 : lk (tL_setMode d mc ms P) 15 = oPush (.int 0) 16 := rfl
theorem lL_setMode_16 : lk (tL_setMode d mc ms P) 16 = oRetI mc ms P := rfl
theorem lL_setCount_0 : lk (tL_setCount d mc ms P) 0 = oAld 2 1 := rfl
theorem lL_setCount_1 : lk (tL_setCount d mc ms P) 1 = oPush (.int 0) 2 := rfl
theorem lL_setCount_2 : lk (tL_setCount d mc ms P) 2 = oAld 0 3 := rfl
theorem lL_setCount_3 : lk (tL_setCount d mc ms P) 3 = oIld 1 4 := rfl
theorem lL_setCount_4 : lk (tL_setCount d mc ms P) 4 = oCallH d mc ms 1 6 yX9_setCount (Cond.code yX9_setCount cX9_setCount 3 (some .int)) 1 9 7 [(0, 12)] := rfl
theorem lL_setCount_7 : lk (tL_setCount d mc ms P) 7 = oIcv (fun x => .long x.toInt64) 8 := rfl
theorem lL_setCount_8 : lk (tL_setCount d mc ms P) 8 = oSl 9 := rfl
theorem lL_setCount_9 : lk (tL_setCount d mc ms P) 9 = oGoto 15 := rfl
theorem lL_setCount_12 : lk (tL_setCount d mc ms P) 12 = oAst 3 13 := rfl
theorem lL_setCount_13 : lk (tL_setCount d mc ms P) 13 = oPush (.int 1) 14 := rfl
theorem lL_setCount_14 : lk (tL_setCount d mc ms P) 14 = oRetI mc ms P := rfl
theorem lL_setCount_15 : lk (tL_setCount d mc ms P) 15 = oPush (.int 0) 16 := rfl
theorem lL_setCount_16 : lk (tL_setCount d mc ms P) 16 = oRetI mc ms P := rfl
theorem lL_setElement_0 : lk (tL_setElement d mc ms P) 0 = oAld 4 2 := rfl
theorem lL_setElement_2 : lk (tL_setElement d mc ms P) 2 = oPush (.int 0) 3 := rfl
theorem lL_setElement_3 : lk (tL_setElement d mc ms P) 3 = oAld 0 4 := rfl
theorem lL_setElement_4 : lk (tL_setElement d mc ms P) 4 = oIld 1 5 := rfl
theorem lL_setElement_5 : lk (tL_setElement d mc ms P) 5 = oIld 2 6 := rfl
theorem lL_setElement_6 : lk (tL_setElement d mc ms P) 6 = oIld 3 7 := rfl
theorem lL_setElement_7 : lk (tL_setElement d mc ms P) 7 = oCallH d mc ms 2 12 yX9_setElement (Cond.code yX9_setElement cX9_setElement 5 (some .int)) 3 9 10 [(2, 15), (0, 19)] := rfl
theorem lL_setElement_10 : lk (tL_setElement d mc ms P) 10 = oIcv (fun x => .long x.toInt64) 11 := rfl
theorem lL_setElement_11 : lk (tL_setElement d mc ms P) 11 = oSl 12 := rfl
theorem lL_setElement_12 : lk (tL_setElement d mc ms P) 12 = oGoto 23 := rfl
theorem lL_setElement_15 : lk (tL_setElement d mc ms P) 15 = oAst 5 17 := rfl
theorem lL_setElement_17 : lk (tL_setElement d mc ms P) 17 = oPush (.int 1) 18 := rfl
theorem lL_setElement_18 : lk (tL_setElement d mc ms P) 18 = oRetI mc ms P := rfl
theorem lL_setElement_19 : lk (tL_setElement d mc ms P) 19 = oAst 5 21 := rfl
theorem lL_setElement_21 : lk (tL_setElement d mc ms P) 21 = oPush (.int 2) 22 := rfl
theorem lL_setElement_22 : lk (tL_setElement d mc ms P) 22 = oRetI mc ms P := rfl
theorem lL_setElement_23 : lk (tL_setElement d mc ms P) 23 = oPush (.int 0) 24 := rfl
theorem lL_setElement_24 : lk (tL_setElement d mc ms P) 24 = oRetI mc ms P := rfl
theorem lL_fill_0 : lk (tL_fill d mc ms P) 0 = oAld 3 1 := rfl
theorem lL_fill_1 : lk (tL_fill d mc ms P) 1 = oPush (.int 0) 2 := rfl
theorem lL_fill_2 : lk (tL_fill d mc ms P) 2 = oAld 0 3 := rfl
theorem lL_fill_3 : lk (tL_fill d mc ms P) 3 = oIld 1 4 := rfl
theorem lL_fill_4 : lk (tL_fill d mc ms P) 4 = oIld 2 5 := rfl
theorem lL_fill_5 : lk (tL_fill d mc ms P) 5 = oCallH d mc ms 1 6 yX9_fill (Cond.code yX9_fill cX9_fill 7 (some .int)) 2 9 8 [(2, 13)] := rfl
theorem lL_fill_8 : lk (tL_fill d mc ms P) 8 = oIcv (fun x => .long x.toInt64) 9 := rfl
theorem lL_fill_9 : lk (tL_fill d mc ms P) 9 = oSl 10 := rfl
theorem lL_fill_10 : lk (tL_fill d mc ms P) 10 = oGoto 17 := rfl
theorem lL_fill_13 : lk (tL_fill d mc ms P) 13 = oAst 4 15 := rfl
theorem lL_fill_15 : lk (tL_fill d mc ms P) 15 = oPush (.int 1) 16 := rfl
theorem lL_fill_16 : lk (tL_fill d mc ms P) 16 = oRetI mc ms P := rfl
theorem lL_fill_17 : lk (tL_fill d mc ms P) 17 = oPush (.int 0) 18 := rfl
theorem lL_fill_18 : lk (tL_fill d mc ms P) 18 = oRetI mc ms P := rfl
theorem lL_element_0 : lk (tL_element d mc ms P) 0 = oAld 3 1 := rfl
theorem lL_element_1 : lk (tL_element d mc ms P) 1 = oPush (.int 0) 2 := rfl
theorem lL_element_2 : lk (tL_element d mc ms P) 2 = oAld 0 3 := rfl
theorem lL_element_3 : lk (tL_element d mc ms P) 3 = oIld 1 4 := rfl
theorem lL_element_4 : lk (tL_element d mc ms P) 4 = oIld 2 5 := rfl
theorem lL_element_5 : lk (tL_element d mc ms P) 5 = oCallH d mc ms 1 6 yX9_element (Cond.code yX9_element cX9_element 3 (some .int)) 2 9 8 [(2, 13)] := rfl
theorem lL_element_8 : lk (tL_element d mc ms P) 8 = oIcv (fun x => .long x.toInt64) 9 := rfl
theorem lL_element_9 : lk (tL_element d mc ms P) 9 = oSl 10 := rfl
theorem lL_element_10 : lk (tL_element d mc ms P) 10 = oGoto 17 := rfl
theorem lL_element_13 : lk (tL_element d mc ms P) 13 = oAst 4 15 := rfl
theorem lL_element_15 : lk (tL_element d mc ms P) 15 = oPush (.int 1) 16 := rfl
theorem lL_element_16 : lk (tL_element d mc ms P) 16 = oRetI mc ms P := rfl
theorem lL_element_17 : lk (tL_element d mc ms P) 17 = oPush (.int 0) 18 := rfl
theorem lL_element_18 : lk (tL_element d mc ms P) 18 = oRetI mc ms P := rfl
theorem lL_setInitial_0 : lk (tL_setInitial d mc ms P) 0 = oAld 3 1 := rfl
theorem lL_setInitial_1 : lk (tL_setInitial d mc ms P) 1 = oPush (.int 0) 2 := rfl
theorem lL_setInitial_2 : lk (tL_setInitial d mc ms P) 2 = oAld 0 3 := rfl
theorem lL_setInitial_3 : lk (tL_setInitial d mc ms P) 3 = oIld 1 4 := rfl
theorem lL_setInitial_4 : lk (tL_setInitial d mc ms P) 4 = oIld 2 5 := rfl
theorem lL_setInitial_5 : lk (tL_setInitial d mc ms P) 5 = oCallH d mc ms 2 12 yX9_setInitial (Cond.code yX9_setInitial cX9_setInitial 4 (some .int)) 2 9 8 [(2, 13), (0, 17)] := rfl
theorem lL_setInitial_8 : lk (tL_setInitial d mc ms P) 8 = oIcv (fun x => .long x.toInt64) 9 := rfl
theorem lL_setInitial_9 : lk (tL_setInitial d mc ms P) 9 = oSl 10 := rfl
theorem lL_setInitial_10 : lk (tL_setInitial d mc ms P) 10 = oGoto 21 := rfl
theorem lL_setInitial_13 : lk (tL_setInitial d mc ms P) 13 = oAst 4 15 := rfl
theorem lL_setInitial_15 : lk (tL_setInitial d mc ms P) 15 = oPush (.int 1) 16 := rfl
theorem lL_setInitial_16 : lk (tL_setInitial d mc ms P) 16 = oRetI mc ms P := rfl
theorem lL_setInitial_17 : lk (tL_setInitial d mc ms P) 17 = oAst 4 19 := rfl
theorem lL_setInitial_19 : lk (tL_setInitial d mc ms P) 19 = oPush (.int 2) 20 := rfl
theorem lL_setInitial_20 : lk (tL_setInitial d mc ms P) 20 = oRetI mc ms P := rfl
theorem lL_setInitial_21 : lk (tL_setInitial d mc ms P) 21 = oPush (.int 0) 22 := rfl
theorem lL_setInitial_22 : lk (tL_setInitial d mc ms P) 22 = oRetI mc ms P := rfl
theorem lL_kind_0 : lk (tL_kind d mc ms P) 0 = oAld 2 1 := rfl
theorem lL_kind_1 : lk (tL_kind d mc ms P) 1 = oPush (.int 0) 2 := rfl
theorem lL_kind_2 : lk (tL_kind d mc ms P) 2 = oAld 0 3 := rfl
theorem lL_kind_3 : lk (tL_kind d mc ms P) 3 = oIld 1 4 := rfl
theorem lL_kind_4 : lk (tL_kind d mc ms P) 4 = oCallH d mc ms 1 6 yX9_kind (Cond.code yX9_kind cX9_kind 2 (some .int)) 1 9 7 [(2, 12)] := rfl
theorem lL_kind_7 : lk (tL_kind d mc ms P) 7 = oIcv (fun x => .long x.toInt64) 8 := rfl
theorem lL_kind_8 : lk (tL_kind d mc ms P) 8 = oSl 9 := rfl
theorem lL_kind_9 : lk (tL_kind d mc ms P) 9 = oGoto 15 := rfl
theorem lL_kind_12 : lk (tL_kind d mc ms P) 12 = oAst 3 13 := rfl
theorem lL_kind_13 : lk (tL_kind d mc ms P) 13 = oPush (.int 1) 14 := rfl
theorem lL_kind_14 : lk (tL_kind d mc ms P) 14 = oRetI mc ms P := rfl
theorem lL_kind_15 : lk (tL_kind d mc ms P) 15 = oPush (.int 0) 16 := rfl
theorem lL_kind_16 : lk (tL_kind d mc ms P) 16 = oRetI mc ms P := rfl
theorem lL_operator_0 : lk (tL_operator d mc ms P) 0 = oAld 2 1 := rfl
theorem lL_operator_1 : lk (tL_operator d mc ms P) 1 = oPush (.int 0) 2 := rfl
theorem lL_operator_2 : lk (tL_operator d mc ms P) 2 = oAld 0 3 := rfl
theorem lL_operator_3 : lk (tL_operator d mc ms P) 3 = oIld 1 4 := rfl
theorem lL_operator_4 : lk (tL_operator d mc ms P) 4 = oCallH d mc ms 2 12 yX9_operator (Cond.code yX9_operator cX9_operator 2 (some .int)) 1 9 7 [(2, 12), (3, 15)] := rfl
theorem lL_operator_7 : lk (tL_operator d mc ms P) 7 = oIcv (fun x => .long x.toInt64) 8 := rfl
theorem lL_operator_8 : lk (tL_operator d mc ms P) 8 = oSl 9 := rfl
theorem lL_operator_9 : lk (tL_operator d mc ms P) 9 = oGoto 18 := rfl
theorem lL_operator_12 : lk (tL_operator d mc ms P) 12 = oAst 3 13 := rfl
theorem lL_operator_13 : lk (tL_operator d mc ms P) 13 = oPush (.int 1) 14 := rfl
theorem lL_operator_14 : lk (tL_operator d mc ms P) 14 = oRetI mc ms P := rfl
theorem lL_operator_15 : lk (tL_operator d mc ms P) 15 = oAst 3 16 := rfl
theorem lL_operator_16 : lk (tL_operator d mc ms P) 16 = oPush (.int 2) 17 := rfl
theorem lL_operator_17 : lk (tL_operator d mc ms P) 17 = oRetI mc ms P := rfl
theorem lL_operator_18 : lk (tL_operator d mc ms P) 18 = oPush (.int 0) 19 := rfl
theorem lL_operator_19 : lk (tL_operator d mc ms P) 19 = oRetI mc ms P := rfl
theorem lL_terms_0 : lk (tL_terms d mc ms P) 0 = oAld 2 1 := rfl
theorem lL_terms_1 : lk (tL_terms d mc ms P) 1 = oPush (.int 0) 2 := rfl
theorem lL_terms_2 : lk (tL_terms d mc ms P) 2 = oAld 0 3 := rfl
theorem lL_terms_3 : lk (tL_terms d mc ms P) 3 = oIld 1 4 := rfl
theorem lL_terms_4 : lk (tL_terms d mc ms P) 4 = oCallH d mc ms 2 12 yX9_terms (Cond.code yX9_terms cX9_terms 2 (some .int)) 1 9 7 [(2, 12), (3, 15)] := rfl
theorem lL_terms_7 : lk (tL_terms d mc ms P) 7 = oIcv (fun x => .long x.toInt64) 8 := rfl
theorem lL_terms_8 : lk (tL_terms d mc ms P) 8 = oSl 9 := rfl
theorem lL_terms_9 : lk (tL_terms d mc ms P) 9 = oGoto 18 := rfl
theorem lL_terms_12 : lk (tL_terms d mc ms P) 12 = oAst 3 13 := rfl
theorem lL_terms_13 : lk (tL_terms d mc ms P) 13 = oPush (.int 1) 14 := rfl
theorem lL_terms_14 : lk (tL_terms d mc ms P) 14 = oRetI mc ms P := rfl
theorem lL_terms_15 : lk (tL_terms d mc ms P) 15 = oAst 3 16 := rfl
theorem lL_terms_16 : lk (tL_terms d mc ms P) 16 = oPush (.int 2) 17 := rfl
theorem lL_terms_17 : lk (tL_terms d mc ms P) 17 = oRetI mc ms P := rfl
theorem lL_terms_18 : lk (tL_terms d mc ms P) 18 = oPush (.int 0) 19 := rfl
theorem lL_terms_19 : lk (tL_terms d mc ms P) 19 = oRetI mc ms P := rfl
theorem lL_depends_0 : lk (tL_depends d mc ms P) 0 = oAld 2 1 := rfl
theorem lL_depends_1 : lk (tL_depends d mc ms P) 1 = oPush (.int 0) 2 := rfl
theorem lL_depends_2 : lk (tL_depends d mc ms P) 2 = oAld 0 3 := rfl
theorem lL_depends_3 : lk (tL_depends d mc ms P) 3 = oIld 1 4 := rfl
theorem lL_depends_4 : lk (tL_depends d mc ms P) 4 = oCallH d mc ms 1 6 yX9_depends (Cond.code yX9_depends cX9_depends 2 (some .int)) 1 9 7 [(2, 12)] := rfl
theorem lL_depends_7 : lk (tL_depends d mc ms P) 7 = oIcv (fun x => .long x.toInt64) 8 := rfl
theorem lL_depends_8 : lk (tL_depends d mc ms P) 8 = oSl 9 := rfl
theorem lL_depends_9 : lk (tL_depends d mc ms P) 9 = oGoto 15 := rfl
theorem lL_depends_12 : lk (tL_depends d mc ms P) 12 = oAst 3 13 := rfl
theorem lL_depends_13 : lk (tL_depends d mc ms P) 13 = oPush (.int 1) 14 := rfl
theorem lL_depends_14 : lk (tL_depends d mc ms P) 14 = oRetI mc ms P := rfl
theorem lL_depends_15 : lk (tL_depends d mc ms P) 15 = oPush (.int 0) 16 := rfl
theorem lL_depends_16 : lk (tL_depends d mc ms P) 16 = oRetI mc ms P := rfl
theorem lL_nodes_0 : lk (tL_nodes d mc ms P) 0 = oAld 2 1 := rfl
theorem lL_nodes_1 : lk (tL_nodes d mc ms P) 1 = oPush (.int 0) 2 := rfl
theorem lL_nodes_2 : lk (tL_nodes d mc ms P) 2 = oAld 0 3 := rfl
theorem lL_nodes_3 : lk (tL_nodes d mc ms P) 3 = oIld 1 4 := rfl
theorem lL_nodes_4 : lk (tL_nodes d mc ms P) 4 = oCallH d mc ms 1 6 yX9_nodes (Cond.code yX9_nodes cX9_nodes 2 (some .int)) 1 9 7 [(2, 12)] := rfl
theorem lL_nodes_7 : lk (tL_nodes d mc ms P) 7 = oIcv (fun x => .long x.toInt64) 8 := rfl
theorem lL_nodes_8 : lk (tL_nodes d mc ms P) 8 = oSl 9 := rfl
theorem lL_nodes_9 : lk (tL_nodes d mc ms P) 9 = oGoto 15 := rfl
theorem lL_nodes_12 : lk (tL_nodes d mc ms P) 12 = oAst 3 13 := rfl
theorem lL_nodes_13 : lk (tL_nodes d mc ms P) 13 = oPush (.int 1) 14 := rfl
theorem lL_nodes_14 : lk (tL_nodes d mc ms P) 14 = oRetI mc ms P := rfl
theorem lL_nodes_15 : lk (tL_nodes d mc ms P) 15 = oPush (.int 0) 16 := rfl
theorem lL_nodes_16 : lk (tL_nodes d mc ms P) 16 = oRetI mc ms P := rfl
theorem lL_height_0 : lk (tL_height d mc ms P) 0 = oAld 2 1 := rfl
theorem lL_height_1 : lk (tL_height d mc ms P) 1 = oPush (.int 0) 2 := rfl
theorem lL_height_2 : lk (tL_height d mc ms P) 2 = oAld 0 3 := rfl
theorem lL_height_3 : lk (tL_height d mc ms P) 3 = oIld 1 4 := rfl
theorem lL_height_4 : lk (tL_height d mc ms P) 4 = oCallH d mc ms 1 6 yX9_height (Cond.code yX9_height cX9_height 2 (some .int)) 1 9 7 [(2, 12)] := rfl
theorem lL_height_7 : lk (tL_height d mc ms P) 7 = oIcv (fun x => .long x.toInt64) 8 := rfl
theorem lL_height_8 : lk (tL_height d mc ms P) 8 = oSl 9 := rfl
theorem lL_height_9 : lk (tL_height d mc ms P) 9 = oGoto 15 := rfl
theorem lL_height_12 : lk (tL_height d mc ms P) 12 = oAst 3 13 := rfl
theorem lL_height_13 : lk (tL_height d mc ms P) 13 = oPush (.int 1) 14 := rfl
theorem lL_height_14 : lk (tL_height d mc ms P) 14 = oRetI mc ms P := rfl
theorem lL_height_15 : lk (tL_height d mc ms P) 15 = oPush (.int 0) 16 := rfl
theorem lL_height_16 : lk (tL_height d mc ms P) 16 = oRetI mc ms P := rfl
theorem lL_open_0 : lk (tL_open d mc ms P) 0 = oAld 2 1 := rfl
theorem lL_open_1 : lk (tL_open d mc ms P) 1 = oPush (.int 0) 2 := rfl
theorem lL_open_2 : lk (tL_open d mc ms P) 2 = oAld 0 3 := rfl
theorem lL_open_3 : lk (tL_open d mc ms P) 3 = oIld 1 4 := rfl
theorem lL_open_4 : lk (tL_open d mc ms P) 4 = oCallH d mc ms 1 6 yX9_open (Cond.code yX9_open cX9_open 2 (some .int)) 1 9 7 [(2, 12)] := rfl
theorem lL_open_7 : lk (tL_open d mc ms P) 7 = oIcv (fun x => .long x.toInt64) 8 := rfl
theorem lL_open_8 : lk (tL_open d mc ms P) 8 = oSl 9 := rfl
theorem lL_open_9 : lk (tL_open d mc ms P) 9 = oGoto 15 := rfl
theorem lL_open_12 : lk (tL_open d mc ms P) 12 = oAst 3 13 := rfl
theorem lL_open_13 : lk (tL_open d mc ms P) 13 = oPush (.int 1) 14 := rfl
theorem lL_open_14 : lk (tL_open d mc ms P) 14 = oRetI mc ms P := rfl
theorem lL_open_15 : lk (tL_open d mc ms P) 15 = oPush (.int 0) 16 := rfl
theorem lL_open_16 : lk (tL_open d mc ms P) 16 = oRetI mc ms P := rfl
theorem lL_hasNext_0 : lk (tL_hasNext d mc ms P) 0 = oAld 1 1 := rfl
theorem lL_hasNext_1 : lk (tL_hasNext d mc ms P) 1 = oPush (.int 0) 2 := rfl
theorem lL_hasNext_2 : lk (tL_hasNext d mc ms P) 2 = oAld 0 3 := rfl
theorem lL_hasNext_3 : lk (tL_hasNext d mc ms P) 3 = oCallH d mc ms 1 6 yX9_hasNext (Cond.code yX9_hasNext cX9_hasNext 1 (some .boolean)) 0 9 6 [(1, 18)] := rfl
theorem lL_hasNext_6 : lk (tL_hasNext d mc ms P) 6 = oIf (fun x => x = 0) 13 9 := rfl
theorem lL_hasNext_9 : lk (tL_hasNext d mc ms P) 9 = oPush (.long 1) 10 := rfl
theorem lL_hasNext_10 : lk (tL_hasNext d mc ms P) 10 = oGoto 14 := rfl
theorem lL_hasNext_13 : lk (tL_hasNext d mc ms P) 13 = oPush (.long 0) 14 := rfl
theorem lL_hasNext_14 : lk (tL_hasNext d mc ms P) 14 = oSl 15 := rfl
theorem lL_hasNext_15 : lk (tL_hasNext d mc ms P) 15 = oGoto 21 := rfl
theorem lL_hasNext_18 : lk (tL_hasNext d mc ms P) 18 = oAst 2 19 := rfl
theorem lL_hasNext_19 : lk (tL_hasNext d mc ms P) 19 = oPush (.int 1) 20 := rfl
theorem lL_hasNext_20 : lk (tL_hasNext d mc ms P) 20 = oRetI mc ms P := rfl
theorem lL_hasNext_21 : lk (tL_hasNext d mc ms P) 21 = oPush (.int 0) 22 := rfl
theorem lL_hasNext_22 : lk (tL_hasNext d mc ms P) 22 = oRetI mc ms P := rfl
theorem lL_next_0 : lk (tL_next d mc ms P) 0 = oAld 1 1 := rfl
theorem lL_next_1 : lk (tL_next d mc ms P) 1 = oPush (.int 0) 2 := rfl
theorem lL_next_2 : lk (tL_next d mc ms P) 2 = oAld 0 3 := rfl
theorem lL_next_3 : lk (tL_next d mc ms P) 3 = oCallH d mc ms 2 12 yX9_next (Cond.code yX9_next cX9_next 2 (some .int)) 0 9 6 [(1, 11), (4, 14)] := rfl
theorem lL_next_6 : lk (tL_next d mc ms P) 6 = oIcv (fun x => .long x.toInt64) 7 := rfl
theorem lL_next_7 : lk (tL_next d mc ms P) 7 = oSl 8 := rfl
theorem lL_next_8 : lk (tL_next d mc ms P) 8 = oGoto 17 := rfl
theorem lL_next_11 : lk (tL_next d mc ms P) 11 = oAst 2 12 := rfl
theorem lL_next_12 : lk (tL_next d mc ms P) 12 = oPush (.int 1) 13 := rfl
theorem lL_next_13 : lk (tL_next d mc ms P) 13 = oRetI mc ms P := rfl
theorem lL_next_14 : lk (tL_next d mc ms P) 14 = oAst 2 15 := rfl
theorem lL_next_15 : lk (tL_next d mc ms P) 15 = oPush (.int 2) 16 := rfl
theorem lL_next_16 : lk (tL_next d mc ms P) 16 = oRetI mc ms P := rfl
theorem lL_next_17 : lk (tL_next d mc ms P) 17 = oPush (.int 0) 18 := rfl
theorem lL_next_18 : lk (tL_next d mc ms P) 18 = oRetI mc ms P := rfl
theorem lL_isExact_0 : lk (tL_isExact d mc ms P) 0 = oAld 2 1 := rfl
theorem lL_isExact_1 : lk (tL_isExact d mc ms P) 1 = oPush (.int 0) 2 := rfl
theorem lL_isExact_2 : lk (tL_isExact d mc ms P) 2 = oAld 0 3 := rfl
theorem lL_isExact_3 : lk (tL_isExact d mc ms P) 3 = oIld 1 4 := rfl
theorem lL_isExact_4 : lk (tL_isExact d mc ms P) 4 = oCallH d mc ms 1 6 yX9_isExact (Cond.code yX9_isExact cX9_isExact 4 (some .boolean)) 1 9 7 [(2, 19)] := rfl
theorem lL_isExact_7 : lk (tL_isExact d mc ms P) 7 = oIf (fun x => x = 0) 14 10 := rfl
theorem lL_isExact_10 : lk (tL_isExact d mc ms P) 10 = oPush (.long 1) 11 := rfl
theorem lL_isExact_11 : lk (tL_isExact d mc ms P) 11 = oGoto 15 := rfl
theorem lL_isExact_14 : lk (tL_isExact d mc ms P) 14 = oPush (.long 0) 15 := rfl
theorem lL_isExact_15 : lk (tL_isExact d mc ms P) 15 = oSl 16 := rfl
theorem lL_isExact_16 : lk (tL_isExact d mc ms P) 16 = oGoto 22 := rfl
theorem lL_isExact_19 : lk (tL_isExact d mc ms P) 19 = oAst 3 20 := rfl
theorem lL_isExact_20 : lk (tL_isExact d mc ms P) 20 = oPush (.int 1) 21 := rfl
theorem lL_isExact_21 : lk (tL_isExact d mc ms P) 21 = oRetI mc ms P := rfl
theorem lL_isExact_22 : lk (tL_isExact d mc ms P) 22 = oPush (.int 0) 23 := rfl
theorem lL_isExact_23 : lk (tL_isExact d mc ms P) 23 = oRetI mc ms P := rfl
theorem lL_execute_0 : lk (tL_execute d mc ms P) 0 = oAld 3 1 := rfl
theorem lL_execute_1 : lk (tL_execute d mc ms P) 1 = oPush (.int 0) 2 := rfl
theorem lL_execute_2 : lk (tL_execute d mc ms P) 2 = oAld 0 3 := rfl
theorem lL_execute_3 : lk (tL_execute d mc ms P) 3 = oIld 1 4 := rfl
theorem lL_execute_4 : lk (tL_execute d mc ms P) 4 = oIld 2 5 := rfl
theorem lL_execute_5 : lk (tL_execute d mc ms P) 5 = oCallH d mc ms 3 18 yX9_execute (Cond.code yX9_execute cX9_execute 4 (some .int)) 2 9 8 [(0, 13), (3, 17), (1, 21)] := rfl
theorem lL_execute_8 : lk (tL_execute d mc ms P) 8 = oIcv (fun x => .long x.toInt64) 9 := rfl
theorem lL_execute_9 : lk (tL_execute d mc ms P) 9 = oSl 10 := rfl
theorem lL_execute_10 : lk (tL_execute d mc ms P) 10 = oGoto 25 := rfl
theorem lL_execute_13 : lk (tL_execute d mc ms P) 13 = oAst 4 15 := rfl
theorem lL_execute_15 : lk (tL_execute d mc ms P) 15 = oPush (.int 1) 16 := rfl
theorem lL_execute_16 : lk (tL_execute d mc ms P) 16 = oRetI mc ms P := rfl
theorem lL_execute_17 : lk (tL_execute d mc ms P) 17 = oAst 4 19 := rfl
theorem lL_execute_19 : lk (tL_execute d mc ms P) 19 = oPush (.int 2) 20 := rfl
theorem lL_execute_20 : lk (tL_execute d mc ms P) 20 = oRetI mc ms P := rfl
theorem lL_execute_21 : lk (tL_execute d mc ms P) 21 = oAst 4 23 := rfl
theorem lL_execute_23 : lk (tL_execute d mc ms P) 23 = oPush (.int 3) 24 := rfl
theorem lL_execute_24 : lk (tL_execute d mc ms P) 24 = oRetI mc ms P := rfl
theorem lL_execute_25 : lk (tL_execute d mc ms P) 25 = oPush (.int 0) 26 := rfl
theorem lL_execute_26 : lk (tL_execute d mc ms P) 26 = oRetI mc ms P := rfl
theorem lL_result_0 : lk (tL_result d mc ms P) 0 = oAld 2 1 := rfl
theorem lL_result_1 : lk (tL_result d mc ms P) 1 = oPush (.int 0) 2 := rfl
theorem lL_result_2 : lk (tL_result d mc ms P) 2 = oAld 0 3 := rfl
theorem lL_result_3 : lk (tL_result d mc ms P) 3 = oIld 1 4 := rfl
theorem lL_result_4 : lk (tL_result d mc ms P) 4 = oCallH d mc ms 2 12 yX9_result (Cond.code yX9_result cX9_result 2 (some .int)) 1 9 7 [(2, 12), (1, 15)] := rfl
theorem lL_result_7 : lk (tL_result d mc ms P) 7 = oIcv (fun x => .long x.toInt64) 8 := rfl
theorem lL_result_8 : lk (tL_result d mc ms P) 8 = oSl 9 := rfl
theorem lL_result_9 : lk (tL_result d mc ms P) 9 = oGoto 18 := rfl
theorem lL_result_12 : lk (tL_result d mc ms P) 12 = oAst 3 13 := rfl
theorem lL_result_13 : lk (tL_result d mc ms P) 13 = oPush (.int 1) 14 := rfl
theorem lL_result_14 : lk (tL_result d mc ms P) 14 = oRetI mc ms P := rfl
theorem lL_result_15 : lk (tL_result d mc ms P) 15 = oAst 3 16 := rfl
theorem lL_result_16 : lk (tL_result d mc ms P) 16 = oPush (.int 2) 17 := rfl
theorem lL_result_17 : lk (tL_result d mc ms P) 17 = oRetI mc ms P := rfl
theorem lL_result_18 : lk (tL_result d mc ms P) 18 = oPush (.int 0) 19 := rfl
theorem lL_result_19 : lk (tL_result d mc ms P) 19 = oRetI mc ms P := rfl
theorem lL_resultFloat_0 : lk (tL_resultFloat d mc ms P) 0 = oAld 2 1 := rfl
theorem lL_resultFloat_1 : lk (tL_resultFloat d mc ms P) 1 = oPush (.int 0) 2 := rfl
theorem lL_resultFloat_2 : lk (tL_resultFloat d mc ms P) 2 = oAld 0 3 := rfl
theorem lL_resultFloat_3 : lk (tL_resultFloat d mc ms P) 3 = oIld 1 4 := rfl
theorem lL_resultFloat_4 : lk (tL_resultFloat d mc ms P) 4 = oCallH d mc ms 2 12 yX9_resultFloat (Cond.code yX9_resultFloat cX9_resultFloat 2 (some .float)) 1 9 7 [(2, 12), (1, 15)] := rfl
theorem lL_resultFloat_7 : lk (tL_resultFloat d mc ms P) 7 = oF2d 8 := rfl
theorem lL_resultFloat_8 : lk (tL_resultFloat d mc ms P) 8 = oSd 9 := rfl
theorem lL_resultFloat_9 : lk (tL_resultFloat d mc ms P) 9 = oGoto 18 := rfl
theorem lL_resultFloat_12 : lk (tL_resultFloat d mc ms P) 12 = oAst 3 13 := rfl
theorem lL_resultFloat_13 : lk (tL_resultFloat d mc ms P) 13 = oPush (.int 1) 14 := rfl
theorem lL_resultFloat_14 : lk (tL_resultFloat d mc ms P) 14 = oRetI mc ms P := rfl
theorem lL_resultFloat_15 : lk (tL_resultFloat d mc ms P) 15 = oAst 3 16 := rfl
theorem lL_resultFloat_16 : lk (tL_resultFloat d mc ms P) 16 = oPush (.int 2) 17 := rfl
theorem lL_resultFloat_17 : lk (tL_resultFloat d mc ms P) 17 = oRetI mc ms P := rfl
theorem lL_resultFloat_18 : lk (tL_resultFloat d mc ms P) 18 = oPush (.int 0) 19 := rfl
theorem lL_resultFloat_19 : lk (tL_resultFloat d mc ms P) 19 = oRetI mc ms P := rfl
theorem lL_difference_0 : lk (tL_difference d mc ms P) 0 = oAld 2 1 := rfl
theorem lL_difference_1 : lk (tL_difference d mc ms P) 1 = oPush (.int 0) 2 := rfl
theorem lL_difference_2 : lk (tL_difference d mc ms P) 2 = oAld 0 3 := rfl
theorem lL_difference_3 : lk (tL_difference d mc ms P) 3 = oIld 1 4 := rfl
theorem lL_difference_4 : lk (tL_difference d mc ms P) 4 = oCallH d mc ms 3 18 yX9_difference (Cond.code yX9_difference cX9_difference 5 (some .double)) 1 9 7 [(2, 11), (1, 14), (3, 17)] := rfl
theorem lL_difference_7 : lk (tL_difference d mc ms P) 7 = oSd 8 := rfl
theorem lL_difference_8 : lk (tL_difference d mc ms P) 8 = oGoto 20 := rfl
theorem lL_difference_11 : lk (tL_difference d mc ms P) 11 = oAst 3 12 := rfl
theorem lL_difference_12 : lk (tL_difference d mc ms P) 12 = oPush (.int 1) 13 := rfl
theorem lL_difference_13 : lk (tL_difference d mc ms P) 13 = oRetI mc ms P := rfl
theorem lL_difference_14 : lk (tL_difference d mc ms P) 14 = oAst 3 15 := rfl
theorem lL_difference_15 : lk (tL_difference d mc ms P) 15 = oPush (.int 2) 16 := rfl
theorem lL_difference_16 : lk (tL_difference d mc ms P) 16 = oRetI mc ms P := rfl
theorem lL_difference_17 : lk (tL_difference d mc ms P) 17 = oAst 3 18 := rfl
theorem lL_difference_18 : lk (tL_difference d mc ms P) 18 = oPush (.int 3) 19 := rfl
theorem lL_difference_19 : lk (tL_difference d mc ms P) 19 = oRetI mc ms P := rfl
theorem lL_difference_20 : lk (tL_difference d mc ms P) 20 = oPush (.int 0) 21 := rfl
theorem lL_difference_21 : lk (tL_difference d mc ms P) 21 = oRetI mc ms P := rfl
theorem lL_cost_0 : lk (tL_cost d mc ms P) 0 = oAld 3 1 := rfl
theorem lL_cost_1 : lk (tL_cost d mc ms P) 1 = oPush (.int 0) 2 := rfl
theorem lL_cost_2 : lk (tL_cost d mc ms P) 2 = oAld 0 3 := rfl
theorem lL_cost_3 : lk (tL_cost d mc ms P) 3 = oIld 1 4 := rfl
theorem lL_cost_4 : lk (tL_cost d mc ms P) 4 = oIld 2 5 := rfl
theorem lL_cost_5 : lk (tL_cost d mc ms P) 5 = oCallH d mc ms 2 12 yX9_cost (Cond.code yX9_cost cX9_cost 3 (some .int)) 2 9 8 [(0, 13), (1, 17)] := rfl
theorem lL_cost_8 : lk (tL_cost d mc ms P) 8 = oIcv (fun x => .long x.toInt64) 9 := rfl
theorem lL_cost_9 : lk (tL_cost d mc ms P) 9 = oSl 10 := rfl
theorem lL_cost_10 : lk (tL_cost d mc ms P) 10 = oGoto 21 := rfl
theorem lL_cost_13 : lk (tL_cost d mc ms P) 13 = oAst 4 15 := rfl
theorem lL_cost_15 : lk (tL_cost d mc ms P) 15 = oPush (.int 1) 16 := rfl
theorem lL_cost_16 : lk (tL_cost d mc ms P) 16 = oRetI mc ms P := rfl
theorem lL_cost_17 : lk (tL_cost d mc ms P) 17 = oAst 4 19 := rfl
theorem lL_cost_19 : lk (tL_cost d mc ms P) 19 = oPush (.int 2) 20 := rfl
theorem lL_cost_20 : lk (tL_cost d mc ms P) 20 = oRetI mc ms P := rfl
theorem lL_cost_21 : lk (tL_cost d mc ms P) 21 = oPush (.int 0) 22 := rfl
theorem lL_cost_22 : lk (tL_cost d mc ms P) 22 = oRetI mc ms P := rfl
theorem lL_restore_0 : lk (tL_restore d mc ms P) 0 = oAld 0 1 := rfl
theorem lL_restore_1 : lk (tL_restore d mc ms P) 1 = oCallH d mc ms 1 6 yX9_restore (Cond.code yX9_restore cX9_restore 1 none) 0 9 4 [(1, 7)] := rfl
theorem lL_restore_4 : lk (tL_restore d mc ms P) 4 = oGoto 10 := rfl
theorem lL_restore_7 : lk (tL_restore d mc ms P) 7 = oAst 1 8 := rfl
theorem lL_restore_8 : lk (tL_restore d mc ms P) 8 = oPush (.int 1) 9 := rfl
theorem lL_restore_9 : lk (tL_restore d mc ms P) 9 = oRetI mc ms P := rfl
theorem lL_restore_10 : lk (tL_restore d mc ms P) 10 = oPush (.int 0) 11 := rfl
theorem lL_restore_11 : lk (tL_restore d mc ms P) 11 = oRetI mc ms P := rfl
end
