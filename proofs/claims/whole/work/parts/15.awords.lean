theorem qw410 : (Jvm.Cond.classLink "ReductionFinderLaw" (13 : Nat) "java/lang/IllegalArgumentException") ∈ PWS := pws_mem 410 (by decide +kernel) rfl
theorem qw411 : (Jvm.Cond.classLink "ReductionFinderLaw" (15 : Nat) "java/lang/IllegalStateException") ∈ PWS := pws_mem 411 (by decide +kernel) rfl
theorem qw412 : (Jvm.Cond.methodLink "ReductionFinderLaw" (7 : Nat) ({ cls := "ReductionFinder", name := "append", desc := "(I)I" } : Jvm.MethodName)) ∈ PWS := pws_mem 412 (by decide +kernel) rfl
theorem qw413 : (Jvm.Cond.instanceMethod ({ cls := "ReductionFinder", name := "append", desc := "(I)I" } : Jvm.MethodName)) ∈ PWS := pws_mem 413 (by decide +kernel) rfl
theorem qw414 : (Jvm.Cond.selects "ReductionFinder" ({ cls := "ReductionFinder", name := "append", desc := "(I)I" } : Jvm.MethodName) ({ cls := "ReductionFinder", name := "append", desc := "(I)I" } : Jvm.MethodName)) ∈ PWS := pws_mem 414 (by decide +kernel) rfl
theorem qw415 : (Jvm.Cond.code ({ cls := "ReductionFinder", name := "append", desc := "(I)I" } : Jvm.MethodName) prog_1_method_2_code (5 : Nat) (Option.some Jvm.ClassFile.FieldType.int)) ∈ PWS := pws_mem 415 (by decide +kernel) rfl
theorem qw418 : (Jvm.Cond.castable "java/lang/IllegalArgumentException" "java/lang/IllegalArgumentException") ∈ PWS := pws_mem 418 (by decide +kernel) rfl
theorem qw488 : (Jvm.Cond.castable "java/lang/IllegalStateException" "java/lang/IllegalStateException") ∈ PWS := pws_mem 488 (by decide +kernel) rfl
theorem qw509 : (Jvm.Cond.methodLink "ReductionFinderLaw" (17 : Nat) ({ cls := "ReductionFinder", name := "load", desc := "()I" } : Jvm.MethodName)) ∈ PWS := pws_mem 509 (by decide +kernel) rfl
theorem qw510 : (Jvm.Cond.instanceMethod ({ cls := "ReductionFinder", name := "load", desc := "()I" } : Jvm.MethodName)) ∈ PWS := pws_mem 510 (by decide +kernel) rfl
theorem qw511 : (Jvm.Cond.selects "ReductionFinder" ({ cls := "ReductionFinder", name := "load", desc := "()I" } : Jvm.MethodName) ({ cls := "ReductionFinder", name := "load", desc := "()I" } : Jvm.MethodName)) ∈ PWS := pws_mem 511 (by decide +kernel) rfl
theorem qw512 : (Jvm.Cond.code ({ cls := "ReductionFinder", name := "load", desc := "()I" } : Jvm.MethodName) prog_1_method_3_code (3 : Nat) (Option.some Jvm.ClassFile.FieldType.int)) ∈ PWS := pws_mem 512 (by decide +kernel) rfl
theorem qw723 : (Jvm.Cond.methodLink "ReductionFinderLaw" (21 : Nat) ({ cls := "ReductionFinder", name := "setMode", desc := "(I)I" } : Jvm.MethodName)) ∈ PWS := pws_mem 723 (by decide +kernel) rfl
theorem qw724 : (Jvm.Cond.instanceMethod ({ cls := "ReductionFinder", name := "setMode", desc := "(I)I" } : Jvm.MethodName)) ∈ PWS := pws_mem 724 (by decide +kernel) rfl
theorem qw725 : (Jvm.Cond.selects "ReductionFinder" ({ cls := "ReductionFinder", name := "setMode", desc := "(I)I" } : Jvm.MethodName) ({ cls := "ReductionFinder", name := "setMode", desc := "(I)I" } : Jvm.MethodName)) ∈ PWS := pws_mem 725 (by decide +kernel) rfl
theorem qw726 : (Jvm.Cond.code ({ cls := "ReductionFinder", name := "setMode", desc := "(I)I" } : Jvm.MethodName) prog_1_method_6_code (3 : Nat) (Option.some Jvm.ClassFile.FieldType.int)) ∈ PWS := pws_mem 726 (by decide +kernel) rfl
theorem qw731 : (Jvm.Cond.methodLink "ReductionFinderLaw" (24 : Nat) ({ cls := "ReductionFinder", name := "setCount", desc := "(I)I" } : Jvm.MethodName)) ∈ PWS := pws_mem 731 (by decide +kernel) rfl
theorem qw732 : (Jvm.Cond.instanceMethod ({ cls := "ReductionFinder", name := "setCount", desc := "(I)I" } : Jvm.MethodName)) ∈ PWS := pws_mem 732 (by decide +kernel) rfl
theorem qw733 : (Jvm.Cond.selects "ReductionFinder" ({ cls := "ReductionFinder", name := "setCount", desc := "(I)I" } : Jvm.MethodName) ({ cls := "ReductionFinder", name := "setCount", desc := "(I)I" } : Jvm.MethodName)) ∈ PWS := pws_mem 733 (by decide +kernel) rfl
theorem qw734 : (Jvm.Cond.code ({ cls := "ReductionFinder", name := "setCount", desc := "(I)I" } : Jvm.MethodName) prog_1_method_7_code (3 : Nat) (Option.some Jvm.ClassFile.FieldType.int)) ∈ PWS := pws_mem 734 (by decide +kernel) rfl
theorem qw739 : (Jvm.Cond.classLink "ReductionFinderLaw" (31 : Nat) "java/lang/IndexOutOfBoundsException") ∈ PWS := pws_mem 739 (by decide +kernel) rfl
theorem qw740 : (Jvm.Cond.methodLink "ReductionFinderLaw" (27 : Nat) ({ cls := "ReductionFinder", name := "setElement", desc := "(III)I" } : Jvm.MethodName)) ∈ PWS := pws_mem 740 (by decide +kernel) rfl
theorem qw741 : (Jvm.Cond.instanceMethod ({ cls := "ReductionFinder", name := "setElement", desc := "(III)I" } : Jvm.MethodName)) ∈ PWS := pws_mem 741 (by decide +kernel) rfl
theorem qw742 : (Jvm.Cond.selects "ReductionFinder" ({ cls := "ReductionFinder", name := "setElement", desc := "(III)I" } : Jvm.MethodName) ({ cls := "ReductionFinder", name := "setElement", desc := "(III)I" } : Jvm.MethodName)) ∈ PWS := pws_mem 742 (by decide +kernel) rfl
theorem qw743 : (Jvm.Cond.code ({ cls := "ReductionFinder", name := "setElement", desc := "(III)I" } : Jvm.MethodName) prog_1_method_8_code (5 : Nat) (Option.some Jvm.ClassFile.FieldType.int)) ∈ PWS := pws_mem 743 (by decide +kernel) rfl
theorem qw749 : (Jvm.Cond.castable "java/lang/IndexOutOfBoundsException" "java/lang/IndexOutOfBoundsException") ∈ PWS := pws_mem 749 (by decide +kernel) rfl
theorem qw767 : (Jvm.Cond.methodLink "ReductionFinderLaw" (33 : Nat) ({ cls := "ReductionFinder", name := "fill", desc := "(II)I" } : Jvm.MethodName)) ∈ PWS := pws_mem 767 (by decide +kernel) rfl
theorem qw768 : (Jvm.Cond.instanceMethod ({ cls := "ReductionFinder", name := "fill", desc := "(II)I" } : Jvm.MethodName)) ∈ PWS := pws_mem 768 (by decide +kernel) rfl
theorem qw769 : (Jvm.Cond.selects "ReductionFinder" ({ cls := "ReductionFinder", name := "fill", desc := "(II)I" } : Jvm.MethodName) ({ cls := "ReductionFinder", name := "fill", desc := "(II)I" } : Jvm.MethodName)) ∈ PWS := pws_mem 769 (by decide +kernel) rfl
theorem qw770 : (Jvm.Cond.code ({ cls := "ReductionFinder", name := "fill", desc := "(II)I" } : Jvm.MethodName) prog_1_method_9_code (7 : Nat) (Option.some Jvm.ClassFile.FieldType.int)) ∈ PWS := pws_mem 770 (by decide +kernel) rfl
theorem qw776 : (Jvm.Cond.methodLink "ReductionFinderLaw" (37 : Nat) ({ cls := "ReductionFinder", name := "element", desc := "(II)I" } : Jvm.MethodName)) ∈ PWS := pws_mem 776 (by decide +kernel) rfl
theorem qw777 : (Jvm.Cond.instanceMethod ({ cls := "ReductionFinder", name := "element", desc := "(II)I" } : Jvm.MethodName)) ∈ PWS := pws_mem 777 (by decide +kernel) rfl
theorem qw778 : (Jvm.Cond.selects "ReductionFinder" ({ cls := "ReductionFinder", name := "element", desc := "(II)I" } : Jvm.MethodName) ({ cls := "ReductionFinder", name := "element", desc := "(II)I" } : Jvm.MethodName)) ∈ PWS := pws_mem 778 (by decide +kernel) rfl
theorem qw779 : (Jvm.Cond.code ({ cls := "ReductionFinder", name := "element", desc := "(II)I" } : Jvm.MethodName) prog_1_method_10_code (3 : Nat) (Option.some Jvm.ClassFile.FieldType.int)) ∈ PWS := pws_mem 779 (by decide +kernel) rfl
theorem qw783 : (Jvm.Cond.methodLink "ReductionFinderLaw" (40 : Nat) ({ cls := "ReductionFinder", name := "setInitial", desc := "(II)I" } : Jvm.MethodName)) ∈ PWS := pws_mem 783 (by decide +kernel) rfl
theorem qw784 : (Jvm.Cond.instanceMethod ({ cls := "ReductionFinder", name := "setInitial", desc := "(II)I" } : Jvm.MethodName)) ∈ PWS := pws_mem 784 (by decide +kernel) rfl
theorem qw785 : (Jvm.Cond.selects "ReductionFinder" ({ cls := "ReductionFinder", name := "setInitial", desc := "(II)I" } : Jvm.MethodName) ({ cls := "ReductionFinder", name := "setInitial", desc := "(II)I" } : Jvm.MethodName)) ∈ PWS := pws_mem 785 (by decide +kernel) rfl
theorem qw786 : (Jvm.Cond.code ({ cls := "ReductionFinder", name := "setInitial", desc := "(II)I" } : Jvm.MethodName) prog_1_method_11_code (4 : Nat) (Option.some Jvm.ClassFile.FieldType.int)) ∈ PWS := pws_mem 786 (by decide +kernel) rfl
theorem qw794 : (Jvm.Cond.methodLink "ReductionFinderLaw" (43 : Nat) ({ cls := "ReductionFinder", name := "kind", desc := "(I)I" } : Jvm.MethodName)) ∈ PWS := pws_mem 794 (by decide +kernel) rfl
theorem qw795 : (Jvm.Cond.instanceMethod ({ cls := "ReductionFinder", name := "kind", desc := "(I)I" } : Jvm.MethodName)) ∈ PWS := pws_mem 795 (by decide +kernel) rfl
theorem qw796 : (Jvm.Cond.selects "ReductionFinder" ({ cls := "ReductionFinder", name := "kind", desc := "(I)I" } : Jvm.MethodName) ({ cls := "ReductionFinder", name := "kind", desc := "(I)I" } : Jvm.MethodName)) ∈ PWS := pws_mem 796 (by decide +kernel) rfl
theorem qw797 : (Jvm.Cond.code ({ cls := "ReductionFinder", name := "kind", desc := "(I)I" } : Jvm.MethodName) prog_1_method_12_code (2 : Nat) (Option.some Jvm.ClassFile.FieldType.int)) ∈ PWS := pws_mem 797 (by decide +kernel) rfl
theorem qw801 : (Jvm.Cond.classLink "ReductionFinderLaw" (49 : Nat) "java/lang/UnsupportedOperationException") ∈ PWS := pws_mem 801 (by decide +kernel) rfl
theorem qw802 : (Jvm.Cond.methodLink "ReductionFinderLaw" (46 : Nat) ({ cls := "ReductionFinder", name := "operator", desc := "(I)I" } : Jvm.MethodName)) ∈ PWS := pws_mem 802 (by decide +kernel) rfl
theorem qw803 : (Jvm.Cond.instanceMethod ({ cls := "ReductionFinder", name := "operator", desc := "(I)I" } : Jvm.MethodName)) ∈ PWS := pws_mem 803 (by decide +kernel) rfl
theorem qw804 : (Jvm.Cond.selects "ReductionFinder" ({ cls := "ReductionFinder", name := "operator", desc := "(I)I" } : Jvm.MethodName) ({ cls := "ReductionFinder", name := "operator", desc := "(I)I" } : Jvm.MethodName)) ∈ PWS := pws_mem 804 (by decide +kernel) rfl
theorem qw805 : (Jvm.Cond.code ({ cls := "ReductionFinder", name := "operator", desc := "(I)I" } : Jvm.MethodName) prog_1_method_13_code (2 : Nat) (Option.some Jvm.ClassFile.FieldType.int)) ∈ PWS := pws_mem 805 (by decide +kernel) rfl
theorem qw812 : (Jvm.Cond.castable "java/lang/UnsupportedOperationException" "java/lang/UnsupportedOperationException") ∈ PWS := pws_mem 812 (by decide +kernel) rfl
theorem qw829 : (Jvm.Cond.methodLink "ReductionFinderLaw" (51 : Nat) ({ cls := "ReductionFinder", name := "terms", desc := "(I)I" } : Jvm.MethodName)) ∈ PWS := pws_mem 829 (by decide +kernel) rfl
theorem qw830 : (Jvm.Cond.instanceMethod ({ cls := "ReductionFinder", name := "terms", desc := "(I)I" } : Jvm.MethodName)) ∈ PWS := pws_mem 830 (by decide +kernel) rfl
theorem qw831 : (Jvm.Cond.selects "ReductionFinder" ({ cls := "ReductionFinder", name := "terms", desc := "(I)I" } : Jvm.MethodName) ({ cls := "ReductionFinder", name := "terms", desc := "(I)I" } : Jvm.MethodName)) ∈ PWS := pws_mem 831 (by decide +kernel) rfl
theorem qw832 : (Jvm.Cond.code ({ cls := "ReductionFinder", name := "terms", desc := "(I)I" } : Jvm.MethodName) prog_1_method_14_code (2 : Nat) (Option.some Jvm.ClassFile.FieldType.int)) ∈ PWS := pws_mem 832 (by decide +kernel) rfl
theorem qw836 : (Jvm.Cond.methodLink "ReductionFinderLaw" (54 : Nat) ({ cls := "ReductionFinder", name := "depends", desc := "(I)I" } : Jvm.MethodName)) ∈ PWS := pws_mem 836 (by decide +kernel) rfl
theorem qw837 : (Jvm.Cond.instanceMethod ({ cls := "ReductionFinder", name := "depends", desc := "(I)I" } : Jvm.MethodName)) ∈ PWS := pws_mem 837 (by decide +kernel) rfl
theorem qw838 : (Jvm.Cond.selects "ReductionFinder" ({ cls := "ReductionFinder", name := "depends", desc := "(I)I" } : Jvm.MethodName) ({ cls := "ReductionFinder", name := "depends", desc := "(I)I" } : Jvm.MethodName)) ∈ PWS := pws_mem 838 (by decide +kernel) rfl
theorem qw839 : (Jvm.Cond.code ({ cls := "ReductionFinder", name := "depends", desc := "(I)I" } : Jvm.MethodName) prog_1_method_15_code (2 : Nat) (Option.some Jvm.ClassFile.FieldType.int)) ∈ PWS := pws_mem 839 (by decide +kernel) rfl
theorem qw843 : (Jvm.Cond.methodLink "ReductionFinderLaw" (57 : Nat) ({ cls := "ReductionFinder", name := "nodes", desc := "(I)I" } : Jvm.MethodName)) ∈ PWS := pws_mem 843 (by decide +kernel) rfl
theorem qw844 : (Jvm.Cond.instanceMethod ({ cls := "ReductionFinder", name := "nodes", desc := "(I)I" } : Jvm.MethodName)) ∈ PWS := pws_mem 844 (by decide +kernel) rfl
theorem qw845 : (Jvm.Cond.selects "ReductionFinder" ({ cls := "ReductionFinder", name := "nodes", desc := "(I)I" } : Jvm.MethodName) ({ cls := "ReductionFinder", name := "nodes", desc := "(I)I" } : Jvm.MethodName)) ∈ PWS := pws_mem 845 (by decide +kernel) rfl
theorem qw846 : (Jvm.Cond.code ({ cls := "ReductionFinder", name := "nodes", desc := "(I)I" } : Jvm.MethodName) prog_1_method_16_code (2 : Nat) (Option.some Jvm.ClassFile.FieldType.int)) ∈ PWS := pws_mem 846 (by decide +kernel) rfl
theorem qw850 : (Jvm.Cond.methodLink "ReductionFinderLaw" (60 : Nat) ({ cls := "ReductionFinder", name := "height", desc := "(I)I" } : Jvm.MethodName)) ∈ PWS := pws_mem 850 (by decide +kernel) rfl
theorem qw851 : (Jvm.Cond.instanceMethod ({ cls := "ReductionFinder", name := "height", desc := "(I)I" } : Jvm.MethodName)) ∈ PWS := pws_mem 851 (by decide +kernel) rfl
theorem qw852 : (Jvm.Cond.selects "ReductionFinder" ({ cls := "ReductionFinder", name := "height", desc := "(I)I" } : Jvm.MethodName) ({ cls := "ReductionFinder", name := "height", desc := "(I)I" } : Jvm.MethodName)) ∈ PWS := pws_mem 852 (by decide +kernel) rfl
theorem qw853 : (Jvm.Cond.code ({ cls := "ReductionFinder", name := "height", desc := "(I)I" } : Jvm.MethodName) prog_1_method_17_code (2 : Nat) (Option.some Jvm.ClassFile.FieldType.int)) ∈ PWS := pws_mem 853 (by decide +kernel) rfl
theorem qw864 : (Jvm.Cond.methodLink "ReductionFinderLaw" (63 : Nat) ({ cls := "ReductionFinder", name := "open", desc := "(I)I" } : Jvm.MethodName)) ∈ PWS := pws_mem 864 (by decide +kernel) rfl
theorem qw865 : (Jvm.Cond.instanceMethod ({ cls := "ReductionFinder", name := "open", desc := "(I)I" } : Jvm.MethodName)) ∈ PWS := pws_mem 865 (by decide +kernel) rfl
theorem qw866 : (Jvm.Cond.selects "ReductionFinder" ({ cls := "ReductionFinder", name := "open", desc := "(I)I" } : Jvm.MethodName) ({ cls := "ReductionFinder", name := "open", desc := "(I)I" } : Jvm.MethodName)) ∈ PWS := pws_mem 866 (by decide +kernel) rfl
theorem qw867 : (Jvm.Cond.code ({ cls := "ReductionFinder", name := "open", desc := "(I)I" } : Jvm.MethodName) prog_1_method_18_code (2 : Nat) (Option.some Jvm.ClassFile.FieldType.int)) ∈ PWS := pws_mem 867 (by decide +kernel) rfl
theorem qw871 : (Jvm.Cond.methodLink "ReductionFinderLaw" (66 : Nat) ({ cls := "ReductionFinder", name := "hasNext", desc := "()Z" } : Jvm.MethodName)) ∈ PWS := pws_mem 871 (by decide +kernel) rfl
theorem qw872 : (Jvm.Cond.instanceMethod ({ cls := "ReductionFinder", name := "hasNext", desc := "()Z" } : Jvm.MethodName)) ∈ PWS := pws_mem 872 (by decide +kernel) rfl
theorem qw873 : (Jvm.Cond.selects "ReductionFinder" ({ cls := "ReductionFinder", name := "hasNext", desc := "()Z" } : Jvm.MethodName) ({ cls := "ReductionFinder", name := "hasNext", desc := "()Z" } : Jvm.MethodName)) ∈ PWS := pws_mem 873 (by decide +kernel) rfl
theorem qw874 : (Jvm.Cond.code ({ cls := "ReductionFinder", name := "hasNext", desc := "()Z" } : Jvm.MethodName) prog_1_method_19_code (1 : Nat) (Option.some Jvm.ClassFile.FieldType.boolean)) ∈ PWS := pws_mem 874 (by decide +kernel) rfl
theorem qw883 : (Jvm.Cond.classLink "ReductionFinderLaw" (73 : Nat) "java/util/NoSuchElementException") ∈ PWS := pws_mem 883 (by decide +kernel) rfl
theorem qw884 : (Jvm.Cond.methodLink "ReductionFinderLaw" (70 : Nat) ({ cls := "ReductionFinder", name := "next", desc := "()I" } : Jvm.MethodName)) ∈ PWS := pws_mem 884 (by decide +kernel) rfl
theorem qw885 : (Jvm.Cond.instanceMethod ({ cls := "ReductionFinder", name := "next", desc := "()I" } : Jvm.MethodName)) ∈ PWS := pws_mem 885 (by decide +kernel) rfl
theorem qw886 : (Jvm.Cond.selects "ReductionFinder" ({ cls := "ReductionFinder", name := "next", desc := "()I" } : Jvm.MethodName) ({ cls := "ReductionFinder", name := "next", desc := "()I" } : Jvm.MethodName)) ∈ PWS := pws_mem 886 (by decide +kernel) rfl
theorem qw887 : (Jvm.Cond.code ({ cls := "ReductionFinder", name := "next", desc := "()I" } : Jvm.MethodName) prog_1_method_20_code (2 : Nat) (Option.some Jvm.ClassFile.FieldType.int)) ∈ PWS := pws_mem 887 (by decide +kernel) rfl
theorem qw890 : (Jvm.Cond.castable "java/util/NoSuchElementException" "java/util/NoSuchElementException") ∈ PWS := pws_mem 890 (by decide +kernel) rfl
theorem qw907 : (Jvm.Cond.methodLink "ReductionFinderLaw" (75 : Nat) ({ cls := "ReductionFinder", name := "isExact", desc := "(I)Z" } : Jvm.MethodName)) ∈ PWS := pws_mem 907 (by decide +kernel) rfl
theorem qw908 : (Jvm.Cond.instanceMethod ({ cls := "ReductionFinder", name := "isExact", desc := "(I)Z" } : Jvm.MethodName)) ∈ PWS := pws_mem 908 (by decide +kernel) rfl
theorem qw909 : (Jvm.Cond.selects "ReductionFinder" ({ cls := "ReductionFinder", name := "isExact", desc := "(I)Z" } : Jvm.MethodName) ({ cls := "ReductionFinder", name := "isExact", desc := "(I)Z" } : Jvm.MethodName)) ∈ PWS := pws_mem 909 (by decide +kernel) rfl
theorem qw910 : (Jvm.Cond.code ({ cls := "ReductionFinder", name := "isExact", desc := "(I)Z" } : Jvm.MethodName) prog_1_method_22_code (4 : Nat) (Option.some Jvm.ClassFile.FieldType.boolean)) ∈ PWS := pws_mem 910 (by decide +kernel) rfl
theorem qw914 : (Jvm.Cond.methodLink "ReductionFinderLaw" (79 : Nat) ({ cls := "ReductionFinder", name := "execute", desc := "(II)I" } : Jvm.MethodName)) ∈ PWS := pws_mem 914 (by decide +kernel) rfl
theorem qw915 : (Jvm.Cond.instanceMethod ({ cls := "ReductionFinder", name := "execute", desc := "(II)I" } : Jvm.MethodName)) ∈ PWS := pws_mem 915 (by decide +kernel) rfl
theorem qw916 : (Jvm.Cond.selects "ReductionFinder" ({ cls := "ReductionFinder", name := "execute", desc := "(II)I" } : Jvm.MethodName) ({ cls := "ReductionFinder", name := "execute", desc := "(II)I" } : Jvm.MethodName)) ∈ PWS := pws_mem 916 (by decide +kernel) rfl
theorem qw917 : (Jvm.Cond.code ({ cls := "ReductionFinder", name := "execute", desc := "(II)I" } : Jvm.MethodName) prog_1_method_23_code (4 : Nat) (Option.some Jvm.ClassFile.FieldType.int)) ∈ PWS := pws_mem 917 (by decide +kernel) rfl
theorem qw1050 : (Jvm.Cond.methodLink "ReductionFinderLaw" (82 : Nat) ({ cls := "ReductionFinder", name := "result", desc := "(I)I" } : Jvm.MethodName)) ∈ PWS := pws_mem 1050 (by decide +kernel) rfl
theorem qw1051 : (Jvm.Cond.instanceMethod ({ cls := "ReductionFinder", name := "result", desc := "(I)I" } : Jvm.MethodName)) ∈ PWS := pws_mem 1051 (by decide +kernel) rfl
theorem qw1052 : (Jvm.Cond.selects "ReductionFinder" ({ cls := "ReductionFinder", name := "result", desc := "(I)I" } : Jvm.MethodName) ({ cls := "ReductionFinder", name := "result", desc := "(I)I" } : Jvm.MethodName)) ∈ PWS := pws_mem 1052 (by decide +kernel) rfl
theorem qw1053 : (Jvm.Cond.code ({ cls := "ReductionFinder", name := "result", desc := "(I)I" } : Jvm.MethodName) prog_1_method_24_code (2 : Nat) (Option.some Jvm.ClassFile.FieldType.int)) ∈ PWS := pws_mem 1053 (by decide +kernel) rfl
theorem qw1058 : (Jvm.Cond.methodLink "ReductionFinderLaw" (85 : Nat) ({ cls := "ReductionFinder", name := "resultFloat", desc := "(I)F" } : Jvm.MethodName)) ∈ PWS := pws_mem 1058 (by decide +kernel) rfl
theorem qw1059 : (Jvm.Cond.instanceMethod ({ cls := "ReductionFinder", name := "resultFloat", desc := "(I)F" } : Jvm.MethodName)) ∈ PWS := pws_mem 1059 (by decide +kernel) rfl
theorem qw1060 : (Jvm.Cond.selects "ReductionFinder" ({ cls := "ReductionFinder", name := "resultFloat", desc := "(I)F" } : Jvm.MethodName) ({ cls := "ReductionFinder", name := "resultFloat", desc := "(I)F" } : Jvm.MethodName)) ∈ PWS := pws_mem 1060 (by decide +kernel) rfl
theorem qw1061 : (Jvm.Cond.code ({ cls := "ReductionFinder", name := "resultFloat", desc := "(I)F" } : Jvm.MethodName) prog_1_method_25_code (2 : Nat) (Option.some Jvm.ClassFile.FieldType.float)) ∈ PWS := pws_mem 1061 (by decide +kernel) rfl
theorem qw1066 : (Jvm.Cond.methodLink "ReductionFinderLaw" (89 : Nat) ({ cls := "ReductionFinder", name := "difference", desc := "(I)D" } : Jvm.MethodName)) ∈ PWS := pws_mem 1066 (by decide +kernel) rfl
theorem qw1067 : (Jvm.Cond.instanceMethod ({ cls := "ReductionFinder", name := "difference", desc := "(I)D" } : Jvm.MethodName)) ∈ PWS := pws_mem 1067 (by decide +kernel) rfl
theorem qw1068 : (Jvm.Cond.selects "ReductionFinder" ({ cls := "ReductionFinder", name := "difference", desc := "(I)D" } : Jvm.MethodName) ({ cls := "ReductionFinder", name := "difference", desc := "(I)D" } : Jvm.MethodName)) ∈ PWS := pws_mem 1068 (by decide +kernel) rfl
theorem qw1069 : (Jvm.Cond.code ({ cls := "ReductionFinder", name := "difference", desc := "(I)D" } : Jvm.MethodName) prog_1_method_26_code (5 : Nat) (Option.some Jvm.ClassFile.FieldType.double)) ∈ PWS := pws_mem 1069 (by decide +kernel) rfl
theorem qw1076 : (Jvm.Cond.methodLink "ReductionFinderLaw" (93 : Nat) ({ cls := "ReductionFinder", name := "cost", desc := "(II)I" } : Jvm.MethodName)) ∈ PWS := pws_mem 1076 (by decide +kernel) rfl
theorem qw1077 : (Jvm.Cond.instanceMethod ({ cls := "ReductionFinder", name := "cost", desc := "(II)I" } : Jvm.MethodName)) ∈ PWS := pws_mem 1077 (by decide +kernel) rfl
theorem qw1078 : (Jvm.Cond.selects "ReductionFinder" ({ cls := "ReductionFinder", name := "cost", desc := "(II)I" } : Jvm.MethodName) ({ cls := "ReductionFinder", name := "cost", desc := "(II)I" } : Jvm.MethodName)) ∈ PWS := pws_mem 1078 (by decide +kernel) rfl
theorem qw1079 : (Jvm.Cond.code ({ cls := "ReductionFinder", name := "cost", desc := "(II)I" } : Jvm.MethodName) prog_1_method_27_code (3 : Nat) (Option.some Jvm.ClassFile.FieldType.int)) ∈ PWS := pws_mem 1079 (by decide +kernel) rfl
theorem qw1083 : (Jvm.Cond.methodLink "ReductionFinderLaw" (96 : Nat) ({ cls := "ReductionFinder", name := "restore", desc := "()V" } : Jvm.MethodName)) ∈ PWS := pws_mem 1083 (by decide +kernel) rfl
theorem qw1084 : (Jvm.Cond.instanceMethod ({ cls := "ReductionFinder", name := "restore", desc := "()V" } : Jvm.MethodName)) ∈ PWS := pws_mem 1084 (by decide +kernel) rfl
theorem qw1085 : (Jvm.Cond.selects "ReductionFinder" ({ cls := "ReductionFinder", name := "restore", desc := "()V" } : Jvm.MethodName) ({ cls := "ReductionFinder", name := "restore", desc := "()V" } : Jvm.MethodName)) ∈ PWS := pws_mem 1085 (by decide +kernel) rfl
theorem qw1086 : (Jvm.Cond.code ({ cls := "ReductionFinder", name := "restore", desc := "()V" } : Jvm.MethodName) prog_1_method_30_code (1 : Nat) (Option.none : Option Jvm.ClassFile.FieldType)) ∈ PWS := pws_mem 1086 (by decide +kernel) rfl
theorem k_X9_append : CalOK yX9_append cX9_append 5 (some .int) 1 := ⟨qw415, qw76, by decide, by decide +kernel, by decide⟩
theorem k_X9_cost : CalOK yX9_cost cX9_cost 3 (some .int) 2 := ⟨qw1079, qw76, by decide, by decide +kernel, by decide⟩
theorem k_X9_depends : CalOK yX9_depends cX9_depends 2 (some .int) 1 := ⟨qw839, qw76, by decide, by decide +kernel, by decide⟩
theorem k_X9_difference : CalOK yX9_difference cX9_difference 5 (some .double) 1 := ⟨qw1069, qw76, by decide, by decide +kernel, by decide⟩
theorem k_X9_element : CalOK yX9_element cX9_element 3 (some .int) 2 := ⟨qw779, qw76, by decide, by decide +kernel, by decide⟩
theorem k_X9_execute : CalOK yX9_execute cX9_execute 4 (some .int) 2 := ⟨qw917, qw76, by decide, by decide +kernel, by decide⟩
theorem k_X9_fill : CalOK yX9_fill cX9_fill 7 (some .int) 2 := ⟨qw770, qw76, by decide, by decide +kernel, by decide⟩
theorem k_X9_hasNext : CalOK yX9_hasNext cX9_hasNext 1 (some .boolean) 0 := ⟨qw874, qw76, by decide, by decide +kernel, by decide⟩
theorem k_X9_height : CalOK yX9_height cX9_height 2 (some .int) 1 := ⟨qw853, qw76, by decide, by decide +kernel, by decide⟩
theorem k_X9_isExact : CalOK yX9_isExact cX9_isExact 4 (some .boolean) 1 := ⟨qw910, qw76, by decide, by decide +kernel, by decide⟩
theorem k_X9_kind : CalOK yX9_kind cX9_kind 2 (some .int) 1 := ⟨qw797, qw76, by decide, by decide +kernel, by decide⟩
theorem k_X9_load : CalOK yX9_load cX9_load 3 (some .int) 0 := ⟨qw512, qw76, by decide, by decide +kernel, by decide⟩
theorem k_X9_next : CalOK yX9_next cX9_next 2 (some .int) 0 := ⟨qw887, qw76, by decide, by decide +kernel, by decide⟩
theorem k_X9_nodes : CalOK yX9_nodes cX9_nodes 2 (some .int) 1 := ⟨qw846, qw76, by decide, by decide +kernel, by decide⟩
theorem k_X9_open : CalOK yX9_open cX9_open 2 (some .int) 1 := ⟨qw867, qw76, by decide, by decide +kernel, by decide⟩
theorem k_X9_operator : CalOK yX9_operator cX9_operator 2 (some .int) 1 := ⟨qw805, qw76, by decide, by decide +kernel, by decide⟩
theorem k_X9_restore : CalOK yX9_restore cX9_restore 1 none 0 := ⟨qw1086, qw76, by decide, by decide +kernel, by decide⟩
theorem k_X9_result : CalOK yX9_result cX9_result 2 (some .int) 1 := ⟨qw1053, qw76, by decide, by decide +kernel, by decide⟩
theorem k_X9_resultFloat : CalOK yX9_resultFloat cX9_resultFloat 2 (some .float) 1 := ⟨qw1061, qw76, by decide, by decide +kernel, by decide⟩
theorem k_X9_setCount : CalOK yX9_setCount cX9_setCount 3 (some .int) 1 := ⟨qw734, qw76, by decide, by decide +kernel, by decide⟩
theorem k_X9_setElement : CalOK yX9_setElement cX9_setElement 5 (some .int) 3 := ⟨qw743, qw76, by decide, by decide +kernel, by decide⟩
theorem k_X9_setInitial : CalOK yX9_setInitial cX9_setInitial 4 (some .int) 2 := ⟨qw786, qw76, by decide, by decide +kernel, by decide⟩
theorem k_X9_setMode : CalOK yX9_setMode cX9_setMode 3 (some .int) 1 := ⟨qw726, qw76, by decide, by decide +kernel, by decide⟩
theorem k_X9_terms : CalOK yX9_terms cX9_terms 2 (some .int) 1 := ⟨qw832, qw76, by decide, by decide +kernel, by decide⟩
