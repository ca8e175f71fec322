theorem k_0 : (Jvm.Cond.initialized "ProsePagesLaw") ∈ TT := TT_in 49 (by decide +kernel) (by decide +kernel)
theorem k_11 : (Jvm.Cond.initialized "java/lang/IllegalArgumentException") ∈ TT := TT_in 60 (by decide +kernel) (by decide +kernel)
theorem k_15 : (Jvm.Cond.classLink "ProsePagesLaw" (8 : Nat) "ProsePages") ∈ TT := TT_in 64 (by decide +kernel) (by decide +kernel)
theorem k_16 : (Jvm.Cond.instantiable "ProsePages" (8 : Nat)) ∈ TT := TT_in 65 (by decide +kernel) (by decide +kernel)
theorem k_17 : (Jvm.Cond.methodLink "ProsePagesLaw" (24 : Nat) ({ cls := "ProsePages", name := "<init>", desc := "()V" } : Jvm.MethodName)) ∈ TT := TT_in 66 (by decide +kernel) (by decide +kernel)
theorem k_18 : (Jvm.Cond.instanceMethod ({ cls := "ProsePages", name := "<init>", desc := "()V" } : Jvm.MethodName)) ∈ TT := TT_in 67 (by decide +kernel) (by decide +kernel)
theorem k_200 : (Jvm.Cond.methodLink "ProsePagesLaw" (38 : Nat) ({ cls := "ProsePages", name := "end", desc := "()I" } : Jvm.MethodName)) ∈ TT := TT_in 249 (by decide +kernel) (by decide +kernel)
theorem k_201 : (Jvm.Cond.instanceMethod ({ cls := "ProsePages", name := "end", desc := "()I" } : Jvm.MethodName)) ∈ TT := TT_in 250 (by decide +kernel) (by decide +kernel)
theorem k_202 : (Jvm.Cond.selects "ProsePages" ({ cls := "ProsePages", name := "end", desc := "()I" } : Jvm.MethodName) ({ cls := "ProsePages", name := "end", desc := "()I" } : Jvm.MethodName)) ∈ TT := TT_in 251 (by decide +kernel) (by decide +kernel)
theorem k_204 : (Jvm.Cond.methodLink "ProsePagesLaw" (46 : Nat) ({ cls := "ProsePages", name := "clear", desc := "()V" } : Jvm.MethodName)) ∈ TT := TT_in 253 (by decide +kernel) (by decide +kernel)
theorem k_205 : (Jvm.Cond.instanceMethod ({ cls := "ProsePages", name := "clear", desc := "()V" } : Jvm.MethodName)) ∈ TT := TT_in 254 (by decide +kernel) (by decide +kernel)
theorem k_206 : (Jvm.Cond.selects "ProsePages" ({ cls := "ProsePages", name := "clear", desc := "()V" } : Jvm.MethodName) ({ cls := "ProsePages", name := "clear", desc := "()V" } : Jvm.MethodName)) ∈ TT := TT_in 255 (by decide +kernel) (by decide +kernel)
theorem k_212 : (Jvm.Cond.methodLink "ProsePagesLaw" (53 : Nat) ({ cls := "ProsePages", name := "cell", desc := "(III)I" } : Jvm.MethodName)) ∈ TT := TT_in 261 (by decide +kernel) (by decide +kernel)
theorem k_213 : (Jvm.Cond.instanceMethod ({ cls := "ProsePages", name := "cell", desc := "(III)I" } : Jvm.MethodName)) ∈ TT := TT_in 262 (by decide +kernel) (by decide +kernel)
theorem k_214 : (Jvm.Cond.selects "ProsePages" ({ cls := "ProsePages", name := "cell", desc := "(III)I" } : Jvm.MethodName) ({ cls := "ProsePages", name := "cell", desc := "(III)I" } : Jvm.MethodName)) ∈ TT := TT_in 263 (by decide +kernel) (by decide +kernel)
theorem k_232 : (Jvm.Cond.methodLink "ProsePagesLaw" (58 : Nat) ({ cls := "ProsePages", name := "page", desc := "(II)I" } : Jvm.MethodName)) ∈ TT := TT_in 281 (by decide +kernel) (by decide +kernel)
theorem k_233 : (Jvm.Cond.instanceMethod ({ cls := "ProsePages", name := "page", desc := "(II)I" } : Jvm.MethodName)) ∈ TT := TT_in 282 (by decide +kernel) (by decide +kernel)
theorem k_234 : (Jvm.Cond.selects "ProsePages" ({ cls := "ProsePages", name := "page", desc := "(II)I" } : Jvm.MethodName) ({ cls := "ProsePages", name := "page", desc := "(II)I" } : Jvm.MethodName)) ∈ TT := TT_in 283 (by decide +kernel) (by decide +kernel)
theorem k_238 : (Jvm.Cond.methodLink "ProsePagesLaw" (62 : Nat) ({ cls := "ProsePages", name := "line", desc := "(II)I" } : Jvm.MethodName)) ∈ TT := TT_in 287 (by decide +kernel) (by decide +kernel)
theorem k_239 : (Jvm.Cond.instanceMethod ({ cls := "ProsePages", name := "line", desc := "(II)I" } : Jvm.MethodName)) ∈ TT := TT_in 288 (by decide +kernel) (by decide +kernel)
theorem k_240 : (Jvm.Cond.selects "ProsePages" ({ cls := "ProsePages", name := "line", desc := "(II)I" } : Jvm.MethodName) ({ cls := "ProsePages", name := "line", desc := "(II)I" } : Jvm.MethodName)) ∈ TT := TT_in 289 (by decide +kernel) (by decide +kernel)
theorem k_246 : (Jvm.Cond.methodLink "ProsePagesLaw" (66 : Nat) ({ cls := "ProsePages", name := "find", desc := "(I)I" } : Jvm.MethodName)) ∈ TT := TT_in 295 (by decide +kernel) (by decide +kernel)
theorem k_247 : (Jvm.Cond.instanceMethod ({ cls := "ProsePages", name := "find", desc := "(I)I" } : Jvm.MethodName)) ∈ TT := TT_in 296 (by decide +kernel) (by decide +kernel)
theorem k_248 : (Jvm.Cond.selects "ProsePages" ({ cls := "ProsePages", name := "find", desc := "(I)I" } : Jvm.MethodName) ({ cls := "ProsePages", name := "find", desc := "(I)I" } : Jvm.MethodName)) ∈ TT := TT_in 297 (by decide +kernel) (by decide +kernel)
theorem k_254 : (Jvm.Cond.methodLink "ProsePagesLaw" (71 : Nat) ({ cls := "ProsePages", name := "node", desc := "(II)I" } : Jvm.MethodName)) ∈ TT := TT_in 303 (by decide +kernel) (by decide +kernel)
theorem k_255 : (Jvm.Cond.instanceMethod ({ cls := "ProsePages", name := "node", desc := "(II)I" } : Jvm.MethodName)) ∈ TT := TT_in 304 (by decide +kernel) (by decide +kernel)
theorem k_256 : (Jvm.Cond.selects "ProsePages" ({ cls := "ProsePages", name := "node", desc := "(II)I" } : Jvm.MethodName) ({ cls := "ProsePages", name := "node", desc := "(II)I" } : Jvm.MethodName)) ∈ TT := TT_in 305 (by decide +kernel) (by decide +kernel)
theorem k_258 : (Jvm.Cond.methodLink "ProsePagesLaw" (75 : Nat) ({ cls := "ProsePages", name := "about", desc := "(I)I" } : Jvm.MethodName)) ∈ TT := TT_in 307 (by decide +kernel) (by decide +kernel)
theorem k_259 : (Jvm.Cond.instanceMethod ({ cls := "ProsePages", name := "about", desc := "(I)I" } : Jvm.MethodName)) ∈ TT := TT_in 308 (by decide +kernel) (by decide +kernel)
theorem k_260 : (Jvm.Cond.selects "ProsePages" ({ cls := "ProsePages", name := "about", desc := "(I)I" } : Jvm.MethodName) ({ cls := "ProsePages", name := "about", desc := "(I)I" } : Jvm.MethodName)) ∈ TT := TT_in 309 (by decide +kernel) (by decide +kernel)
theorem k_262 : (Jvm.Cond.methodLink "ProsePagesLaw" (28 : Nat) ({ cls := "ProsePagesLaw", name := "begin", desc := "(LProsePages;II[J)I" } : Jvm.MethodName)) ∈ TT := TT_in 311 (by decide +kernel) (by decide +kernel)
theorem k_263 : (Jvm.Cond.static ({ cls := "ProsePagesLaw", name := "begin", desc := "(LProsePages;II[J)I" } : Jvm.MethodName)) ∈ TT := TT_in 312 (by decide +kernel) (by decide +kernel)
theorem k_264 : (Jvm.Cond.codeWith ({ cls := "ProsePagesLaw", name := "begin", desc := "(LProsePages;II[J)I" } : Jvm.MethodName) method_3_code (5 : Nat) (Option.some Jvm.ClassFile.FieldType.int) [((0 : Nat), (10 : Nat), (13 : Nat), (13 : Nat)), ((0 : Nat), (10 : Nat), (17 : Nat), (15 : Nat))]) ∈ TT := TT_in 313 (by decide +kernel) (by decide +kernel)
theorem k_265 : (Jvm.Cond.classLink "ProsePagesLaw" (13 : Nat) "java/lang/IllegalStateException") ∈ TT := TT_in 314 (by decide +kernel) (by decide +kernel)
theorem k_266 : (Jvm.Cond.classLink "ProsePagesLaw" (15 : Nat) "java/lang/IllegalArgumentException") ∈ TT := TT_in 315 (by decide +kernel) (by decide +kernel)
theorem k_267 : (Jvm.Cond.methodLink "ProsePagesLaw" (7 : Nat) ({ cls := "ProsePages", name := "begin", desc := "(II)I" } : Jvm.MethodName)) ∈ TT := TT_in 316 (by decide +kernel) (by decide +kernel)
theorem k_268 : (Jvm.Cond.instanceMethod ({ cls := "ProsePages", name := "begin", desc := "(II)I" } : Jvm.MethodName)) ∈ TT := TT_in 317 (by decide +kernel) (by decide +kernel)
theorem k_269 : (Jvm.Cond.selects "ProsePages" ({ cls := "ProsePages", name := "begin", desc := "(II)I" } : Jvm.MethodName) ({ cls := "ProsePages", name := "begin", desc := "(II)I" } : Jvm.MethodName)) ∈ TT := TT_in 318 (by decide +kernel) (by decide +kernel)
theorem k_349 : (Jvm.Cond.classLink "ProsePages" (58 : Nat) "java/lang/IllegalArgumentException") ∈ TT := TT_in 398 (by decide +kernel) (by decide +kernel)
theorem k_404 : (Jvm.Cond.methodLink "ProsePagesLaw" (42 : Nat) ({ cls := "ProsePagesLaw", name := "say", desc := "(LProsePages;IIIII[J)I" } : Jvm.MethodName)) ∈ TT := TT_in 453 (by decide +kernel) (by decide +kernel)
theorem k_405 : (Jvm.Cond.static ({ cls := "ProsePagesLaw", name := "say", desc := "(LProsePages;IIIII[J)I" } : Jvm.MethodName)) ∈ TT := TT_in 454 (by decide +kernel) (by decide +kernel)
theorem k_406 : (Jvm.Cond.codeWith ({ cls := "ProsePagesLaw", name := "say", desc := "(LProsePages;IIIII[J)I" } : Jvm.MethodName) method_4_code (8 : Nat) (Option.some Jvm.ClassFile.FieldType.int) [((0 : Nat), (16 : Nat), (19 : Nat), (15 : Nat)), ((0 : Nat), (16 : Nat), (23 : Nat), (13 : Nat))]) ∈ TT := TT_in 455 (by decide +kernel) (by decide +kernel)
theorem k_407 : (Jvm.Cond.methodLink "ProsePagesLaw" (17 : Nat) ({ cls := "ProsePages", name := "say", desc := "(IIIII)I" } : Jvm.MethodName)) ∈ TT := TT_in 456 (by decide +kernel) (by decide +kernel)
theorem k_408 : (Jvm.Cond.instanceMethod ({ cls := "ProsePages", name := "say", desc := "(IIIII)I" } : Jvm.MethodName)) ∈ TT := TT_in 457 (by decide +kernel) (by decide +kernel)
theorem k_409 : (Jvm.Cond.selects "ProsePages" ({ cls := "ProsePages", name := "say", desc := "(IIIII)I" } : Jvm.MethodName) ({ cls := "ProsePages", name := "say", desc := "(IIIII)I" } : Jvm.MethodName)) ∈ TT := TT_in 458 (by decide +kernel) (by decide +kernel)
theorem k_410 : (Jvm.Cond.code ({ cls := "ProsePages", name := "say", desc := "(IIIII)I" } : Jvm.MethodName) prog_1_method_4_code (7 : Nat) (Option.some Jvm.ClassFile.FieldType.int)) ∈ TT := TT_in 459 (by decide +kernel) (by decide +kernel)
theorem k_417 : (Jvm.Cond.methodLink "ProsePagesLaw" (50 : Nat) ({ cls := "ProsePagesLaw", name := "pages", desc := "(LProsePages;II[J)I" } : Jvm.MethodName)) ∈ TT := TT_in 466 (by decide +kernel) (by decide +kernel)
theorem k_418 : (Jvm.Cond.static ({ cls := "ProsePagesLaw", name := "pages", desc := "(LProsePages;II[J)I" } : Jvm.MethodName)) ∈ TT := TT_in 467 (by decide +kernel) (by decide +kernel)
theorem k_419 : (Jvm.Cond.codeWith ({ cls := "ProsePagesLaw", name := "pages", desc := "(LProsePages;II[J)I" } : Jvm.MethodName) method_5_code (5 : Nat) (Option.some Jvm.ClassFile.FieldType.int) [((0 : Nat), (10 : Nat), (13 : Nat), (15 : Nat)), ((0 : Nat), (10 : Nat), (17 : Nat), (13 : Nat))]) ∈ TT := TT_in 468 (by decide +kernel) (by decide +kernel)
theorem k_420 : (Jvm.Cond.methodLink "ProsePagesLaw" (21 : Nat) ({ cls := "ProsePages", name := "pages", desc := "(II)I" } : Jvm.MethodName)) ∈ TT := TT_in 469 (by decide +kernel) (by decide +kernel)
theorem k_421 : (Jvm.Cond.instanceMethod ({ cls := "ProsePages", name := "pages", desc := "(II)I" } : Jvm.MethodName)) ∈ TT := TT_in 470 (by decide +kernel) (by decide +kernel)
theorem k_422 : (Jvm.Cond.selects "ProsePages" ({ cls := "ProsePages", name := "pages", desc := "(II)I" } : Jvm.MethodName) ({ cls := "ProsePages", name := "pages", desc := "(II)I" } : Jvm.MethodName)) ∈ TT := TT_in 471 (by decide +kernel) (by decide +kernel)
theorem k_574 : (Jvm.Cond.classLink "ProsePagesLaw" (25 : Nat) "ProsePagesModel") ∈ TT := TT_in 623 (by decide +kernel) (by decide +kernel)
theorem k_575 : (Jvm.Cond.instantiable "ProsePagesModel" (45 : Nat)) ∈ TT := TT_in 624 (by decide +kernel) (by decide +kernel)
theorem k_576 : (Jvm.Cond.methodLink "ProsePagesLaw" (27 : Nat) ({ cls := "ProsePagesModel", name := "<init>", desc := "()V" } : Jvm.MethodName)) ∈ TT := TT_in 625 (by decide +kernel) (by decide +kernel)
theorem k_577 : (Jvm.Cond.instanceMethod ({ cls := "ProsePagesModel", name := "<init>", desc := "()V" } : Jvm.MethodName)) ∈ TT := TT_in 626 (by decide +kernel) (by decide +kernel)
theorem k_722 : (Jvm.Cond.methodLink "ProsePagesLaw" (34 : Nat) ({ cls := "ProsePagesModel", name := "thrown", desc := "()I" } : Jvm.MethodName)) ∈ TT := TT_in 771 (by decide +kernel) (by decide +kernel)
theorem k_723 : (Jvm.Cond.instanceMethod ({ cls := "ProsePagesModel", name := "thrown", desc := "()I" } : Jvm.MethodName)) ∈ TT := TT_in 772 (by decide +kernel) (by decide +kernel)
theorem k_724 : (Jvm.Cond.selects "ProsePagesModel" ({ cls := "ProsePagesModel", name := "thrown", desc := "()I" } : Jvm.MethodName) ({ cls := "ProsePagesModel", name := "thrown", desc := "()I" } : Jvm.MethodName)) ∈ TT := TT_in 773 (by decide +kernel) (by decide +kernel)
theorem k_726 : (Jvm.Cond.methodLink "ProsePagesLaw" (33 : Nat) ({ cls := "ProsePagesModel", name := "begin", desc := "(II)I" } : Jvm.MethodName)) ∈ TT := TT_in 775 (by decide +kernel) (by decide +kernel)
theorem k_727 : (Jvm.Cond.instanceMethod ({ cls := "ProsePagesModel", name := "begin", desc := "(II)I" } : Jvm.MethodName)) ∈ TT := TT_in 776 (by decide +kernel) (by decide +kernel)
theorem k_728 : (Jvm.Cond.selects "ProsePagesModel" ({ cls := "ProsePagesModel", name := "begin", desc := "(II)I" } : Jvm.MethodName) ({ cls := "ProsePagesModel", name := "begin", desc := "(II)I" } : Jvm.MethodName)) ∈ TT := TT_in 777 (by decide +kernel) (by decide +kernel)
theorem k_748 : (Jvm.Cond.methodLink "ProsePagesLaw" (41 : Nat) ({ cls := "ProsePagesModel", name := "end", desc := "()I" } : Jvm.MethodName)) ∈ TT := TT_in 797 (by decide +kernel) (by decide +kernel)
theorem k_749 : (Jvm.Cond.instanceMethod ({ cls := "ProsePagesModel", name := "end", desc := "()I" } : Jvm.MethodName)) ∈ TT := TT_in 798 (by decide +kernel) (by decide +kernel)
theorem k_750 : (Jvm.Cond.selects "ProsePagesModel" ({ cls := "ProsePagesModel", name := "end", desc := "()I" } : Jvm.MethodName) ({ cls := "ProsePagesModel", name := "end", desc := "()I" } : Jvm.MethodName)) ∈ TT := TT_in 799 (by decide +kernel) (by decide +kernel)
theorem k_752 : (Jvm.Cond.methodLink "ProsePagesLaw" (45 : Nat) ({ cls := "ProsePagesModel", name := "say", desc := "(IIIII)I" } : Jvm.MethodName)) ∈ TT := TT_in 801 (by decide +kernel) (by decide +kernel)
theorem k_753 : (Jvm.Cond.instanceMethod ({ cls := "ProsePagesModel", name := "say", desc := "(IIIII)I" } : Jvm.MethodName)) ∈ TT := TT_in 802 (by decide +kernel) (by decide +kernel)
theorem k_754 : (Jvm.Cond.selects "ProsePagesModel" ({ cls := "ProsePagesModel", name := "say", desc := "(IIIII)I" } : Jvm.MethodName) ({ cls := "ProsePagesModel", name := "say", desc := "(IIIII)I" } : Jvm.MethodName)) ∈ TT := TT_in 803 (by decide +kernel) (by decide +kernel)
theorem k_756 : (Jvm.Cond.methodLink "ProsePagesLaw" (49 : Nat) ({ cls := "ProsePagesModel", name := "clear", desc := "()V" } : Jvm.MethodName)) ∈ TT := TT_in 805 (by decide +kernel) (by decide +kernel)
theorem k_757 : (Jvm.Cond.instanceMethod ({ cls := "ProsePagesModel", name := "clear", desc := "()V" } : Jvm.MethodName)) ∈ TT := TT_in 806 (by decide +kernel) (by decide +kernel)
theorem k_758 : (Jvm.Cond.selects "ProsePagesModel" ({ cls := "ProsePagesModel", name := "clear", desc := "()V" } : Jvm.MethodName) ({ cls := "ProsePagesModel", name := "clear", desc := "()V" } : Jvm.MethodName)) ∈ TT := TT_in 807 (by decide +kernel) (by decide +kernel)
theorem k_760 : (Jvm.Cond.methodLink "ProsePagesLaw" (52 : Nat) ({ cls := "ProsePagesModel", name := "pages", desc := "(II)I" } : Jvm.MethodName)) ∈ TT := TT_in 809 (by decide +kernel) (by decide +kernel)
theorem k_761 : (Jvm.Cond.instanceMethod ({ cls := "ProsePagesModel", name := "pages", desc := "(II)I" } : Jvm.MethodName)) ∈ TT := TT_in 810 (by decide +kernel) (by decide +kernel)
theorem k_762 : (Jvm.Cond.selects "ProsePagesModel" ({ cls := "ProsePagesModel", name := "pages", desc := "(II)I" } : Jvm.MethodName) ({ cls := "ProsePagesModel", name := "pages", desc := "(II)I" } : Jvm.MethodName)) ∈ TT := TT_in 811 (by decide +kernel) (by decide +kernel)
theorem k_843 : (Jvm.Cond.methodLink "ProsePagesLaw" (57 : Nat) ({ cls := "ProsePagesModel", name := "cell", desc := "(III)I" } : Jvm.MethodName)) ∈ TT := TT_in 892 (by decide +kernel) (by decide +kernel)
theorem k_844 : (Jvm.Cond.instanceMethod ({ cls := "ProsePagesModel", name := "cell", desc := "(III)I" } : Jvm.MethodName)) ∈ TT := TT_in 893 (by decide +kernel) (by decide +kernel)
theorem k_845 : (Jvm.Cond.selects "ProsePagesModel" ({ cls := "ProsePagesModel", name := "cell", desc := "(III)I" } : Jvm.MethodName) ({ cls := "ProsePagesModel", name := "cell", desc := "(III)I" } : Jvm.MethodName)) ∈ TT := TT_in 894 (by decide +kernel) (by decide +kernel)
theorem k_847 : (Jvm.Cond.methodLink "ProsePagesLaw" (61 : Nat) ({ cls := "ProsePagesModel", name := "page", desc := "(II)I" } : Jvm.MethodName)) ∈ TT := TT_in 896 (by decide +kernel) (by decide +kernel)
theorem k_848 : (Jvm.Cond.instanceMethod ({ cls := "ProsePagesModel", name := "page", desc := "(II)I" } : Jvm.MethodName)) ∈ TT := TT_in 897 (by decide +kernel) (by decide +kernel)
theorem k_849 : (Jvm.Cond.selects "ProsePagesModel" ({ cls := "ProsePagesModel", name := "page", desc := "(II)I" } : Jvm.MethodName) ({ cls := "ProsePagesModel", name := "page", desc := "(II)I" } : Jvm.MethodName)) ∈ TT := TT_in 898 (by decide +kernel) (by decide +kernel)
theorem k_851 : (Jvm.Cond.methodLink "ProsePagesLaw" (65 : Nat) ({ cls := "ProsePagesModel", name := "line", desc := "(II)I" } : Jvm.MethodName)) ∈ TT := TT_in 900 (by decide +kernel) (by decide +kernel)
theorem k_852 : (Jvm.Cond.instanceMethod ({ cls := "ProsePagesModel", name := "line", desc := "(II)I" } : Jvm.MethodName)) ∈ TT := TT_in 901 (by decide +kernel) (by decide +kernel)
theorem k_853 : (Jvm.Cond.selects "ProsePagesModel" ({ cls := "ProsePagesModel", name := "line", desc := "(II)I" } : Jvm.MethodName) ({ cls := "ProsePagesModel", name := "line", desc := "(II)I" } : Jvm.MethodName)) ∈ TT := TT_in 902 (by decide +kernel) (by decide +kernel)
theorem k_855 : (Jvm.Cond.methodLink "ProsePagesLaw" (70 : Nat) ({ cls := "ProsePagesModel", name := "find", desc := "(I)I" } : Jvm.MethodName)) ∈ TT := TT_in 904 (by decide +kernel) (by decide +kernel)
theorem k_856 : (Jvm.Cond.instanceMethod ({ cls := "ProsePagesModel", name := "find", desc := "(I)I" } : Jvm.MethodName)) ∈ TT := TT_in 905 (by decide +kernel) (by decide +kernel)
theorem k_857 : (Jvm.Cond.selects "ProsePagesModel" ({ cls := "ProsePagesModel", name := "find", desc := "(I)I" } : Jvm.MethodName) ({ cls := "ProsePagesModel", name := "find", desc := "(I)I" } : Jvm.MethodName)) ∈ TT := TT_in 906 (by decide +kernel) (by decide +kernel)
theorem k_859 : (Jvm.Cond.methodLink "ProsePagesLaw" (74 : Nat) ({ cls := "ProsePagesModel", name := "node", desc := "(II)I" } : Jvm.MethodName)) ∈ TT := TT_in 908 (by decide +kernel) (by decide +kernel)
theorem k_860 : (Jvm.Cond.instanceMethod ({ cls := "ProsePagesModel", name := "node", desc := "(II)I" } : Jvm.MethodName)) ∈ TT := TT_in 909 (by decide +kernel) (by decide +kernel)
theorem k_861 : (Jvm.Cond.selects "ProsePagesModel" ({ cls := "ProsePagesModel", name := "node", desc := "(II)I" } : Jvm.MethodName) ({ cls := "ProsePagesModel", name := "node", desc := "(II)I" } : Jvm.MethodName)) ∈ TT := TT_in 910 (by decide +kernel) (by decide +kernel)
theorem k_863 : (Jvm.Cond.methodLink "ProsePagesLaw" (78 : Nat) ({ cls := "ProsePagesModel", name := "about", desc := "(I)I" } : Jvm.MethodName)) ∈ TT := TT_in 912 (by decide +kernel) (by decide +kernel)
theorem k_864 : (Jvm.Cond.instanceMethod ({ cls := "ProsePagesModel", name := "about", desc := "(I)I" } : Jvm.MethodName)) ∈ TT := TT_in 913 (by decide +kernel) (by decide +kernel)
theorem k_865 : (Jvm.Cond.selects "ProsePagesModel" ({ cls := "ProsePagesModel", name := "about", desc := "(I)I" } : Jvm.MethodName) ({ cls := "ProsePagesModel", name := "about", desc := "(I)I" } : Jvm.MethodName)) ∈ TT := TT_in 914 (by decide +kernel) (by decide +kernel)
theorem k_867 : (Jvm.Cond.arrayClass Jvm.ClassFile.FieldType.long) ∈ TT := TT_in 916 (by decide +kernel) (by decide +kernel)
theorem q_P_init : KQd y_P_init 0 := by decide +kernel
theorem q_P_about : KQd y_P_about 1 := by decide +kernel
theorem q_P_begin : KQd y_P_begin 2 := by decide +kernel
theorem q_P_cell : KQd y_P_cell 3 := by decide +kernel
theorem q_P_clear : KQd y_P_clear 0 := by decide +kernel
theorem q_P_end : KQd y_P_end 0 := by decide +kernel
theorem q_P_find : KQd y_P_find 1 := by decide +kernel
theorem q_P_line : KQd y_P_line 2 := by decide +kernel
theorem q_P_node : KQd y_P_node 2 := by decide +kernel
theorem q_P_page : KQd y_P_page 2 := by decide +kernel
theorem q_P_pages : KQd y_P_pages 2 := by decide +kernel
theorem q_P_say : KQd y_P_say 5 := by decide +kernel
theorem q_L_begin : KQd y_L_begin 4 := by decide +kernel
theorem q_L_pages : KQd y_L_pages 4 := by decide +kernel
theorem q_L_say : KQd y_L_say 7 := by decide +kernel
theorem q_M_init : KQd y_M_init 0 := by decide +kernel
theorem q_M_about : KQd y_M_about 1 := by decide +kernel
theorem q_M_begin : KQd y_M_begin 2 := by decide +kernel
theorem q_M_cell : KQd y_M_cell 3 := by decide +kernel
theorem q_M_clear : KQd y_M_clear 0 := by decide +kernel
theorem q_M_end : KQd y_M_end 0 := by decide +kernel
theorem q_M_find : KQd y_M_find 1 := by decide +kernel
theorem q_M_line : KQd y_M_line 2 := by decide +kernel
theorem q_M_node : KQd y_M_node 2 := by decide +kernel
theorem q_M_page : KQd y_M_page 2 := by decide +kernel
theorem q_M_pages : KQd y_M_pages 2 := by decide +kernel
theorem q_M_say : KQd y_M_say 5 := by decide +kernel
theorem q_M_thrown : KQd y_M_thrown 0 := by decide +kernel
