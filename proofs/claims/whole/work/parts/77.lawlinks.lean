/-! the law: words, links, decode rows -/
set_option maxRecDepth 100000 in
theorem nb_440 : (Jvm.Cond.castable "java/lang/IllegalStateException" "java/lang/IllegalStateException") ∈ ex_NB := nb_at 493 (by exact rfl) (by exact rfl)
set_option maxRecDepth 100000 in
theorem nb_535 : (Jvm.Cond.castable "java/lang/IndexOutOfBoundsException" "java/lang/IndexOutOfBoundsException") ∈ ex_NB := nb_at 588 (by exact rfl) (by exact rfl)
set_option maxRecDepth 100000 in
theorem nb_552 : (Jvm.Cond.castable "java/lang/IllegalArgumentException" "java/lang/IllegalArgumentException") ∈ ex_NB := nb_at 605 (by exact rfl) (by exact rfl)
set_option maxRecDepth 100000 in
theorem tb_0 : (Jvm.Cond.initialized "BondOfficeLaw") ∈ ex_TB := tb_at 53 (by exact rfl) (by exact rfl)
set_option maxRecDepth 100000 in
theorem tb_34 : (Jvm.Cond.classLink "BondOfficeLaw" (8 : Nat) "BondOffice") ∈ ex_TB := tb_at 87 (by exact rfl) (by exact rfl)
set_option maxRecDepth 100000 in
theorem tb_35 : (Jvm.Cond.instantiable "BondOffice" (12 : Nat)) ∈ ex_TB := tb_at 88 (by exact rfl) (by exact rfl)
set_option maxRecDepth 100000 in
theorem tb_36 : (Jvm.Cond.methodLink "BondOfficeLaw" (61 : Nat) ({ cls := "BondOffice", name := "<init>", desc := "()V" } : Jvm.MethodName)) ∈ ex_TB := tb_at 89 (by exact rfl) (by exact rfl)
set_option maxRecDepth 100000 in
theorem tb_37 : (Jvm.Cond.instanceMethod ({ cls := "BondOffice", name := "<init>", desc := "()V" } : Jvm.MethodName)) ∈ ex_TB := tb_at 90 (by exact rfl) (by exact rfl)
set_option maxRecDepth 100000 in
theorem tb_38 : (Jvm.Cond.code ({ cls := "BondOffice", name := "<init>", desc := "()V" } : Jvm.MethodName) prog_1_method_1_code (1 : Nat) (Option.none : Option Jvm.ClassFile.FieldType)) ∈ ex_TB := tb_at 91 (by exact rfl) (by exact rfl)
set_option maxRecDepth 100000 in
theorem tb_127 : (Jvm.Cond.methodLink "BondOfficeLaw" (89 : Nat) ({ cls := "BondOffice", name := "held", desc := "(II)I" } : Jvm.MethodName)) ∈ ex_TB := tb_at 180 (by exact rfl) (by exact rfl)
set_option maxRecDepth 100000 in
theorem tb_128 : (Jvm.Cond.instanceMethod ({ cls := "BondOffice", name := "held", desc := "(II)I" } : Jvm.MethodName)) ∈ ex_TB := tb_at 181 (by exact rfl) (by exact rfl)
set_option maxRecDepth 100000 in
theorem tb_129 : (Jvm.Cond.selects "BondOffice" ({ cls := "BondOffice", name := "held", desc := "(II)I" } : Jvm.MethodName) ({ cls := "BondOffice", name := "held", desc := "(II)I" } : Jvm.MethodName)) ∈ ex_TB := tb_at 182 (by exact rfl) (by exact rfl)
set_option maxRecDepth 100000 in
theorem tb_130 : (Jvm.Cond.code ({ cls := "BondOffice", name := "held", desc := "(II)I" } : Jvm.MethodName) prog_1_method_7_code (3 : Nat) (Option.some Jvm.ClassFile.FieldType.int)) ∈ ex_TB := tb_at 183 (by exact rfl) (by exact rfl)
set_option maxRecDepth 100000 in
theorem tb_162 : (Jvm.Cond.methodLink "BondOfficeLaw" (103 : Nat) ({ cls := "BondOffice", name := "feed", desc := "(IIIII)I" } : Jvm.MethodName)) ∈ ex_TB := tb_at 215 (by exact rfl) (by exact rfl)
set_option maxRecDepth 100000 in
theorem tb_163 : (Jvm.Cond.instanceMethod ({ cls := "BondOffice", name := "feed", desc := "(IIIII)I" } : Jvm.MethodName)) ∈ ex_TB := tb_at 216 (by exact rfl) (by exact rfl)
set_option maxRecDepth 100000 in
theorem tb_164 : (Jvm.Cond.selects "BondOffice" ({ cls := "BondOffice", name := "feed", desc := "(IIIII)I" } : Jvm.MethodName) ({ cls := "BondOffice", name := "feed", desc := "(IIIII)I" } : Jvm.MethodName)) ∈ ex_TB := tb_at 217 (by exact rfl) (by exact rfl)
set_option maxRecDepth 100000 in
theorem tb_165 : (Jvm.Cond.code ({ cls := "BondOffice", name := "feed", desc := "(IIIII)I" } : Jvm.MethodName) prog_1_method_11_code (6 : Nat) (Option.some Jvm.ClassFile.FieldType.int)) ∈ ex_TB := tb_at 218 (by exact rfl) (by exact rfl)
set_option maxRecDepth 100000 in
theorem tb_170 : (Jvm.Cond.methodLink "BondOfficeLaw" (111 : Nat) ({ cls := "BondOffice", name := "fault", desc := "()I" } : Jvm.MethodName)) ∈ ex_TB := tb_at 223 (by exact rfl) (by exact rfl)
set_option maxRecDepth 100000 in
theorem tb_171 : (Jvm.Cond.instanceMethod ({ cls := "BondOffice", name := "fault", desc := "()I" } : Jvm.MethodName)) ∈ ex_TB := tb_at 224 (by exact rfl) (by exact rfl)
set_option maxRecDepth 100000 in
theorem tb_172 : (Jvm.Cond.selects "BondOffice" ({ cls := "BondOffice", name := "fault", desc := "()I" } : Jvm.MethodName) ({ cls := "BondOffice", name := "fault", desc := "()I" } : Jvm.MethodName)) ∈ ex_TB := tb_at 225 (by exact rfl) (by exact rfl)
set_option maxRecDepth 100000 in
theorem tb_173 : (Jvm.Cond.code ({ cls := "BondOffice", name := "fault", desc := "()I" } : Jvm.MethodName) prog_1_method_13_code (1 : Nat) (Option.some Jvm.ClassFile.FieldType.int)) ∈ ex_TB := tb_at 226 (by exact rfl) (by exact rfl)
set_option maxRecDepth 100000 in
theorem tb_174 : (Jvm.Cond.methodLink "BondOfficeLaw" (115 : Nat) ({ cls := "BondOffice", name := "force", desc := "(I)I" } : Jvm.MethodName)) ∈ ex_TB := tb_at 227 (by exact rfl) (by exact rfl)
set_option maxRecDepth 100000 in
theorem tb_181 : (Jvm.Cond.methodLink "BondOfficeLaw" (119 : Nat) ({ cls := "BondOffice", name := "noise", desc := "(I)I" } : Jvm.MethodName)) ∈ ex_TB := tb_at 234 (by exact rfl) (by exact rfl)
set_option maxRecDepth 100000 in
theorem tb_182 : (Jvm.Cond.instanceMethod ({ cls := "BondOffice", name := "noise", desc := "(I)I" } : Jvm.MethodName)) ∈ ex_TB := tb_at 235 (by exact rfl) (by exact rfl)
set_option maxRecDepth 100000 in
theorem tb_183 : (Jvm.Cond.selects "BondOffice" ({ cls := "BondOffice", name := "noise", desc := "(I)I" } : Jvm.MethodName) ({ cls := "BondOffice", name := "noise", desc := "(I)I" } : Jvm.MethodName)) ∈ ex_TB := tb_at 236 (by exact rfl) (by exact rfl)
set_option maxRecDepth 100000 in
theorem tb_184 : (Jvm.Cond.code ({ cls := "BondOffice", name := "noise", desc := "(I)I" } : Jvm.MethodName) prog_1_method_15_code (2 : Nat) (Option.some Jvm.ClassFile.FieldType.int)) ∈ ex_TB := tb_at 237 (by exact rfl) (by exact rfl)
set_option maxRecDepth 100000 in
theorem tb_185 : (Jvm.Cond.methodLink "BondOfficeLaw" (123 : Nat) ({ cls := "BondOffice", name := "draw", desc := "()I" } : Jvm.MethodName)) ∈ ex_TB := tb_at 238 (by exact rfl) (by exact rfl)
set_option maxRecDepth 100000 in
theorem tb_186 : (Jvm.Cond.instanceMethod ({ cls := "BondOffice", name := "draw", desc := "()I" } : Jvm.MethodName)) ∈ ex_TB := tb_at 239 (by exact rfl) (by exact rfl)
set_option maxRecDepth 100000 in
theorem tb_187 : (Jvm.Cond.selects "BondOffice" ({ cls := "BondOffice", name := "draw", desc := "()I" } : Jvm.MethodName) ({ cls := "BondOffice", name := "draw", desc := "()I" } : Jvm.MethodName)) ∈ ex_TB := tb_at 240 (by exact rfl) (by exact rfl)
set_option maxRecDepth 100000 in
theorem tb_188 : (Jvm.Cond.code ({ cls := "BondOffice", name := "draw", desc := "()I" } : Jvm.MethodName) prog_1_method_16_code (6 : Nat) (Option.some Jvm.ClassFile.FieldType.int)) ∈ ex_TB := tb_at 241 (by exact rfl) (by exact rfl)
set_option maxRecDepth 100000 in
theorem tb_418 : (Jvm.Cond.methodLink "BondOfficeLaw" (139 : Nat) ({ cls := "BondOffice", name := "carried", desc := "()J" } : Jvm.MethodName)) ∈ ex_TB := tb_at 471 (by exact rfl) (by exact rfl)
set_option maxRecDepth 100000 in
theorem tb_419 : (Jvm.Cond.instanceMethod ({ cls := "BondOffice", name := "carried", desc := "()J" } : Jvm.MethodName)) ∈ ex_TB := tb_at 472 (by exact rfl) (by exact rfl)
set_option maxRecDepth 100000 in
theorem tb_420 : (Jvm.Cond.selects "BondOffice" ({ cls := "BondOffice", name := "carried", desc := "()J" } : Jvm.MethodName) ({ cls := "BondOffice", name := "carried", desc := "()J" } : Jvm.MethodName)) ∈ ex_TB := tb_at 473 (by exact rfl) (by exact rfl)
set_option maxRecDepth 100000 in
theorem tb_421 : (Jvm.Cond.code ({ cls := "BondOffice", name := "carried", desc := "()J" } : Jvm.MethodName) prog_1_method_21_code (1 : Nat) (Option.some Jvm.ClassFile.FieldType.long)) ∈ ex_TB := tb_at 474 (by exact rfl) (by exact rfl)
set_option maxRecDepth 100000 in
theorem tb_422 : (Jvm.Cond.methodLink "BondOfficeLaw" (144 : Nat) ({ cls := "BondOffice", name := "count", desc := "(I)I" } : Jvm.MethodName)) ∈ ex_TB := tb_at 475 (by exact rfl) (by exact rfl)
set_option maxRecDepth 100000 in
theorem tb_423 : (Jvm.Cond.instanceMethod ({ cls := "BondOffice", name := "count", desc := "(I)I" } : Jvm.MethodName)) ∈ ex_TB := tb_at 476 (by exact rfl) (by exact rfl)
set_option maxRecDepth 100000 in
theorem tb_424 : (Jvm.Cond.selects "BondOffice" ({ cls := "BondOffice", name := "count", desc := "(I)I" } : Jvm.MethodName) ({ cls := "BondOffice", name := "count", desc := "(I)I" } : Jvm.MethodName)) ∈ ex_TB := tb_at 477 (by exact rfl) (by exact rfl)
set_option maxRecDepth 100000 in
theorem tb_425 : (Jvm.Cond.code ({ cls := "BondOffice", name := "count", desc := "(I)I" } : Jvm.MethodName) prog_1_method_22_code (2 : Nat) (Option.some Jvm.ClassFile.FieldType.int)) ∈ ex_TB := tb_at 478 (by exact rfl) (by exact rfl)
set_option maxRecDepth 100000 in
theorem tb_430 : (Jvm.Cond.methodLink "BondOfficeLaw" (65 : Nat) ({ cls := "BondOfficeLaw", name := "holder", desc := "(LBondOffice;[J)I" } : Jvm.MethodName)) ∈ ex_TB := tb_at 483 (by exact rfl) (by exact rfl)
set_option maxRecDepth 100000 in
theorem tb_431 : (Jvm.Cond.static ({ cls := "BondOfficeLaw", name := "holder", desc := "(LBondOffice;[J)I" } : Jvm.MethodName)) ∈ ex_TB := tb_at 484 (by exact rfl) (by exact rfl)
set_option maxRecDepth 100000 in
theorem tb_432 : (Jvm.Cond.codeWith ({ cls := "BondOfficeLaw", name := "holder", desc := "(LBondOffice;[J)I" } : Jvm.MethodName) method_3_code (3 : Nat) (Option.some Jvm.ClassFile.FieldType.int) [((0 : Nat), (8 : Nat), (11 : Nat), (13 : Nat))]) ∈ ex_TB := tb_at 485 (by exact rfl) (by exact rfl)
set_option maxRecDepth 100000 in
theorem tb_433 : (Jvm.Cond.classLink "BondOfficeLaw" (13 : Nat) "java/lang/IllegalStateException") ∈ ex_TB := tb_at 486 (by exact rfl) (by exact rfl)
set_option maxRecDepth 100000 in
theorem tb_434 : (Jvm.Cond.methodLink "BondOfficeLaw" (7 : Nat) ({ cls := "BondOffice", name := "holder", desc := "()I" } : Jvm.MethodName)) ∈ ex_TB := tb_at 487 (by exact rfl) (by exact rfl)
set_option maxRecDepth 100000 in
theorem tb_435 : (Jvm.Cond.instanceMethod ({ cls := "BondOffice", name := "holder", desc := "()I" } : Jvm.MethodName)) ∈ ex_TB := tb_at 488 (by exact rfl) (by exact rfl)
set_option maxRecDepth 100000 in
theorem tb_436 : (Jvm.Cond.selects "BondOffice" ({ cls := "BondOffice", name := "holder", desc := "()I" } : Jvm.MethodName) ({ cls := "BondOffice", name := "holder", desc := "()I" } : Jvm.MethodName)) ∈ ex_TB := tb_at 489 (by exact rfl) (by exact rfl)
set_option maxRecDepth 100000 in
theorem tb_437 : (Jvm.Cond.code ({ cls := "BondOffice", name := "holder", desc := "()I" } : Jvm.MethodName) prog_1_method_2_code (1 : Nat) (Option.some Jvm.ClassFile.FieldType.int)) ∈ ex_TB := tb_at 490 (by exact rfl) (by exact rfl)
set_option maxRecDepth 100000 in
theorem tb_520 : (Jvm.Cond.methodLink "BondOfficeLaw" (74 : Nat) ({ cls := "BondOfficeLaw", name := "buy", desc := "(LBondOffice;II[J)I" } : Jvm.MethodName)) ∈ ex_TB := tb_at 573 (by exact rfl) (by exact rfl)
set_option maxRecDepth 100000 in
theorem tb_521 : (Jvm.Cond.static ({ cls := "BondOfficeLaw", name := "buy", desc := "(LBondOffice;II[J)I" } : Jvm.MethodName)) ∈ ex_TB := tb_at 574 (by exact rfl) (by exact rfl)
set_option maxRecDepth 100000 in
theorem tb_522 : (Jvm.Cond.codeWith ({ cls := "BondOfficeLaw", name := "buy", desc := "(LBondOffice;II[J)I" } : Jvm.MethodName) method_4_code (5 : Nat) (Option.some Jvm.ClassFile.FieldType.int) [((0 : Nat), (10 : Nat), (13 : Nat), (19 : Nat)), ((0 : Nat), (10 : Nat), (17 : Nat), (21 : Nat)), ((0 : Nat), (10 : Nat), (21 : Nat), (13 : Nat))]) ∈ ex_TB := tb_at 575 (by exact rfl) (by exact rfl)
set_option maxRecDepth 100000 in
theorem tb_523 : (Jvm.Cond.classLink "BondOfficeLaw" (19 : Nat) "java/lang/IndexOutOfBoundsException") ∈ ex_TB := tb_at 576 (by exact rfl) (by exact rfl)
set_option maxRecDepth 100000 in
theorem tb_524 : (Jvm.Cond.classLink "BondOfficeLaw" (21 : Nat) "java/lang/IllegalArgumentException") ∈ ex_TB := tb_at 577 (by exact rfl) (by exact rfl)
set_option maxRecDepth 100000 in
theorem tb_525 : (Jvm.Cond.methodLink "BondOfficeLaw" (15 : Nat) ({ cls := "BondOffice", name := "buy", desc := "(II)I" } : Jvm.MethodName)) ∈ ex_TB := tb_at 578 (by exact rfl) (by exact rfl)
set_option maxRecDepth 100000 in
theorem tb_526 : (Jvm.Cond.instanceMethod ({ cls := "BondOffice", name := "buy", desc := "(II)I" } : Jvm.MethodName)) ∈ ex_TB := tb_at 579 (by exact rfl) (by exact rfl)
set_option maxRecDepth 100000 in
theorem tb_527 : (Jvm.Cond.selects "BondOffice" ({ cls := "BondOffice", name := "buy", desc := "(II)I" } : Jvm.MethodName) ({ cls := "BondOffice", name := "buy", desc := "(II)I" } : Jvm.MethodName)) ∈ ex_TB := tb_at 580 (by exact rfl) (by exact rfl)
set_option maxRecDepth 100000 in
theorem tb_528 : (Jvm.Cond.code ({ cls := "BondOffice", name := "buy", desc := "(II)I" } : Jvm.MethodName) prog_1_method_3_code (3 : Nat) (Option.some Jvm.ClassFile.FieldType.int)) ∈ ex_TB := tb_at 581 (by exact rfl) (by exact rfl)
set_option maxRecDepth 100000 in
theorem tb_607 : (Jvm.Cond.methodLink "BondOfficeLaw" (78 : Nat) ({ cls := "BondOfficeLaw", name := "give", desc := "(LBondOffice;IIII[J)I" } : Jvm.MethodName)) ∈ ex_TB := tb_at 660 (by exact rfl) (by exact rfl)
set_option maxRecDepth 100000 in
theorem tb_608 : (Jvm.Cond.static ({ cls := "BondOfficeLaw", name := "give", desc := "(LBondOffice;IIII[J)I" } : Jvm.MethodName)) ∈ ex_TB := tb_at 661 (by exact rfl) (by exact rfl)
set_option maxRecDepth 100000 in
theorem tb_609 : (Jvm.Cond.codeWith ({ cls := "BondOfficeLaw", name := "give", desc := "(LBondOffice;IIII[J)I" } : Jvm.MethodName) method_5_code (7 : Nat) (Option.some Jvm.ClassFile.FieldType.int) [((0 : Nat), (14 : Nat), (17 : Nat), (19 : Nat)), ((0 : Nat), (14 : Nat), (21 : Nat), (21 : Nat)), ((0 : Nat), (14 : Nat), (25 : Nat), (13 : Nat))]) ∈ ex_TB := tb_at 662 (by exact rfl) (by exact rfl)
set_option maxRecDepth 100000 in
theorem tb_610 : (Jvm.Cond.methodLink "BondOfficeLaw" (23 : Nat) ({ cls := "BondOffice", name := "give", desc := "(IIII)I" } : Jvm.MethodName)) ∈ ex_TB := tb_at 663 (by exact rfl) (by exact rfl)
set_option maxRecDepth 100000 in
theorem tb_611 : (Jvm.Cond.instanceMethod ({ cls := "BondOffice", name := "give", desc := "(IIII)I" } : Jvm.MethodName)) ∈ ex_TB := tb_at 664 (by exact rfl) (by exact rfl)
set_option maxRecDepth 100000 in
theorem tb_612 : (Jvm.Cond.selects "BondOffice" ({ cls := "BondOffice", name := "give", desc := "(IIII)I" } : Jvm.MethodName) ({ cls := "BondOffice", name := "give", desc := "(IIII)I" } : Jvm.MethodName)) ∈ ex_TB := tb_at 665 (by exact rfl) (by exact rfl)
set_option maxRecDepth 100000 in
theorem tb_613 : (Jvm.Cond.code ({ cls := "BondOffice", name := "give", desc := "(IIII)I" } : Jvm.MethodName) prog_1_method_4_code (5 : Nat) (Option.some Jvm.ClassFile.FieldType.int)) ∈ ex_TB := tb_at 666 (by exact rfl) (by exact rfl)
set_option maxRecDepth 100000 in
theorem tb_909 : (Jvm.Cond.methodLink "BondOfficeLaw" (82 : Nat) ({ cls := "BondOfficeLaw", name := "cash", desc := "(LBondOffice;III[J)I" } : Jvm.MethodName)) ∈ ex_TB := tb_at 962 (by exact rfl) (by exact rfl)
set_option maxRecDepth 100000 in
theorem tb_910 : (Jvm.Cond.static ({ cls := "BondOfficeLaw", name := "cash", desc := "(LBondOffice;III[J)I" } : Jvm.MethodName)) ∈ ex_TB := tb_at 963 (by exact rfl) (by exact rfl)
set_option maxRecDepth 100000 in
theorem tb_911 : (Jvm.Cond.codeWith ({ cls := "BondOfficeLaw", name := "cash", desc := "(LBondOffice;III[J)I" } : Jvm.MethodName) method_6_code (6 : Nat) (Option.some Jvm.ClassFile.FieldType.int) [((0 : Nat), (12 : Nat), (15 : Nat), (19 : Nat)), ((0 : Nat), (12 : Nat), (19 : Nat), (13 : Nat))]) ∈ ex_TB := tb_at 964 (by exact rfl) (by exact rfl)
set_option maxRecDepth 100000 in
theorem tb_912 : (Jvm.Cond.methodLink "BondOfficeLaw" (27 : Nat) ({ cls := "BondOffice", name := "cash", desc := "(III)I" } : Jvm.MethodName)) ∈ ex_TB := tb_at 965 (by exact rfl) (by exact rfl)
set_option maxRecDepth 100000 in
theorem tb_913 : (Jvm.Cond.instanceMethod ({ cls := "BondOffice", name := "cash", desc := "(III)I" } : Jvm.MethodName)) ∈ ex_TB := tb_at 966 (by exact rfl) (by exact rfl)
set_option maxRecDepth 100000 in
theorem tb_914 : (Jvm.Cond.selects "BondOffice" ({ cls := "BondOffice", name := "cash", desc := "(III)I" } : Jvm.MethodName) ({ cls := "BondOffice", name := "cash", desc := "(III)I" } : Jvm.MethodName)) ∈ ex_TB := tb_at 967 (by exact rfl) (by exact rfl)
set_option maxRecDepth 100000 in
theorem tb_915 : (Jvm.Cond.code ({ cls := "BondOffice", name := "cash", desc := "(III)I" } : Jvm.MethodName) prog_1_method_5_code (5 : Nat) (Option.some Jvm.ClassFile.FieldType.int)) ∈ ex_TB := tb_at 968 (by exact rfl) (by exact rfl)
set_option maxRecDepth 100000 in
theorem tb_916 : (Jvm.Cond.methodLink "BondOfficeLaw" (86 : Nat) ({ cls := "BondOfficeLaw", name := "died", desc := "(LBondOffice;II[J)I" } : Jvm.MethodName)) ∈ ex_TB := tb_at 969 (by exact rfl) (by exact rfl)
set_option maxRecDepth 100000 in
theorem tb_917 : (Jvm.Cond.static ({ cls := "BondOfficeLaw", name := "died", desc := "(LBondOffice;II[J)I" } : Jvm.MethodName)) ∈ ex_TB := tb_at 970 (by exact rfl) (by exact rfl)
set_option maxRecDepth 100000 in
theorem tb_918 : (Jvm.Cond.codeWith ({ cls := "BondOfficeLaw", name := "died", desc := "(LBondOffice;II[J)I" } : Jvm.MethodName) method_7_code (5 : Nat) (Option.some Jvm.ClassFile.FieldType.int) [((0 : Nat), (10 : Nat), (13 : Nat), (19 : Nat)), ((0 : Nat), (10 : Nat), (17 : Nat), (21 : Nat)), ((0 : Nat), (10 : Nat), (21 : Nat), (13 : Nat))]) ∈ ex_TB := tb_at 971 (by exact rfl) (by exact rfl)
set_option maxRecDepth 100000 in
theorem tb_919 : (Jvm.Cond.methodLink "BondOfficeLaw" (31 : Nat) ({ cls := "BondOffice", name := "died", desc := "(II)I" } : Jvm.MethodName)) ∈ ex_TB := tb_at 972 (by exact rfl) (by exact rfl)
set_option maxRecDepth 100000 in
theorem tb_920 : (Jvm.Cond.instanceMethod ({ cls := "BondOffice", name := "died", desc := "(II)I" } : Jvm.MethodName)) ∈ ex_TB := tb_at 973 (by exact rfl) (by exact rfl)
set_option maxRecDepth 100000 in
theorem tb_921 : (Jvm.Cond.selects "BondOffice" ({ cls := "BondOffice", name := "died", desc := "(II)I" } : Jvm.MethodName) ({ cls := "BondOffice", name := "died", desc := "(II)I" } : Jvm.MethodName)) ∈ ex_TB := tb_at 974 (by exact rfl) (by exact rfl)
set_option maxRecDepth 100000 in
theorem tb_922 : (Jvm.Cond.code ({ cls := "BondOffice", name := "died", desc := "(II)I" } : Jvm.MethodName) prog_1_method_6_code (6 : Nat) (Option.some Jvm.ClassFile.FieldType.int)) ∈ ex_TB := tb_at 975 (by exact rfl) (by exact rfl)
set_option maxRecDepth 100000 in
theorem tb_927 : (Jvm.Cond.methodLink "BondOfficeLaw" (93 : Nat) ({ cls := "BondOfficeLaw", name := "has", desc := "(LBondOffice;I[J)I" } : Jvm.MethodName)) ∈ ex_TB := tb_at 980 (by exact rfl) (by exact rfl)
set_option maxRecDepth 100000 in
theorem tb_928 : (Jvm.Cond.static ({ cls := "BondOfficeLaw", name := "has", desc := "(LBondOffice;I[J)I" } : Jvm.MethodName)) ∈ ex_TB := tb_at 981 (by exact rfl) (by exact rfl)
set_option maxRecDepth 100000 in
theorem tb_929 : (Jvm.Cond.codeWith ({ cls := "BondOfficeLaw", name := "has", desc := "(LBondOffice;I[J)I" } : Jvm.MethodName) method_8_code (4 : Nat) (Option.some Jvm.ClassFile.FieldType.int) [((0 : Nat), (9 : Nat), (12 : Nat), (19 : Nat))]) ∈ ex_TB := tb_at 982 (by exact rfl) (by exact rfl)
set_option maxRecDepth 100000 in
theorem tb_930 : (Jvm.Cond.methodLink "BondOfficeLaw" (34 : Nat) ({ cls := "BondOffice", name := "has", desc := "(I)I" } : Jvm.MethodName)) ∈ ex_TB := tb_at 983 (by exact rfl) (by exact rfl)
set_option maxRecDepth 100000 in
theorem tb_931 : (Jvm.Cond.instanceMethod ({ cls := "BondOffice", name := "has", desc := "(I)I" } : Jvm.MethodName)) ∈ ex_TB := tb_at 984 (by exact rfl) (by exact rfl)
set_option maxRecDepth 100000 in
theorem tb_932 : (Jvm.Cond.selects "BondOffice" ({ cls := "BondOffice", name := "has", desc := "(I)I" } : Jvm.MethodName) ({ cls := "BondOffice", name := "has", desc := "(I)I" } : Jvm.MethodName)) ∈ ex_TB := tb_at 985 (by exact rfl) (by exact rfl)
set_option maxRecDepth 100000 in
theorem tb_933 : (Jvm.Cond.code ({ cls := "BondOffice", name := "has", desc := "(I)I" } : Jvm.MethodName) prog_1_method_8_code (2 : Nat) (Option.some Jvm.ClassFile.FieldType.int)) ∈ ex_TB := tb_at 986 (by exact rfl) (by exact rfl)
set_option maxRecDepth 100000 in
theorem tb_938 : (Jvm.Cond.methodLink "BondOfficeLaw" (97 : Nat) ({ cls := "BondOfficeLaw", name := "line", desc := "(LBondOffice;II[J)I" } : Jvm.MethodName)) ∈ ex_TB := tb_at 991 (by exact rfl) (by exact rfl)
set_option maxRecDepth 100000 in
theorem tb_939 : (Jvm.Cond.static ({ cls := "BondOfficeLaw", name := "line", desc := "(LBondOffice;II[J)I" } : Jvm.MethodName)) ∈ ex_TB := tb_at 992 (by exact rfl) (by exact rfl)
set_option maxRecDepth 100000 in
theorem tb_940 : (Jvm.Cond.codeWith ({ cls := "BondOfficeLaw", name := "line", desc := "(LBondOffice;II[J)I" } : Jvm.MethodName) method_9_code (5 : Nat) (Option.some Jvm.ClassFile.FieldType.int) [((0 : Nat), (10 : Nat), (13 : Nat), (19 : Nat)), ((0 : Nat), (10 : Nat), (17 : Nat), (21 : Nat))]) ∈ ex_TB := tb_at 993 (by exact rfl) (by exact rfl)
set_option maxRecDepth 100000 in
theorem tb_941 : (Jvm.Cond.methodLink "BondOfficeLaw" (38 : Nat) ({ cls := "BondOffice", name := "line", desc := "(II)I" } : Jvm.MethodName)) ∈ ex_TB := tb_at 994 (by exact rfl) (by exact rfl)
set_option maxRecDepth 100000 in
theorem tb_942 : (Jvm.Cond.instanceMethod ({ cls := "BondOffice", name := "line", desc := "(II)I" } : Jvm.MethodName)) ∈ ex_TB := tb_at 995 (by exact rfl) (by exact rfl)
set_option maxRecDepth 100000 in
theorem tb_943 : (Jvm.Cond.selects "BondOffice" ({ cls := "BondOffice", name := "line", desc := "(II)I" } : Jvm.MethodName) ({ cls := "BondOffice", name := "line", desc := "(II)I" } : Jvm.MethodName)) ∈ ex_TB := tb_at 996 (by exact rfl) (by exact rfl)
set_option maxRecDepth 100000 in
theorem tb_944 : (Jvm.Cond.code ({ cls := "BondOffice", name := "line", desc := "(II)I" } : Jvm.MethodName) prog_1_method_9_code (3 : Nat) (Option.some Jvm.ClassFile.FieldType.int)) ∈ ex_TB := tb_at 997 (by exact rfl) (by exact rfl)
set_option maxRecDepth 100000 in
theorem tb_952 : (Jvm.Cond.methodLink "BondOfficeLaw" (100 : Nat) ({ cls := "BondOfficeLaw", name := "wait", desc := "(LBondOffice;I[J)I" } : Jvm.MethodName)) ∈ ex_TB := tb_at 1005 (by exact rfl) (by exact rfl)
set_option maxRecDepth 100000 in
theorem tb_953 : (Jvm.Cond.static ({ cls := "BondOfficeLaw", name := "wait", desc := "(LBondOffice;I[J)I" } : Jvm.MethodName)) ∈ ex_TB := tb_at 1006 (by exact rfl) (by exact rfl)
set_option maxRecDepth 100000 in
theorem tb_954 : (Jvm.Cond.codeWith ({ cls := "BondOfficeLaw", name := "wait", desc := "(LBondOffice;I[J)I" } : Jvm.MethodName) method_10_code (4 : Nat) (Option.some Jvm.ClassFile.FieldType.int) [((0 : Nat), (9 : Nat), (12 : Nat), (21 : Nat))]) ∈ ex_TB := tb_at 1007 (by exact rfl) (by exact rfl)
set_option maxRecDepth 100000 in
theorem tb_955 : (Jvm.Cond.methodLink "BondOfficeLaw" (41 : Nat) ({ cls := "BondOffice", name := "wait", desc := "(I)I" } : Jvm.MethodName)) ∈ ex_TB := tb_at 1008 (by exact rfl) (by exact rfl)
set_option maxRecDepth 100000 in
theorem tb_956 : (Jvm.Cond.instanceMethod ({ cls := "BondOffice", name := "wait", desc := "(I)I" } : Jvm.MethodName)) ∈ ex_TB := tb_at 1009 (by exact rfl) (by exact rfl)
set_option maxRecDepth 100000 in
theorem tb_957 : (Jvm.Cond.selects "BondOffice" ({ cls := "BondOffice", name := "wait", desc := "(I)I" } : Jvm.MethodName) ({ cls := "BondOffice", name := "wait", desc := "(I)I" } : Jvm.MethodName)) ∈ ex_TB := tb_at 1010 (by exact rfl) (by exact rfl)
set_option maxRecDepth 100000 in
theorem tb_958 : (Jvm.Cond.code ({ cls := "BondOffice", name := "wait", desc := "(I)I" } : Jvm.MethodName) prog_1_method_10_code (2 : Nat) (Option.some Jvm.ClassFile.FieldType.int)) ∈ ex_TB := tb_at 1011 (by exact rfl) (by exact rfl)
set_option maxRecDepth 100000 in
theorem tb_961 : (Jvm.Cond.methodLink "BondOfficeLaw" (108 : Nat) ({ cls := "BondOfficeLaw", name := "rule", desc := "(LBondOffice;II[J)I" } : Jvm.MethodName)) ∈ ex_TB := tb_at 1014 (by exact rfl) (by exact rfl)
set_option maxRecDepth 100000 in
theorem tb_962 : (Jvm.Cond.static ({ cls := "BondOfficeLaw", name := "rule", desc := "(LBondOffice;II[J)I" } : Jvm.MethodName)) ∈ ex_TB := tb_at 1015 (by exact rfl) (by exact rfl)
set_option maxRecDepth 100000 in
theorem tb_963 : (Jvm.Cond.codeWith ({ cls := "BondOfficeLaw", name := "rule", desc := "(LBondOffice;II[J)I" } : Jvm.MethodName) method_11_code (5 : Nat) (Option.some Jvm.ClassFile.FieldType.int) [((0 : Nat), (10 : Nat), (13 : Nat), (21 : Nat)), ((0 : Nat), (10 : Nat), (17 : Nat), (13 : Nat))]) ∈ ex_TB := tb_at 1016 (by exact rfl) (by exact rfl)
set_option maxRecDepth 100000 in
theorem tb_964 : (Jvm.Cond.methodLink "BondOfficeLaw" (44 : Nat) ({ cls := "BondOffice", name := "rule", desc := "(II)I" } : Jvm.MethodName)) ∈ ex_TB := tb_at 1017 (by exact rfl) (by exact rfl)
set_option maxRecDepth 100000 in
theorem tb_965 : (Jvm.Cond.instanceMethod ({ cls := "BondOffice", name := "rule", desc := "(II)I" } : Jvm.MethodName)) ∈ ex_TB := tb_at 1018 (by exact rfl) (by exact rfl)
set_option maxRecDepth 100000 in
theorem tb_966 : (Jvm.Cond.selects "BondOffice" ({ cls := "BondOffice", name := "rule", desc := "(II)I" } : Jvm.MethodName) ({ cls := "BondOffice", name := "rule", desc := "(II)I" } : Jvm.MethodName)) ∈ ex_TB := tb_at 1019 (by exact rfl) (by exact rfl)
set_option maxRecDepth 100000 in
theorem tb_967 : (Jvm.Cond.code ({ cls := "BondOffice", name := "rule", desc := "(II)I" } : Jvm.MethodName) prog_1_method_12_code (5 : Nat) (Option.some Jvm.ClassFile.FieldType.int)) ∈ ex_TB := tb_at 1020 (by exact rfl) (by exact rfl)
set_option maxRecDepth 100000 in
theorem tb_1116 : (Jvm.Cond.methodLink "BondOfficeLaw" (127 : Nat) ({ cls := "BondOfficeLaw", name := "drawn", desc := "(LBondOffice;II[J)I" } : Jvm.MethodName)) ∈ ex_TB := tb_at 1169 (by exact rfl) (by exact rfl)
set_option maxRecDepth 100000 in
theorem tb_1117 : (Jvm.Cond.static ({ cls := "BondOfficeLaw", name := "drawn", desc := "(LBondOffice;II[J)I" } : Jvm.MethodName)) ∈ ex_TB := tb_at 1170 (by exact rfl) (by exact rfl)
set_option maxRecDepth 100000 in
theorem tb_1118 : (Jvm.Cond.codeWith ({ cls := "BondOfficeLaw", name := "drawn", desc := "(LBondOffice;II[J)I" } : Jvm.MethodName) method_12_code (5 : Nat) (Option.some Jvm.ClassFile.FieldType.int) [((0 : Nat), (9 : Nat), (12 : Nat), (19 : Nat)), ((0 : Nat), (9 : Nat), (16 : Nat), (21 : Nat))]) ∈ ex_TB := tb_at 1171 (by exact rfl) (by exact rfl)
set_option maxRecDepth 100000 in
theorem tb_1119 : (Jvm.Cond.methodLink "BondOfficeLaw" (47 : Nat) ({ cls := "BondOffice", name := "drawn", desc := "(II)J" } : Jvm.MethodName)) ∈ ex_TB := tb_at 1172 (by exact rfl) (by exact rfl)
set_option maxRecDepth 100000 in
theorem tb_1120 : (Jvm.Cond.instanceMethod ({ cls := "BondOffice", name := "drawn", desc := "(II)J" } : Jvm.MethodName)) ∈ ex_TB := tb_at 1173 (by exact rfl) (by exact rfl)
set_option maxRecDepth 100000 in
theorem tb_1121 : (Jvm.Cond.selects "BondOffice" ({ cls := "BondOffice", name := "drawn", desc := "(II)J" } : Jvm.MethodName) ({ cls := "BondOffice", name := "drawn", desc := "(II)J" } : Jvm.MethodName)) ∈ ex_TB := tb_at 1174 (by exact rfl) (by exact rfl)
set_option maxRecDepth 100000 in
theorem tb_1122 : (Jvm.Cond.code ({ cls := "BondOffice", name := "drawn", desc := "(II)J" } : Jvm.MethodName) prog_1_method_17_code (3 : Nat) (Option.some Jvm.ClassFile.FieldType.long)) ∈ ex_TB := tb_at 1175 (by exact rfl) (by exact rfl)
set_option maxRecDepth 100000 in
theorem tb_1130 : (Jvm.Cond.methodLink "BondOfficeLaw" (130 : Nat) ({ cls := "BondOfficeLaw", name := "win", desc := "(LBondOffice;II[J)I" } : Jvm.MethodName)) ∈ ex_TB := tb_at 1183 (by exact rfl) (by exact rfl)
set_option maxRecDepth 100000 in
theorem tb_1131 : (Jvm.Cond.static ({ cls := "BondOfficeLaw", name := "win", desc := "(LBondOffice;II[J)I" } : Jvm.MethodName)) ∈ ex_TB := tb_at 1184 (by exact rfl) (by exact rfl)
set_option maxRecDepth 100000 in
theorem tb_1132 : (Jvm.Cond.codeWith ({ cls := "BondOfficeLaw", name := "win", desc := "(LBondOffice;II[J)I" } : Jvm.MethodName) method_13_code (5 : Nat) (Option.some Jvm.ClassFile.FieldType.int) [((0 : Nat), (10 : Nat), (13 : Nat), (19 : Nat)), ((0 : Nat), (10 : Nat), (17 : Nat), (21 : Nat))]) ∈ ex_TB := tb_at 1185 (by exact rfl) (by exact rfl)
set_option maxRecDepth 100000 in
theorem tb_1133 : (Jvm.Cond.methodLink "BondOfficeLaw" (51 : Nat) ({ cls := "BondOffice", name := "win", desc := "(II)I" } : Jvm.MethodName)) ∈ ex_TB := tb_at 1186 (by exact rfl) (by exact rfl)
set_option maxRecDepth 100000 in
theorem tb_1134 : (Jvm.Cond.instanceMethod ({ cls := "BondOffice", name := "win", desc := "(II)I" } : Jvm.MethodName)) ∈ ex_TB := tb_at 1187 (by exact rfl) (by exact rfl)
set_option maxRecDepth 100000 in
theorem tb_1135 : (Jvm.Cond.selects "BondOffice" ({ cls := "BondOffice", name := "win", desc := "(II)I" } : Jvm.MethodName) ({ cls := "BondOffice", name := "win", desc := "(II)I" } : Jvm.MethodName)) ∈ ex_TB := tb_at 1188 (by exact rfl) (by exact rfl)
set_option maxRecDepth 100000 in
theorem tb_1136 : (Jvm.Cond.code ({ cls := "BondOffice", name := "win", desc := "(II)I" } : Jvm.MethodName) prog_1_method_18_code (3 : Nat) (Option.some Jvm.ClassFile.FieldType.int)) ∈ ex_TB := tb_at 1189 (by exact rfl) (by exact rfl)
set_option maxRecDepth 100000 in
theorem tb_1147 : (Jvm.Cond.methodLink "BondOfficeLaw" (133 : Nat) ({ cls := "BondOfficeLaw", name := "claim", desc := "(LBondOffice;I[J)I" } : Jvm.MethodName)) ∈ ex_TB := tb_at 1200 (by exact rfl) (by exact rfl)
set_option maxRecDepth 100000 in
theorem tb_1148 : (Jvm.Cond.static ({ cls := "BondOfficeLaw", name := "claim", desc := "(LBondOffice;I[J)I" } : Jvm.MethodName)) ∈ ex_TB := tb_at 1201 (by exact rfl) (by exact rfl)
set_option maxRecDepth 100000 in
theorem tb_1149 : (Jvm.Cond.codeWith ({ cls := "BondOfficeLaw", name := "claim", desc := "(LBondOffice;I[J)I" } : Jvm.MethodName) method_14_code (4 : Nat) (Option.some Jvm.ClassFile.FieldType.int) [((0 : Nat), (9 : Nat), (12 : Nat), (19 : Nat))]) ∈ ex_TB := tb_at 1202 (by exact rfl) (by exact rfl)
set_option maxRecDepth 100000 in
theorem tb_1150 : (Jvm.Cond.methodLink "BondOfficeLaw" (54 : Nat) ({ cls := "BondOffice", name := "claim", desc := "(I)I" } : Jvm.MethodName)) ∈ ex_TB := tb_at 1203 (by exact rfl) (by exact rfl)
set_option maxRecDepth 100000 in
theorem tb_1151 : (Jvm.Cond.instanceMethod ({ cls := "BondOffice", name := "claim", desc := "(I)I" } : Jvm.MethodName)) ∈ ex_TB := tb_at 1204 (by exact rfl) (by exact rfl)
set_option maxRecDepth 100000 in
theorem tb_1152 : (Jvm.Cond.selects "BondOffice" ({ cls := "BondOffice", name := "claim", desc := "(I)I" } : Jvm.MethodName) ({ cls := "BondOffice", name := "claim", desc := "(I)I" } : Jvm.MethodName)) ∈ ex_TB := tb_at 1205 (by exact rfl) (by exact rfl)
set_option maxRecDepth 100000 in
theorem tb_1153 : (Jvm.Cond.code ({ cls := "BondOffice", name := "claim", desc := "(I)I" } : Jvm.MethodName) prog_1_method_19_code (3 : Nat) (Option.some Jvm.ClassFile.FieldType.int)) ∈ ex_TB := tb_at 1206 (by exact rfl) (by exact rfl)
set_option maxRecDepth 100000 in
theorem tb_1158 : (Jvm.Cond.methodLink "BondOfficeLaw" (136 : Nat) ({ cls := "BondOfficeLaw", name := "paid", desc := "(LBondOffice;I[J)I" } : Jvm.MethodName)) ∈ ex_TB := tb_at 1211 (by exact rfl) (by exact rfl)
set_option maxRecDepth 100000 in
theorem tb_1159 : (Jvm.Cond.static ({ cls := "BondOfficeLaw", name := "paid", desc := "(LBondOffice;I[J)I" } : Jvm.MethodName)) ∈ ex_TB := tb_at 1212 (by exact rfl) (by exact rfl)
set_option maxRecDepth 100000 in
theorem tb_1160 : (Jvm.Cond.codeWith ({ cls := "BondOfficeLaw", name := "paid", desc := "(LBondOffice;I[J)I" } : Jvm.MethodName) method_15_code (4 : Nat) (Option.some Jvm.ClassFile.FieldType.int) [((0 : Nat), (8 : Nat), (11 : Nat), (19 : Nat))]) ∈ ex_TB := tb_at 1213 (by exact rfl) (by exact rfl)
set_option maxRecDepth 100000 in
theorem tb_1161 : (Jvm.Cond.methodLink "BondOfficeLaw" (57 : Nat) ({ cls := "BondOffice", name := "paid", desc := "(I)J" } : Jvm.MethodName)) ∈ ex_TB := tb_at 1214 (by exact rfl) (by exact rfl)
set_option maxRecDepth 100000 in
theorem tb_1162 : (Jvm.Cond.instanceMethod ({ cls := "BondOffice", name := "paid", desc := "(I)J" } : Jvm.MethodName)) ∈ ex_TB := tb_at 1215 (by exact rfl) (by exact rfl)
set_option maxRecDepth 100000 in
theorem tb_1163 : (Jvm.Cond.selects "BondOffice" ({ cls := "BondOffice", name := "paid", desc := "(I)J" } : Jvm.MethodName) ({ cls := "BondOffice", name := "paid", desc := "(I)J" } : Jvm.MethodName)) ∈ ex_TB := tb_at 1216 (by exact rfl) (by exact rfl)
set_option maxRecDepth 100000 in
theorem tb_1164 : (Jvm.Cond.code ({ cls := "BondOffice", name := "paid", desc := "(I)J" } : Jvm.MethodName) prog_1_method_20_code (2 : Nat) (Option.some Jvm.ClassFile.FieldType.long)) ∈ ex_TB := tb_at 1217 (by exact rfl) (by exact rfl)
set_option maxRecDepth 100000 in
theorem tb_1165 : (Jvm.Cond.classLink "BondOfficeLaw" (62 : Nat) "BondOfficeModel") ∈ ex_TB := tb_at 1218 (by exact rfl) (by exact rfl)
set_option maxRecDepth 100000 in
theorem tb_1166 : (Jvm.Cond.instantiable "BondOfficeModel" (37 : Nat)) ∈ ex_TB := tb_at 1219 (by exact rfl) (by exact rfl)
set_option maxRecDepth 100000 in
theorem tb_1167 : (Jvm.Cond.methodLink "BondOfficeLaw" (64 : Nat) ({ cls := "BondOfficeModel", name := "<init>", desc := "()V" } : Jvm.MethodName)) ∈ ex_TB := tb_at 1220 (by exact rfl) (by exact rfl)
set_option maxRecDepth 100000 in
theorem tb_1168 : (Jvm.Cond.instanceMethod ({ cls := "BondOfficeModel", name := "<init>", desc := "()V" } : Jvm.MethodName)) ∈ ex_TB := tb_at 1221 (by exact rfl) (by exact rfl)
set_option maxRecDepth 100000 in
theorem tb_1169 : (Jvm.Cond.code ({ cls := "BondOfficeModel", name := "<init>", desc := "()V" } : Jvm.MethodName) prog_12_method_1_code (1 : Nat) (Option.none : Option Jvm.ClassFile.FieldType)) ∈ ex_TB := tb_at 1222 (by exact rfl) (by exact rfl)
set_option maxRecDepth 100000 in
theorem tb_1285 : (Jvm.Cond.methodLink "BondOfficeLaw" (71 : Nat) ({ cls := "BondOfficeModel", name := "thrown", desc := "()I" } : Jvm.MethodName)) ∈ ex_TB := tb_at 1338 (by exact rfl) (by exact rfl)
set_option maxRecDepth 100000 in
theorem tb_1286 : (Jvm.Cond.instanceMethod ({ cls := "BondOfficeModel", name := "thrown", desc := "()I" } : Jvm.MethodName)) ∈ ex_TB := tb_at 1339 (by exact rfl) (by exact rfl)
set_option maxRecDepth 100000 in
theorem tb_1287 : (Jvm.Cond.selects "BondOfficeModel" ({ cls := "BondOfficeModel", name := "thrown", desc := "()I" } : Jvm.MethodName) ({ cls := "BondOfficeModel", name := "thrown", desc := "()I" } : Jvm.MethodName)) ∈ ex_TB := tb_at 1340 (by exact rfl) (by exact rfl)
set_option maxRecDepth 100000 in
theorem tb_1288 : (Jvm.Cond.code ({ cls := "BondOfficeModel", name := "thrown", desc := "()I" } : Jvm.MethodName) prog_12_method_2_code (1 : Nat) (Option.some Jvm.ClassFile.FieldType.int)) ∈ ex_TB := tb_at 1341 (by exact rfl) (by exact rfl)
set_option maxRecDepth 100000 in
theorem tb_1289 : (Jvm.Cond.methodLink "BondOfficeLaw" (70 : Nat) ({ cls := "BondOfficeModel", name := "holder", desc := "()I" } : Jvm.MethodName)) ∈ ex_TB := tb_at 1342 (by exact rfl) (by exact rfl)
set_option maxRecDepth 100000 in
theorem tb_1290 : (Jvm.Cond.instanceMethod ({ cls := "BondOfficeModel", name := "holder", desc := "()I" } : Jvm.MethodName)) ∈ ex_TB := tb_at 1343 (by exact rfl) (by exact rfl)
set_option maxRecDepth 100000 in
theorem tb_1291 : (Jvm.Cond.selects "BondOfficeModel" ({ cls := "BondOfficeModel", name := "holder", desc := "()I" } : Jvm.MethodName) ({ cls := "BondOfficeModel", name := "holder", desc := "()I" } : Jvm.MethodName)) ∈ ex_TB := tb_at 1344 (by exact rfl) (by exact rfl)
set_option maxRecDepth 100000 in
theorem tb_1292 : (Jvm.Cond.code ({ cls := "BondOfficeModel", name := "holder", desc := "()I" } : Jvm.MethodName) prog_12_method_4_code (1 : Nat) (Option.some Jvm.ClassFile.FieldType.int)) ∈ ex_TB := tb_at 1345 (by exact rfl) (by exact rfl)
set_option maxRecDepth 100000 in
theorem tb_1297 : (Jvm.Cond.methodLink "BondOfficeLaw" (77 : Nat) ({ cls := "BondOfficeModel", name := "buy", desc := "(II)I" } : Jvm.MethodName)) ∈ ex_TB := tb_at 1350 (by exact rfl) (by exact rfl)
set_option maxRecDepth 100000 in
theorem tb_1298 : (Jvm.Cond.instanceMethod ({ cls := "BondOfficeModel", name := "buy", desc := "(II)I" } : Jvm.MethodName)) ∈ ex_TB := tb_at 1351 (by exact rfl) (by exact rfl)
set_option maxRecDepth 100000 in
theorem tb_1299 : (Jvm.Cond.selects "BondOfficeModel" ({ cls := "BondOfficeModel", name := "buy", desc := "(II)I" } : Jvm.MethodName) ({ cls := "BondOfficeModel", name := "buy", desc := "(II)I" } : Jvm.MethodName)) ∈ ex_TB := tb_at 1352 (by exact rfl) (by exact rfl)
set_option maxRecDepth 100000 in
theorem tb_1300 : (Jvm.Cond.code ({ cls := "BondOfficeModel", name := "buy", desc := "(II)I" } : Jvm.MethodName) prog_12_method_7_code (3 : Nat) (Option.some Jvm.ClassFile.FieldType.int)) ∈ ex_TB := tb_at 1353 (by exact rfl) (by exact rfl)
set_option maxRecDepth 100000 in
theorem tb_1311 : (Jvm.Cond.methodLink "BondOfficeLaw" (81 : Nat) ({ cls := "BondOfficeModel", name := "give", desc := "(IIII)I" } : Jvm.MethodName)) ∈ ex_TB := tb_at 1364 (by exact rfl) (by exact rfl)
set_option maxRecDepth 100000 in
theorem tb_1312 : (Jvm.Cond.instanceMethod ({ cls := "BondOfficeModel", name := "give", desc := "(IIII)I" } : Jvm.MethodName)) ∈ ex_TB := tb_at 1365 (by exact rfl) (by exact rfl)
set_option maxRecDepth 100000 in
theorem tb_1313 : (Jvm.Cond.selects "BondOfficeModel" ({ cls := "BondOfficeModel", name := "give", desc := "(IIII)I" } : Jvm.MethodName) ({ cls := "BondOfficeModel", name := "give", desc := "(IIII)I" } : Jvm.MethodName)) ∈ ex_TB := tb_at 1366 (by exact rfl) (by exact rfl)
set_option maxRecDepth 100000 in
theorem tb_1314 : (Jvm.Cond.code ({ cls := "BondOfficeModel", name := "give", desc := "(IIII)I" } : Jvm.MethodName) prog_12_method_11_code (5 : Nat) (Option.some Jvm.ClassFile.FieldType.int)) ∈ ex_TB := tb_at 1367 (by exact rfl) (by exact rfl)
set_option maxRecDepth 100000 in
theorem tb_1327 : (Jvm.Cond.methodLink "BondOfficeLaw" (85 : Nat) ({ cls := "BondOfficeModel", name := "cash", desc := "(III)I" } : Jvm.MethodName)) ∈ ex_TB := tb_at 1380 (by exact rfl) (by exact rfl)
set_option maxRecDepth 100000 in
theorem tb_1328 : (Jvm.Cond.instanceMethod ({ cls := "BondOfficeModel", name := "cash", desc := "(III)I" } : Jvm.MethodName)) ∈ ex_TB := tb_at 1381 (by exact rfl) (by exact rfl)
set_option maxRecDepth 100000 in
theorem tb_1329 : (Jvm.Cond.selects "BondOfficeModel" ({ cls := "BondOfficeModel", name := "cash", desc := "(III)I" } : Jvm.MethodName) ({ cls := "BondOfficeModel", name := "cash", desc := "(III)I" } : Jvm.MethodName)) ∈ ex_TB := tb_at 1382 (by exact rfl) (by exact rfl)
set_option maxRecDepth 100000 in
theorem tb_1330 : (Jvm.Cond.code ({ cls := "BondOfficeModel", name := "cash", desc := "(III)I" } : Jvm.MethodName) prog_12_method_12_code (5 : Nat) (Option.some Jvm.ClassFile.FieldType.int)) ∈ ex_TB := tb_at 1383 (by exact rfl) (by exact rfl)
set_option maxRecDepth 100000 in
theorem tb_1331 : (Jvm.Cond.methodLink "BondOfficeLaw" (88 : Nat) ({ cls := "BondOfficeModel", name := "died", desc := "(II)I" } : Jvm.MethodName)) ∈ ex_TB := tb_at 1384 (by exact rfl) (by exact rfl)
set_option maxRecDepth 100000 in
theorem tb_1332 : (Jvm.Cond.instanceMethod ({ cls := "BondOfficeModel", name := "died", desc := "(II)I" } : Jvm.MethodName)) ∈ ex_TB := tb_at 1385 (by exact rfl) (by exact rfl)
set_option maxRecDepth 100000 in
theorem tb_1333 : (Jvm.Cond.selects "BondOfficeModel" ({ cls := "BondOfficeModel", name := "died", desc := "(II)I" } : Jvm.MethodName) ({ cls := "BondOfficeModel", name := "died", desc := "(II)I" } : Jvm.MethodName)) ∈ ex_TB := tb_at 1386 (by exact rfl) (by exact rfl)
set_option maxRecDepth 100000 in
theorem tb_1334 : (Jvm.Cond.code ({ cls := "BondOfficeModel", name := "died", desc := "(II)I" } : Jvm.MethodName) prog_12_method_13_code (6 : Nat) (Option.some Jvm.ClassFile.FieldType.int)) ∈ ex_TB := tb_at 1387 (by exact rfl) (by exact rfl)
set_option maxRecDepth 100000 in
theorem tb_1335 : (Jvm.Cond.methodLink "BondOfficeLaw" (92 : Nat) ({ cls := "BondOfficeModel", name := "held", desc := "(II)I" } : Jvm.MethodName)) ∈ ex_TB := tb_at 1388 (by exact rfl) (by exact rfl)
set_option maxRecDepth 100000 in
theorem tb_1336 : (Jvm.Cond.instanceMethod ({ cls := "BondOfficeModel", name := "held", desc := "(II)I" } : Jvm.MethodName)) ∈ ex_TB := tb_at 1389 (by exact rfl) (by exact rfl)
set_option maxRecDepth 100000 in
theorem tb_1337 : (Jvm.Cond.selects "BondOfficeModel" ({ cls := "BondOfficeModel", name := "held", desc := "(II)I" } : Jvm.MethodName) ({ cls := "BondOfficeModel", name := "held", desc := "(II)I" } : Jvm.MethodName)) ∈ ex_TB := tb_at 1390 (by exact rfl) (by exact rfl)
set_option maxRecDepth 100000 in
theorem tb_1338 : (Jvm.Cond.code ({ cls := "BondOfficeModel", name := "held", desc := "(II)I" } : Jvm.MethodName) prog_12_method_14_code (4 : Nat) (Option.some Jvm.ClassFile.FieldType.int)) ∈ ex_TB := tb_at 1391 (by exact rfl) (by exact rfl)
set_option maxRecDepth 100000 in
theorem tb_1339 : (Jvm.Cond.methodLink "BondOfficeLaw" (96 : Nat) ({ cls := "BondOfficeModel", name := "has", desc := "(I)I" } : Jvm.MethodName)) ∈ ex_TB := tb_at 1392 (by exact rfl) (by exact rfl)
set_option maxRecDepth 100000 in
theorem tb_1340 : (Jvm.Cond.instanceMethod ({ cls := "BondOfficeModel", name := "has", desc := "(I)I" } : Jvm.MethodName)) ∈ ex_TB := tb_at 1393 (by exact rfl) (by exact rfl)
set_option maxRecDepth 100000 in
theorem tb_1341 : (Jvm.Cond.selects "BondOfficeModel" ({ cls := "BondOfficeModel", name := "has", desc := "(I)I" } : Jvm.MethodName) ({ cls := "BondOfficeModel", name := "has", desc := "(I)I" } : Jvm.MethodName)) ∈ ex_TB := tb_at 1394 (by exact rfl) (by exact rfl)
set_option maxRecDepth 100000 in
theorem tb_1342 : (Jvm.Cond.code ({ cls := "BondOfficeModel", name := "has", desc := "(I)I" } : Jvm.MethodName) prog_12_method_15_code (2 : Nat) (Option.some Jvm.ClassFile.FieldType.int)) ∈ ex_TB := tb_at 1395 (by exact rfl) (by exact rfl)
set_option maxRecDepth 100000 in
theorem tb_1343 : (Jvm.Cond.methodLink "BondOfficeLaw" (99 : Nat) ({ cls := "BondOfficeModel", name := "line", desc := "(II)I" } : Jvm.MethodName)) ∈ ex_TB := tb_at 1396 (by exact rfl) (by exact rfl)
set_option maxRecDepth 100000 in
theorem tb_1344 : (Jvm.Cond.instanceMethod ({ cls := "BondOfficeModel", name := "line", desc := "(II)I" } : Jvm.MethodName)) ∈ ex_TB := tb_at 1397 (by exact rfl) (by exact rfl)
set_option maxRecDepth 100000 in
theorem tb_1345 : (Jvm.Cond.selects "BondOfficeModel" ({ cls := "BondOfficeModel", name := "line", desc := "(II)I" } : Jvm.MethodName) ({ cls := "BondOfficeModel", name := "line", desc := "(II)I" } : Jvm.MethodName)) ∈ ex_TB := tb_at 1398 (by exact rfl) (by exact rfl)
set_option maxRecDepth 100000 in
theorem tb_1346 : (Jvm.Cond.code ({ cls := "BondOfficeModel", name := "line", desc := "(II)I" } : Jvm.MethodName) prog_12_method_16_code (3 : Nat) (Option.some Jvm.ClassFile.FieldType.int)) ∈ ex_TB := tb_at 1399 (by exact rfl) (by exact rfl)
set_option maxRecDepth 100000 in
theorem tb_1347 : (Jvm.Cond.methodLink "BondOfficeLaw" (102 : Nat) ({ cls := "BondOfficeModel", name := "wait", desc := "(I)I" } : Jvm.MethodName)) ∈ ex_TB := tb_at 1400 (by exact rfl) (by exact rfl)
set_option maxRecDepth 100000 in
theorem tb_1348 : (Jvm.Cond.instanceMethod ({ cls := "BondOfficeModel", name := "wait", desc := "(I)I" } : Jvm.MethodName)) ∈ ex_TB := tb_at 1401 (by exact rfl) (by exact rfl)
set_option maxRecDepth 100000 in
theorem tb_1349 : (Jvm.Cond.selects "BondOfficeModel" ({ cls := "BondOfficeModel", name := "wait", desc := "(I)I" } : Jvm.MethodName) ({ cls := "BondOfficeModel", name := "wait", desc := "(I)I" } : Jvm.MethodName)) ∈ ex_TB := tb_at 1402 (by exact rfl) (by exact rfl)
set_option maxRecDepth 100000 in
theorem tb_1350 : (Jvm.Cond.code ({ cls := "BondOfficeModel", name := "wait", desc := "(I)I" } : Jvm.MethodName) prog_12_method_17_code (2 : Nat) (Option.some Jvm.ClassFile.FieldType.int)) ∈ ex_TB := tb_at 1403 (by exact rfl) (by exact rfl)
set_option maxRecDepth 100000 in
theorem tb_1352 : (Jvm.Cond.methodLink "BondOfficeLaw" (107 : Nat) ({ cls := "BondOfficeModel", name := "feed", desc := "(IIIII)I" } : Jvm.MethodName)) ∈ ex_TB := tb_at 1405 (by exact rfl) (by exact rfl)
set_option maxRecDepth 100000 in
theorem tb_1353 : (Jvm.Cond.instanceMethod ({ cls := "BondOfficeModel", name := "feed", desc := "(IIIII)I" } : Jvm.MethodName)) ∈ ex_TB := tb_at 1406 (by exact rfl) (by exact rfl)
set_option maxRecDepth 100000 in
theorem tb_1354 : (Jvm.Cond.selects "BondOfficeModel" ({ cls := "BondOfficeModel", name := "feed", desc := "(IIIII)I" } : Jvm.MethodName) ({ cls := "BondOfficeModel", name := "feed", desc := "(IIIII)I" } : Jvm.MethodName)) ∈ ex_TB := tb_at 1407 (by exact rfl) (by exact rfl)
set_option maxRecDepth 100000 in
theorem tb_1355 : (Jvm.Cond.code ({ cls := "BondOfficeModel", name := "feed", desc := "(IIIII)I" } : Jvm.MethodName) prog_12_method_18_code (9 : Nat) (Option.some Jvm.ClassFile.FieldType.int)) ∈ ex_TB := tb_at 1408 (by exact rfl) (by exact rfl)
set_option maxRecDepth 100000 in
theorem tb_1356 : (Jvm.Cond.methodLink "BondOfficeLaw" (110 : Nat) ({ cls := "BondOfficeModel", name := "rule", desc := "(II)I" } : Jvm.MethodName)) ∈ ex_TB := tb_at 1409 (by exact rfl) (by exact rfl)
set_option maxRecDepth 100000 in
theorem tb_1357 : (Jvm.Cond.instanceMethod ({ cls := "BondOfficeModel", name := "rule", desc := "(II)I" } : Jvm.MethodName)) ∈ ex_TB := tb_at 1410 (by exact rfl) (by exact rfl)
set_option maxRecDepth 100000 in
theorem tb_1358 : (Jvm.Cond.selects "BondOfficeModel" ({ cls := "BondOfficeModel", name := "rule", desc := "(II)I" } : Jvm.MethodName) ({ cls := "BondOfficeModel", name := "rule", desc := "(II)I" } : Jvm.MethodName)) ∈ ex_TB := tb_at 1411 (by exact rfl) (by exact rfl)
set_option maxRecDepth 100000 in
theorem tb_1359 : (Jvm.Cond.code ({ cls := "BondOfficeModel", name := "rule", desc := "(II)I" } : Jvm.MethodName) prog_12_method_29_code (5 : Nat) (Option.some Jvm.ClassFile.FieldType.int)) ∈ ex_TB := tb_at 1412 (by exact rfl) (by exact rfl)
set_option maxRecDepth 100000 in
theorem tb_1409 : (Jvm.Cond.methodLink "BondOfficeLaw" (114 : Nat) ({ cls := "BondOfficeModel", name := "fault", desc := "()I" } : Jvm.MethodName)) ∈ ex_TB := tb_at 1462 (by exact rfl) (by exact rfl)
set_option maxRecDepth 100000 in
theorem tb_1410 : (Jvm.Cond.instanceMethod ({ cls := "BondOfficeModel", name := "fault", desc := "()I" } : Jvm.MethodName)) ∈ ex_TB := tb_at 1463 (by exact rfl) (by exact rfl)
set_option maxRecDepth 100000 in
theorem tb_1411 : (Jvm.Cond.selects "BondOfficeModel" ({ cls := "BondOfficeModel", name := "fault", desc := "()I" } : Jvm.MethodName) ({ cls := "BondOfficeModel", name := "fault", desc := "()I" } : Jvm.MethodName)) ∈ ex_TB := tb_at 1464 (by exact rfl) (by exact rfl)
set_option maxRecDepth 100000 in
theorem tb_1412 : (Jvm.Cond.code ({ cls := "BondOfficeModel", name := "fault", desc := "()I" } : Jvm.MethodName) prog_12_method_30_code (1 : Nat) (Option.some Jvm.ClassFile.FieldType.int)) ∈ ex_TB := tb_at 1465 (by exact rfl) (by exact rfl)
set_option maxRecDepth 100000 in
theorem tb_1413 : (Jvm.Cond.methodLink "BondOfficeLaw" (118 : Nat) ({ cls := "BondOfficeModel", name := "force", desc := "(I)I" } : Jvm.MethodName)) ∈ ex_TB := tb_at 1466 (by exact rfl) (by exact rfl)
set_option maxRecDepth 100000 in
theorem tb_1414 : (Jvm.Cond.instanceMethod ({ cls := "BondOfficeModel", name := "force", desc := "(I)I" } : Jvm.MethodName)) ∈ ex_TB := tb_at 1467 (by exact rfl) (by exact rfl)
set_option maxRecDepth 100000 in
theorem tb_1415 : (Jvm.Cond.selects "BondOfficeModel" ({ cls := "BondOfficeModel", name := "force", desc := "(I)I" } : Jvm.MethodName) ({ cls := "BondOfficeModel", name := "force", desc := "(I)I" } : Jvm.MethodName)) ∈ ex_TB := tb_at 1468 (by exact rfl) (by exact rfl)
set_option maxRecDepth 100000 in
theorem tb_1416 : (Jvm.Cond.code ({ cls := "BondOfficeModel", name := "force", desc := "(I)I" } : Jvm.MethodName) prog_12_method_32_code (2 : Nat) (Option.some Jvm.ClassFile.FieldType.int)) ∈ ex_TB := tb_at 1469 (by exact rfl) (by exact rfl)
set_option maxRecDepth 100000 in
theorem tb_1421 : (Jvm.Cond.methodLink "BondOfficeLaw" (122 : Nat) ({ cls := "BondOfficeModel", name := "noise", desc := "(I)I" } : Jvm.MethodName)) ∈ ex_TB := tb_at 1474 (by exact rfl) (by exact rfl)
set_option maxRecDepth 100000 in
theorem tb_1422 : (Jvm.Cond.instanceMethod ({ cls := "BondOfficeModel", name := "noise", desc := "(I)I" } : Jvm.MethodName)) ∈ ex_TB := tb_at 1475 (by exact rfl) (by exact rfl)
set_option maxRecDepth 100000 in
theorem tb_1423 : (Jvm.Cond.selects "BondOfficeModel" ({ cls := "BondOfficeModel", name := "noise", desc := "(I)I" } : Jvm.MethodName) ({ cls := "BondOfficeModel", name := "noise", desc := "(I)I" } : Jvm.MethodName)) ∈ ex_TB := tb_at 1476 (by exact rfl) (by exact rfl)
set_option maxRecDepth 100000 in
theorem tb_1424 : (Jvm.Cond.code ({ cls := "BondOfficeModel", name := "noise", desc := "(I)I" } : Jvm.MethodName) prog_12_method_33_code (2 : Nat) (Option.some Jvm.ClassFile.FieldType.int)) ∈ ex_TB := tb_at 1477 (by exact rfl) (by exact rfl)
set_option maxRecDepth 100000 in
theorem tb_1425 : (Jvm.Cond.methodLink "BondOfficeLaw" (126 : Nat) ({ cls := "BondOfficeModel", name := "draw", desc := "()I" } : Jvm.MethodName)) ∈ ex_TB := tb_at 1478 (by exact rfl) (by exact rfl)
set_option maxRecDepth 100000 in
theorem tb_1426 : (Jvm.Cond.instanceMethod ({ cls := "BondOfficeModel", name := "draw", desc := "()I" } : Jvm.MethodName)) ∈ ex_TB := tb_at 1479 (by exact rfl) (by exact rfl)
set_option maxRecDepth 100000 in
theorem tb_1427 : (Jvm.Cond.selects "BondOfficeModel" ({ cls := "BondOfficeModel", name := "draw", desc := "()I" } : Jvm.MethodName) ({ cls := "BondOfficeModel", name := "draw", desc := "()I" } : Jvm.MethodName)) ∈ ex_TB := tb_at 1480 (by exact rfl) (by exact rfl)
set_option maxRecDepth 100000 in
theorem tb_1428 : (Jvm.Cond.code ({ cls := "BondOfficeModel", name := "draw", desc := "()I" } : Jvm.MethodName) prog_12_method_37_code (22 : Nat) (Option.some Jvm.ClassFile.FieldType.int)) ∈ ex_TB := tb_at 1481 (by exact rfl) (by exact rfl)
set_option maxRecDepth 100000 in
theorem tb_1454 : (Jvm.Cond.methodLink "BondOfficeLaw" (129 : Nat) ({ cls := "BondOfficeModel", name := "drawn", desc := "(II)J" } : Jvm.MethodName)) ∈ ex_TB := tb_at 1507 (by exact rfl) (by exact rfl)
set_option maxRecDepth 100000 in
theorem tb_1455 : (Jvm.Cond.instanceMethod ({ cls := "BondOfficeModel", name := "drawn", desc := "(II)J" } : Jvm.MethodName)) ∈ ex_TB := tb_at 1508 (by exact rfl) (by exact rfl)
set_option maxRecDepth 100000 in
theorem tb_1456 : (Jvm.Cond.selects "BondOfficeModel" ({ cls := "BondOfficeModel", name := "drawn", desc := "(II)J" } : Jvm.MethodName) ({ cls := "BondOfficeModel", name := "drawn", desc := "(II)J" } : Jvm.MethodName)) ∈ ex_TB := tb_at 1509 (by exact rfl) (by exact rfl)
set_option maxRecDepth 100000 in
theorem tb_1457 : (Jvm.Cond.code ({ cls := "BondOfficeModel", name := "drawn", desc := "(II)J" } : Jvm.MethodName) prog_12_method_39_code (3 : Nat) (Option.some Jvm.ClassFile.FieldType.long)) ∈ ex_TB := tb_at 1510 (by exact rfl) (by exact rfl)
set_option maxRecDepth 100000 in
theorem tb_1458 : (Jvm.Cond.methodLink "BondOfficeLaw" (132 : Nat) ({ cls := "BondOfficeModel", name := "win", desc := "(II)I" } : Jvm.MethodName)) ∈ ex_TB := tb_at 1511 (by exact rfl) (by exact rfl)
set_option maxRecDepth 100000 in
theorem tb_1459 : (Jvm.Cond.instanceMethod ({ cls := "BondOfficeModel", name := "win", desc := "(II)I" } : Jvm.MethodName)) ∈ ex_TB := tb_at 1512 (by exact rfl) (by exact rfl)
set_option maxRecDepth 100000 in
theorem tb_1460 : (Jvm.Cond.selects "BondOfficeModel" ({ cls := "BondOfficeModel", name := "win", desc := "(II)I" } : Jvm.MethodName) ({ cls := "BondOfficeModel", name := "win", desc := "(II)I" } : Jvm.MethodName)) ∈ ex_TB := tb_at 1513 (by exact rfl) (by exact rfl)
set_option maxRecDepth 100000 in
theorem tb_1461 : (Jvm.Cond.code ({ cls := "BondOfficeModel", name := "win", desc := "(II)I" } : Jvm.MethodName) prog_12_method_41_code (3 : Nat) (Option.some Jvm.ClassFile.FieldType.int)) ∈ ex_TB := tb_at 1514 (by exact rfl) (by exact rfl)
set_option maxRecDepth 100000 in
theorem tb_1466 : (Jvm.Cond.methodLink "BondOfficeLaw" (135 : Nat) ({ cls := "BondOfficeModel", name := "claim", desc := "(I)I" } : Jvm.MethodName)) ∈ ex_TB := tb_at 1519 (by exact rfl) (by exact rfl)
set_option maxRecDepth 100000 in
theorem tb_1467 : (Jvm.Cond.instanceMethod ({ cls := "BondOfficeModel", name := "claim", desc := "(I)I" } : Jvm.MethodName)) ∈ ex_TB := tb_at 1520 (by exact rfl) (by exact rfl)
set_option maxRecDepth 100000 in
theorem tb_1468 : (Jvm.Cond.selects "BondOfficeModel" ({ cls := "BondOfficeModel", name := "claim", desc := "(I)I" } : Jvm.MethodName) ({ cls := "BondOfficeModel", name := "claim", desc := "(I)I" } : Jvm.MethodName)) ∈ ex_TB := tb_at 1521 (by exact rfl) (by exact rfl)
set_option maxRecDepth 100000 in
theorem tb_1469 : (Jvm.Cond.code ({ cls := "BondOfficeModel", name := "claim", desc := "(I)I" } : Jvm.MethodName) prog_12_method_42_code (2 : Nat) (Option.some Jvm.ClassFile.FieldType.int)) ∈ ex_TB := tb_at 1522 (by exact rfl) (by exact rfl)
set_option maxRecDepth 100000 in
theorem tb_1470 : (Jvm.Cond.methodLink "BondOfficeLaw" (138 : Nat) ({ cls := "BondOfficeModel", name := "paid", desc := "(I)J" } : Jvm.MethodName)) ∈ ex_TB := tb_at 1523 (by exact rfl) (by exact rfl)
set_option maxRecDepth 100000 in
theorem tb_1471 : (Jvm.Cond.instanceMethod ({ cls := "BondOfficeModel", name := "paid", desc := "(I)J" } : Jvm.MethodName)) ∈ ex_TB := tb_at 1524 (by exact rfl) (by exact rfl)
set_option maxRecDepth 100000 in
theorem tb_1472 : (Jvm.Cond.selects "BondOfficeModel" ({ cls := "BondOfficeModel", name := "paid", desc := "(I)J" } : Jvm.MethodName) ({ cls := "BondOfficeModel", name := "paid", desc := "(I)J" } : Jvm.MethodName)) ∈ ex_TB := tb_at 1525 (by exact rfl) (by exact rfl)
set_option maxRecDepth 100000 in
theorem tb_1473 : (Jvm.Cond.code ({ cls := "BondOfficeModel", name := "paid", desc := "(I)J" } : Jvm.MethodName) prog_12_method_43_code (2 : Nat) (Option.some Jvm.ClassFile.FieldType.long)) ∈ ex_TB := tb_at 1526 (by exact rfl) (by exact rfl)
set_option maxRecDepth 100000 in
theorem tb_1474 : (Jvm.Cond.methodLink "BondOfficeLaw" (143 : Nat) ({ cls := "BondOfficeModel", name := "carried", desc := "()J" } : Jvm.MethodName)) ∈ ex_TB := tb_at 1527 (by exact rfl) (by exact rfl)
set_option maxRecDepth 100000 in
theorem tb_1475 : (Jvm.Cond.instanceMethod ({ cls := "BondOfficeModel", name := "carried", desc := "()J" } : Jvm.MethodName)) ∈ ex_TB := tb_at 1528 (by exact rfl) (by exact rfl)
set_option maxRecDepth 100000 in
theorem tb_1476 : (Jvm.Cond.selects "BondOfficeModel" ({ cls := "BondOfficeModel", name := "carried", desc := "()J" } : Jvm.MethodName) ({ cls := "BondOfficeModel", name := "carried", desc := "()J" } : Jvm.MethodName)) ∈ ex_TB := tb_at 1529 (by exact rfl) (by exact rfl)
set_option maxRecDepth 100000 in
theorem tb_1477 : (Jvm.Cond.code ({ cls := "BondOfficeModel", name := "carried", desc := "()J" } : Jvm.MethodName) prog_12_method_44_code (1 : Nat) (Option.some Jvm.ClassFile.FieldType.long)) ∈ ex_TB := tb_at 1530 (by exact rfl) (by exact rfl)
set_option maxRecDepth 100000 in
theorem tb_1478 : (Jvm.Cond.methodLink "BondOfficeLaw" (147 : Nat) ({ cls := "BondOfficeModel", name := "count", desc := "(I)I" } : Jvm.MethodName)) ∈ ex_TB := tb_at 1531 (by exact rfl) (by exact rfl)
set_option maxRecDepth 100000 in
theorem tb_1479 : (Jvm.Cond.instanceMethod ({ cls := "BondOfficeModel", name := "count", desc := "(I)I" } : Jvm.MethodName)) ∈ ex_TB := tb_at 1532 (by exact rfl) (by exact rfl)
set_option maxRecDepth 100000 in
theorem tb_1480 : (Jvm.Cond.selects "BondOfficeModel" ({ cls := "BondOfficeModel", name := "count", desc := "(I)I" } : Jvm.MethodName) ({ cls := "BondOfficeModel", name := "count", desc := "(I)I" } : Jvm.MethodName)) ∈ ex_TB := tb_at 1533 (by exact rfl) (by exact rfl)
set_option maxRecDepth 100000 in
theorem tb_1481 : (Jvm.Cond.code ({ cls := "BondOfficeModel", name := "count", desc := "(I)I" } : Jvm.MethodName) prog_12_method_46_code (4 : Nat) (Option.some Jvm.ClassFile.FieldType.int)) ∈ ex_TB := tb_at 1534 (by exact rfl) (by exact rfl)
def mL_holder : mt_T := (yL_holder, cL_holder, 3, some .int)
abbrev hL_holder : List (Nat × Nat × Nat × Nat) := [(0, 8, 11, 13)]
def mL_buy : mt_T := (yL_buy, cL_buy, 5, some .int)
abbrev hL_buy : List (Nat × Nat × Nat × Nat) := [(0, 10, 13, 19), (0, 10, 17, 21), (0, 10, 21, 13)]
def mL_give : mt_T := (yL_give, cL_give, 7, some .int)
abbrev hL_give : List (Nat × Nat × Nat × Nat) := [(0, 14, 17, 19), (0, 14, 21, 21), (0, 14, 25, 13)]
def mL_cash : mt_T := (yL_cash, cL_cash, 6, some .int)
abbrev hL_cash : List (Nat × Nat × Nat × Nat) := [(0, 12, 15, 19), (0, 12, 19, 13)]
def mL_died : mt_T := (yL_died, cL_died, 5, some .int)
abbrev hL_died : List (Nat × Nat × Nat × Nat) := [(0, 10, 13, 19), (0, 10, 17, 21), (0, 10, 21, 13)]
def mL_has : mt_T := (yL_has, cL_has, 4, some .int)
abbrev hL_has : List (Nat × Nat × Nat × Nat) := [(0, 9, 12, 19)]
def mL_line : mt_T := (yL_line, cL_line, 5, some .int)
abbrev hL_line : List (Nat × Nat × Nat × Nat) := [(0, 10, 13, 19), (0, 10, 17, 21)]
def mL_wait : mt_T := (yL_wait, cL_wait, 4, some .int)
abbrev hL_wait : List (Nat × Nat × Nat × Nat) := [(0, 9, 12, 21)]
def mL_rule : mt_T := (yL_rule, cL_rule, 5, some .int)
abbrev hL_rule : List (Nat × Nat × Nat × Nat) := [(0, 10, 13, 21), (0, 10, 17, 13)]
def mL_drawn : mt_T := (yL_drawn, cL_drawn, 5, some .int)
abbrev hL_drawn : List (Nat × Nat × Nat × Nat) := [(0, 9, 12, 19), (0, 9, 16, 21)]
def mL_win : mt_T := (yL_win, cL_win, 5, some .int)
abbrev hL_win : List (Nat × Nat × Nat × Nat) := [(0, 10, 13, 19), (0, 10, 17, 21)]
def mL_claim : mt_T := (yL_claim, cL_claim, 4, some .int)
abbrev hL_claim : List (Nat × Nat × Nat × Nat) := [(0, 9, 12, 19)]
def mL_paid : mt_T := (yL_paid, cL_paid, 4, some .int)
abbrev hL_paid : List (Nat × Nat × Nat × Nat) := [(0, 8, 11, 19)]
def mL_law : mt_T := (yL_law, cL_law, 8, some .boolean)
theorem cV_L_7 : ex_cV RL 7 mX9_holder 0 := ⟨⟨tb_437, tb_1, ⟨by decide +kernel, by decide +kernel⟩, by decide +kernel, by decide⟩, tb_434, tb_435, tb_436⟩
theorem cV_L_15 : ex_cV RL 15 mX9_buy 2 := ⟨⟨tb_528, tb_1, ⟨by decide +kernel, by decide +kernel⟩, by decide +kernel, by decide⟩, tb_525, tb_526, tb_527⟩
theorem cV_L_23 : ex_cV RL 23 mX9_give 4 := ⟨⟨tb_613, tb_1, ⟨by decide +kernel, by decide +kernel⟩, by decide +kernel, by decide⟩, tb_610, tb_611, tb_612⟩
theorem cV_L_27 : ex_cV RL 27 mX9_cash 3 := ⟨⟨tb_915, tb_1, ⟨by decide +kernel, by decide +kernel⟩, by decide +kernel, by decide⟩, tb_912, tb_913, tb_914⟩
theorem cV_L_31 : ex_cV RL 31 mX9_died 2 := ⟨⟨tb_922, tb_1, ⟨by decide +kernel, by decide +kernel⟩, by decide +kernel, by decide⟩, tb_919, tb_920, tb_921⟩
theorem cV_L_34 : ex_cV RL 34 mX9_has 1 := ⟨⟨tb_933, tb_1, ⟨by decide +kernel, by decide +kernel⟩, by decide +kernel, by decide⟩, tb_930, tb_931, tb_932⟩
theorem cV_L_38 : ex_cV RL 38 mX9_line 2 := ⟨⟨tb_944, tb_1, ⟨by decide +kernel, by decide +kernel⟩, by decide +kernel, by decide⟩, tb_941, tb_942, tb_943⟩
theorem cV_L_41 : ex_cV RL 41 mX9_wait 1 := ⟨⟨tb_958, tb_1, ⟨by decide +kernel, by decide +kernel⟩, by decide +kernel, by decide⟩, tb_955, tb_956, tb_957⟩
theorem cV_L_44 : ex_cV RL 44 mX9_rule 2 := ⟨⟨tb_967, tb_1, ⟨by decide +kernel, by decide +kernel⟩, by decide +kernel, by decide⟩, tb_964, tb_965, tb_966⟩
theorem cV_L_47 : ex_cV RL 47 mX9_drawn 2 := ⟨⟨tb_1122, tb_1, ⟨by decide +kernel, by decide +kernel⟩, by decide +kernel, by decide⟩, tb_1119, tb_1120, tb_1121⟩
theorem cV_L_51 : ex_cV RL 51 mX9_win 2 := ⟨⟨tb_1136, tb_1, ⟨by decide +kernel, by decide +kernel⟩, by decide +kernel, by decide⟩, tb_1133, tb_1134, tb_1135⟩
theorem cV_L_54 : ex_cV RL 54 mX9_claim 1 := ⟨⟨tb_1153, tb_1, ⟨by decide +kernel, by decide +kernel⟩, by decide +kernel, by decide⟩, tb_1150, tb_1151, tb_1152⟩
theorem cV_L_57 : ex_cV RL 57 mX9_paid 1 := ⟨⟨tb_1164, tb_1, ⟨by decide +kernel, by decide +kernel⟩, by decide +kernel, by decide⟩, tb_1161, tb_1162, tb_1163⟩
theorem nl_L_8 : ex_nl RL 8 9 := ⟨(RX9, TX9, 12), rfl, by decide, ck_9, tb_34, tb_35, tb_1, rfl, nz_9⟩
theorem cI_L_61 : ex_cI RL 61 mX9_init 0 := ⟨⟨tb_38, tb_1, ⟨by decide +kernel, by decide +kernel⟩, by decide +kernel, by decide⟩, Or.inl tb_36, tb_37, rfl, rfl⟩
theorem nl_L_62 : ex_nl RL 62 10 := ⟨(RX10, TX10, 37), rfl, by decide, ck_10, tb_1165, tb_1166, tb_6, rfl, nz_10⟩
theorem cI_L_64 : ex_cI RL 64 mX10_init 0 := ⟨⟨tb_1169, tb_6, ⟨by decide +kernel, by decide +kernel⟩, by decide +kernel, by decide⟩, Or.inl tb_1167, tb_1168, rfl, rfl⟩
theorem cW_L_65 : eh_cS RL 65 mL_holder 2 hL_holder := ⟨⟨tb_432, tb_0, ⟨by decide +kernel, by decide +kernel⟩, by decide +kernel, by decide⟩, tb_430, tb_431⟩
theorem cV_L_70 : ex_cV RL 70 mX10_holder 0 := ⟨⟨tb_1292, tb_6, ⟨by decide +kernel, by decide +kernel⟩, by decide +kernel, by decide⟩, tb_1289, tb_1290, tb_1291⟩
theorem cV_L_71 : ex_cV RL 71 mX10_thrown 0 := ⟨⟨tb_1288, tb_6, ⟨by decide +kernel, by decide +kernel⟩, by decide +kernel, by decide⟩, tb_1285, tb_1286, tb_1287⟩
theorem cW_L_74 : eh_cS RL 74 mL_buy 4 hL_buy := ⟨⟨tb_522, tb_0, ⟨by decide +kernel, by decide +kernel⟩, by decide +kernel, by decide⟩, tb_520, tb_521⟩
theorem cV_L_77 : ex_cV RL 77 mX10_buy 2 := ⟨⟨tb_1300, tb_6, ⟨by decide +kernel, by decide +kernel⟩, by decide +kernel, by decide⟩, tb_1297, tb_1298, tb_1299⟩
theorem cW_L_78 : eh_cS RL 78 mL_give 6 hL_give := ⟨⟨tb_609, tb_0, ⟨by decide +kernel, by decide +kernel⟩, by decide +kernel, by decide⟩, tb_607, tb_608⟩
theorem cV_L_81 : ex_cV RL 81 mX10_give 4 := ⟨⟨tb_1314, tb_6, ⟨by decide +kernel, by decide +kernel⟩, by decide +kernel, by decide⟩, tb_1311, tb_1312, tb_1313⟩
theorem cW_L_82 : eh_cS RL 82 mL_cash 5 hL_cash := ⟨⟨tb_911, tb_0, ⟨by decide +kernel, by decide +kernel⟩, by decide +kernel, by decide⟩, tb_909, tb_910⟩
theorem cV_L_85 : ex_cV RL 85 mX10_cash 3 := ⟨⟨tb_1330, tb_6, ⟨by decide +kernel, by decide +kernel⟩, by decide +kernel, by decide⟩, tb_1327, tb_1328, tb_1329⟩
theorem cW_L_86 : eh_cS RL 86 mL_died 4 hL_died := ⟨⟨tb_918, tb_0, ⟨by decide +kernel, by decide +kernel⟩, by decide +kernel, by decide⟩, tb_916, tb_917⟩
theorem cV_L_88 : ex_cV RL 88 mX10_died 2 := ⟨⟨tb_1334, tb_6, ⟨by decide +kernel, by decide +kernel⟩, by decide +kernel, by decide⟩, tb_1331, tb_1332, tb_1333⟩
theorem cV_L_89 : ex_cV RL 89 mX9_held 2 := ⟨⟨tb_130, tb_1, ⟨by decide +kernel, by decide +kernel⟩, by decide +kernel, by decide⟩, tb_127, tb_128, tb_129⟩
theorem cV_L_92 : ex_cV RL 92 mX10_held 2 := ⟨⟨tb_1338, tb_6, ⟨by decide +kernel, by decide +kernel⟩, by decide +kernel, by decide⟩, tb_1335, tb_1336, tb_1337⟩
theorem cW_L_93 : eh_cS RL 93 mL_has 3 hL_has := ⟨⟨tb_929, tb_0, ⟨by decide +kernel, by decide +kernel⟩, by decide +kernel, by decide⟩, tb_927, tb_928⟩
theorem cV_L_96 : ex_cV RL 96 mX10_has 1 := ⟨⟨tb_1342, tb_6, ⟨by decide +kernel, by decide +kernel⟩, by decide +kernel, by decide⟩, tb_1339, tb_1340, tb_1341⟩
theorem cW_L_97 : eh_cS RL 97 mL_line 4 hL_line := ⟨⟨tb_940, tb_0, ⟨by decide +kernel, by decide +kernel⟩, by decide +kernel, by decide⟩, tb_938, tb_939⟩
theorem cV_L_99 : ex_cV RL 99 mX10_line 2 := ⟨⟨tb_1346, tb_6, ⟨by decide +kernel, by decide +kernel⟩, by decide +kernel, by decide⟩, tb_1343, tb_1344, tb_1345⟩
theorem cW_L_100 : eh_cS RL 100 mL_wait 3 hL_wait := ⟨⟨tb_954, tb_0, ⟨by decide +kernel, by decide +kernel⟩, by decide +kernel, by decide⟩, tb_952, tb_953⟩
theorem cV_L_102 : ex_cV RL 102 mX10_wait 1 := ⟨⟨tb_1350, tb_6, ⟨by decide +kernel, by decide +kernel⟩, by decide +kernel, by decide⟩, tb_1347, tb_1348, tb_1349⟩
theorem cV_L_103 : ex_cV RL 103 mX9_feed 5 := ⟨⟨tb_165, tb_1, ⟨by decide +kernel, by decide +kernel⟩, by decide +kernel, by decide⟩, tb_162, tb_163, tb_164⟩
theorem cV_L_107 : ex_cV RL 107 mX10_feed 5 := ⟨⟨tb_1355, tb_6, ⟨by decide +kernel, by decide +kernel⟩, by decide +kernel, by decide⟩, tb_1352, tb_1353, tb_1354⟩
theorem cW_L_108 : eh_cS RL 108 mL_rule 4 hL_rule := ⟨⟨tb_963, tb_0, ⟨by decide +kernel, by decide +kernel⟩, by decide +kernel, by decide⟩, tb_961, tb_962⟩
theorem cV_L_110 : ex_cV RL 110 mX10_rule 2 := ⟨⟨tb_1359, tb_6, ⟨by decide +kernel, by decide +kernel⟩, by decide +kernel, by decide⟩, tb_1356, tb_1357, tb_1358⟩
theorem cV_L_111 : ex_cV RL 111 mX9_fault 0 := ⟨⟨tb_173, tb_1, ⟨by decide +kernel, by decide +kernel⟩, by decide +kernel, by decide⟩, tb_170, tb_171, tb_172⟩
theorem cV_L_114 : ex_cV RL 114 mX10_fault 0 := ⟨⟨tb_1412, tb_6, ⟨by decide +kernel, by decide +kernel⟩, by decide +kernel, by decide⟩, tb_1409, tb_1410, tb_1411⟩
theorem cV_L_115 : ex_cV RL 115 mX9_force 1 := ⟨⟨tb_177, tb_1, ⟨by decide +kernel, by decide +kernel⟩, by decide +kernel, by decide⟩, tb_174, tb_175, tb_176⟩
theorem cV_L_118 : ex_cV RL 118 mX10_force 1 := ⟨⟨tb_1416, tb_6, ⟨by decide +kernel, by decide +kernel⟩, by decide +kernel, by decide⟩, tb_1413, tb_1414, tb_1415⟩
theorem cV_L_119 : ex_cV RL 119 mX9_noise 1 := ⟨⟨tb_184, tb_1, ⟨by decide +kernel, by decide +kernel⟩, by decide +kernel, by decide⟩, tb_181, tb_182, tb_183⟩
theorem cV_L_122 : ex_cV RL 122 mX10_noise 1 := ⟨⟨tb_1424, tb_6, ⟨by decide +kernel, by decide +kernel⟩, by decide +kernel, by decide⟩, tb_1421, tb_1422, tb_1423⟩
theorem cV_L_123 : ex_cV RL 123 mX9_draw 0 := ⟨⟨tb_188, tb_1, ⟨by decide +kernel, by decide +kernel⟩, by decide +kernel, by decide⟩, tb_185, tb_186, tb_187⟩
theorem cV_L_126 : ex_cV RL 126 mX10_draw 0 := ⟨⟨tb_1428, tb_6, ⟨by decide +kernel, by decide +kernel⟩, by decide +kernel, by decide⟩, tb_1425, tb_1426, tb_1427⟩
theorem cW_L_127 : eh_cS RL 127 mL_drawn 4 hL_drawn := ⟨⟨tb_1118, tb_0, ⟨by decide +kernel, by decide +kernel⟩, by decide +kernel, by decide⟩, tb_1116, tb_1117⟩
theorem cV_L_129 : ex_cV RL 129 mX10_drawn 2 := ⟨⟨tb_1457, tb_6, ⟨by decide +kernel, by decide +kernel⟩, by decide +kernel, by decide⟩, tb_1454, tb_1455, tb_1456⟩
theorem cW_L_130 : eh_cS RL 130 mL_win 4 hL_win := ⟨⟨tb_1132, tb_0, ⟨by decide +kernel, by decide +kernel⟩, by decide +kernel, by decide⟩, tb_1130, tb_1131⟩
theorem cV_L_132 : ex_cV RL 132 mX10_win 2 := ⟨⟨tb_1461, tb_6, ⟨by decide +kernel, by decide +kernel⟩, by decide +kernel, by decide⟩, tb_1458, tb_1459, tb_1460⟩
theorem cW_L_133 : eh_cS RL 133 mL_claim 3 hL_claim := ⟨⟨tb_1149, tb_0, ⟨by decide +kernel, by decide +kernel⟩, by decide +kernel, by decide⟩, tb_1147, tb_1148⟩
theorem cV_L_135 : ex_cV RL 135 mX10_claim 1 := ⟨⟨tb_1469, tb_6, ⟨by decide +kernel, by decide +kernel⟩, by decide +kernel, by decide⟩, tb_1466, tb_1467, tb_1468⟩
theorem cW_L_136 : eh_cS RL 136 mL_paid 3 hL_paid := ⟨⟨tb_1160, tb_0, ⟨by decide +kernel, by decide +kernel⟩, by decide +kernel, by decide⟩, tb_1158, tb_1159⟩
theorem cV_L_138 : ex_cV RL 138 mX10_paid 1 := ⟨⟨tb_1473, tb_6, ⟨by decide +kernel, by decide +kernel⟩, by decide +kernel, by decide⟩, tb_1470, tb_1471, tb_1472⟩
theorem cV_L_139 : ex_cV RL 139 mX9_carried 0 := ⟨⟨tb_421, tb_1, ⟨by decide +kernel, by decide +kernel⟩, by decide +kernel, by decide⟩, tb_418, tb_419, tb_420⟩
theorem cV_L_143 : ex_cV RL 143 mX10_carried 0 := ⟨⟨tb_1477, tb_6, ⟨by decide +kernel, by decide +kernel⟩, by decide +kernel, by decide⟩, tb_1474, tb_1475, tb_1476⟩
theorem cV_L_144 : ex_cV RL 144 mX9_count 1 := ⟨⟨tb_425, tb_1, ⟨by decide +kernel, by decide +kernel⟩, by decide +kernel, by decide⟩, tb_422, tb_423, tb_424⟩
theorem cV_L_147 : ex_cV RL 147 mX10_count 1 := ⟨⟨tb_1481, tb_6, ⟨by decide +kernel, by decide +kernel⟩, by decide +kernel, by decide⟩, tb_1478, tb_1479, tb_1480⟩
theorem kt_13 : Cond.classLink RL 13 "java/lang/IllegalStateException" ∈ ex_TB := tb_433
theorem kc_13 : Cond.castable "java/lang/IllegalStateException" "java/lang/IllegalStateException" ∈ ex_NB := nb_440
theorem kt_19 : Cond.classLink RL 19 "java/lang/IndexOutOfBoundsException" ∈ ex_TB := tb_523
theorem kc_19 : Cond.castable "java/lang/IndexOutOfBoundsException" "java/lang/IndexOutOfBoundsException" ∈ ex_NB := nb_535
theorem kt_21 : Cond.classLink RL 21 "java/lang/IllegalArgumentException" ∈ ex_TB := tb_524
theorem kc_21 : Cond.castable "java/lang/IllegalArgumentException" "java/lang/IllegalArgumentException" ∈ ex_NB := nb_552
theorem dL_holder_0 : ex_d mL_holder 0 (.aload_n 1) 1 1 := ⟨by decide +kernel, rfl⟩
theorem dL_holder_1 : ex_d mL_holder 1 (.iconst 0) 1 2 := ⟨by decide +kernel, rfl⟩
theorem dL_holder_2 : ex_d mL_holder 2 (.aload_n 0) 1 3 := ⟨by decide +kernel, rfl⟩
theorem dL_holder_3 : ex_d mL_holder 3 (.invokevirtual 7) 3 6 := ⟨by decide +kernel, rfl⟩
theorem dL_holder_6 : ex_d mL_holder 6 (.i2l) 1 7 := ⟨by decide +kernel, rfl⟩
theorem dL_holder_7 : ex_d mL_holder 7 (.lastore) 1 8 := ⟨by decide +kernel, rfl⟩
theorem dL_holder_8 : ex_d mL_holder 8 (.goto 6) 3 11 := ⟨by decide +kernel, rfl⟩
theorem dL_holder_11 : ex_d mL_holder 11 (.astore_n 2) 1 12 := ⟨by decide +kernel, rfl⟩
theorem dL_holder_12 : ex_d mL_holder 12 (.iconst 1) 1 13 := ⟨by decide +kernel, rfl⟩
theorem dL_holder_13 : ex_d mL_holder 13 (.ireturn) 1 14 := ⟨by decide +kernel, rfl⟩
theorem dL_holder_14 : ex_d mL_holder 14 (.iconst 0) 1 15 := ⟨by decide +kernel, rfl⟩
theorem dL_holder_15 : ex_d mL_holder 15 (.ireturn) 1 16 := ⟨by decide +kernel, rfl⟩
theorem dL_buy_0 : ex_d mL_buy 0 (.aload_n 3) 1 1 := ⟨by decide +kernel, rfl⟩
theorem dL_buy_1 : ex_d mL_buy 1 (.iconst 0) 1 2 := ⟨by decide +kernel, rfl⟩
theorem dL_buy_2 : ex_d mL_buy 2 (.aload_n 0) 1 3 := ⟨by decide +kernel, rfl⟩
theorem dL_buy_3 : ex_d mL_buy 3 (.iload_n 1) 1 4 := ⟨by decide +kernel, rfl⟩
theorem dL_buy_4 : ex_d mL_buy 4 (.iload_n 2) 1 5 := ⟨by decide +kernel, rfl⟩
theorem dL_buy_5 : ex_d mL_buy 5 (.invokevirtual 15) 3 8 := ⟨by decide +kernel, rfl⟩
theorem dL_buy_8 : ex_d mL_buy 8 (.i2l) 1 9 := ⟨by decide +kernel, rfl⟩
theorem dL_buy_9 : ex_d mL_buy 9 (.lastore) 1 10 := ⟨by decide +kernel, rfl⟩
theorem dL_buy_10 : ex_d mL_buy 10 (.goto 15) 3 13 := ⟨by decide +kernel, rfl⟩
theorem dL_buy_13 : ex_d mL_buy 13 (.astore 4) 2 15 := ⟨by decide +kernel, rfl⟩
theorem dL_buy_15 : ex_d mL_buy 15 (.iconst 1) 1 16 := ⟨by decide +kernel, rfl⟩
theorem dL_buy_16 : ex_d mL_buy 16 (.ireturn) 1 17 := ⟨by decide +kernel, rfl⟩
theorem dL_buy_17 : ex_d mL_buy 17 (.astore 4) 2 19 := ⟨by decide +kernel, rfl⟩
theorem dL_buy_19 : ex_d mL_buy 19 (.iconst 2) 1 20 := ⟨by decide +kernel, rfl⟩
theorem dL_buy_20 : ex_d mL_buy 20 (.ireturn) 1 21 := ⟨by decide +kernel, rfl⟩
theorem dL_buy_21 : ex_d mL_buy 21 (.astore 4) 2 23 := ⟨by decide +kernel, rfl⟩
theorem dL_buy_23 : ex_d mL_buy 23 (.iconst 3) 1 24 := ⟨by decide +kernel, rfl⟩
theorem dL_buy_24 : ex_d mL_buy 24 (.ireturn) 1 25 := ⟨by decide +kernel, rfl⟩
theorem dL_buy_25 : ex_d mL_buy 25 (.iconst 0) 1 26 := ⟨by decide +kernel, rfl⟩
theorem dL_buy_26 : ex_d mL_buy 26 (.ireturn) 1 27 := ⟨by decide +kernel, rfl⟩
theorem dL_give_0 : ex_d mL_give 0 (.aload 5) 2 2 := ⟨by decide +kernel, rfl⟩
theorem dL_give_2 : ex_d mL_give 2 (.iconst 0) 1 3 := ⟨by decide +kernel, rfl⟩
theorem dL_give_3 : ex_d mL_give 3 (.aload_n 0) 1 4 := ⟨by decide +kernel, rfl⟩
theorem dL_give_4 : ex_d mL_give 4 (.iload_n 1) 1 5 := ⟨by decide +kernel, rfl⟩
theorem dL_give_5 : ex_d mL_give 5 (.iload_n 2) 1 6 := ⟨by decide +kernel, rfl⟩
theorem dL_give_6 : ex_d mL_give 6 (.iload_n 3) 1 7 := ⟨by decide +kernel, rfl⟩
theorem dL_give_7 : ex_d mL_give 7 (.iload 4) 2 9 := ⟨by decide +kernel, rfl⟩
theorem dL_give_9 : ex_d mL_give 9 (.invokevirtual 23) 3 12 := ⟨by decide +kernel, rfl⟩
theorem dL_give_12 : ex_d mL_give 12 (.i2l) 1 13 := ⟨by decide +kernel, rfl⟩
theorem dL_give_13 : ex_d mL_give 13 (.lastore) 1 14 := ⟨by decide +kernel, rfl⟩
theorem dL_give_14 : ex_d mL_give 14 (.goto 15) 3 17 := ⟨by decide +kernel, rfl⟩
theorem dL_give_17 : ex_d mL_give 17 (.astore 6) 2 19 := ⟨by decide +kernel, rfl⟩
theorem dL_give_19 : ex_d mL_give 19 (.iconst 1) 1 20 := ⟨by decide +kernel, rfl⟩
theorem dL_give_20 : ex_d mL_give 20 (.ireturn) 1 21 := ⟨by decide +kernel, rfl⟩
theorem dL_give_21 : ex_d mL_give 21 (.astore 6) 2 23 := ⟨by decide +kernel, rfl⟩
theorem dL_give_23 : ex_d mL_give 23 (.iconst 2) 1 24 := ⟨by decide +kernel, rfl⟩
theorem dL_give_24 : ex_d mL_give 24 (.ireturn) 1 25 := ⟨by decide +kernel, rfl⟩
theorem dL_give_25 : ex_d mL_give 25 (.astore 6) 2 27 := ⟨by decide +kernel, rfl⟩
theorem dL_give_27 : ex_d mL_give 27 (.iconst 3) 1 28 := ⟨by decide +kernel, rfl⟩
theorem dL_give_28 : ex_d mL_give 28 (.ireturn) 1 29 := ⟨by decide +kernel, rfl⟩
theorem dL_give_29 : ex_d mL_give 29 (.iconst 0) 1 30 := ⟨by decide +kernel, rfl⟩
theorem dL_give_30 : ex_d mL_give 30 (.ireturn) 1 31 := ⟨by decide +kernel, rfl⟩
theorem dL_cash_0 : ex_d mL_cash 0 (.aload 4) 2 2 := ⟨by decide +kernel, rfl⟩
theorem dL_cash_2 : ex_d mL_cash 2 (.iconst 0) 1 3 := ⟨by decide +kernel, rfl⟩
theorem dL_cash_3 : ex_d mL_cash 3 (.aload_n 0) 1 4 := ⟨by decide +kernel, rfl⟩
theorem dL_cash_4 : ex_d mL_cash 4 (.iload_n 1) 1 5 := ⟨by decide +kernel, rfl⟩
theorem dL_cash_5 : ex_d mL_cash 5 (.iload_n 2) 1 6 := ⟨by decide +kernel, rfl⟩
theorem dL_cash_6 : ex_d mL_cash 6 (.iload_n 3) 1 7 := ⟨by decide +kernel, rfl⟩
theorem dL_cash_7 : ex_d mL_cash 7 (.invokevirtual 27) 3 10 := ⟨by decide +kernel, rfl⟩
theorem dL_cash_10 : ex_d mL_cash 10 (.i2l) 1 11 := ⟨by decide +kernel, rfl⟩
theorem dL_cash_11 : ex_d mL_cash 11 (.lastore) 1 12 := ⟨by decide +kernel, rfl⟩
theorem dL_cash_12 : ex_d mL_cash 12 (.goto 11) 3 15 := ⟨by decide +kernel, rfl⟩
theorem dL_cash_15 : ex_d mL_cash 15 (.astore 5) 2 17 := ⟨by decide +kernel, rfl⟩
theorem dL_cash_17 : ex_d mL_cash 17 (.iconst 1) 1 18 := ⟨by decide +kernel, rfl⟩
theorem dL_cash_18 : ex_d mL_cash 18 (.ireturn) 1 19 := ⟨by decide +kernel, rfl⟩
theorem dL_cash_19 : ex_d mL_cash 19 (.astore 5) 2 21 := ⟨by decide +kernel, rfl⟩
theorem dL_cash_21 : ex_d mL_cash 21 (.iconst 2) 1 22 := ⟨by decide +kernel, rfl⟩
theorem dL_cash_22 : ex_d mL_cash 22 (.ireturn) 1 23 := ⟨by decide +kernel, rfl⟩
theorem dL_cash_23 : ex_d mL_cash 23 (.iconst 0) 1 24 := ⟨by decide +kernel, rfl⟩
theorem dL_cash_24 : ex_d mL_cash 24 (.ireturn) 1 25 := ⟨by decide +kernel, rfl⟩
theorem dL_died_0 : ex_d mL_died 0 (.aload_n 3) 1 1 := ⟨by decide +kernel, rfl⟩
theorem dL_died_1 : ex_d mL_died 1 (.iconst 0) 1 2 := ⟨by decide +kernel, rfl⟩
theorem dL_died_2 : ex_d mL_died 2 (.aload_n 0) 1 3 := ⟨by decide +kernel, rfl⟩
theorem dL_died_3 : ex_d mL_died 3 (.iload_n 1) 1 4 := ⟨by decide +kernel, rfl⟩
theorem dL_died_4 : ex_d mL_died 4 (.iload_n 2) 1 5 := ⟨by decide +kernel, rfl⟩
theorem dL_died_5 : ex_d mL_died 5 (.invokevirtual 31) 3 8 := ⟨by decide +kernel, rfl⟩
theorem dL_died_8 : ex_d mL_died 8 (.i2l) 1 9 := ⟨by decide +kernel, rfl⟩
theorem dL_died_9 : ex_d mL_died 9 (.lastore) 1 10 := ⟨by decide +kernel, rfl⟩
theorem dL_died_10 : ex_d mL_died 10 (.goto 15) 3 13 := ⟨by decide +kernel, rfl⟩
theorem dL_died_13 : ex_d mL_died 13 (.astore 4) 2 15 := ⟨by decide +kernel, rfl⟩
theorem dL_died_15 : ex_d mL_died 15 (.iconst 1) 1 16 := ⟨by decide +kernel, rfl⟩
theorem dL_died_16 : ex_d mL_died 16 (.ireturn) 1 17 := ⟨by decide +kernel, rfl⟩
theorem dL_died_17 : ex_d mL_died 17 (.astore 4) 2 19 := ⟨by decide +kernel, rfl⟩
theorem dL_died_19 : ex_d mL_died 19 (.iconst 2) 1 20 := ⟨by decide +kernel, rfl⟩
theorem dL_died_20 : ex_d mL_died 20 (.ireturn) 1 21 := ⟨by decide +kernel, rfl⟩
theorem dL_died_21 : ex_d mL_died 21 (.astore 4) 2 23 := ⟨by decide +kernel, rfl⟩
theorem dL_died_23 : ex_d mL_died 23 (.iconst 3) 1 24 := ⟨by decide +kernel, rfl⟩
theorem dL_died_24 : ex_d mL_died 24 (.ireturn) 1 25 := ⟨by decide +kernel, rfl⟩
theorem dL_died_25 : ex_d mL_died 25 (.iconst 0) 1 26 := ⟨by decide +kernel, rfl⟩
theorem dL_died_26 : ex_d mL_died 26 (.ireturn) 1 27 := ⟨by decide +kernel, rfl⟩
theorem dL_has_0 : ex_d mL_has 0 (.aload_n 2) 1 1 := ⟨by decide +kernel, rfl⟩
theorem dL_has_1 : ex_d mL_has 1 (.iconst 0) 1 2 := ⟨by decide +kernel, rfl⟩
theorem dL_has_2 : ex_d mL_has 2 (.aload_n 0) 1 3 := ⟨by decide +kernel, rfl⟩
theorem dL_has_3 : ex_d mL_has 3 (.iload_n 1) 1 4 := ⟨by decide +kernel, rfl⟩
theorem dL_has_4 : ex_d mL_has 4 (.invokevirtual 34) 3 7 := ⟨by decide +kernel, rfl⟩
theorem dL_has_7 : ex_d mL_has 7 (.i2l) 1 8 := ⟨by decide +kernel, rfl⟩
theorem dL_has_8 : ex_d mL_has 8 (.lastore) 1 9 := ⟨by decide +kernel, rfl⟩
theorem dL_has_9 : ex_d mL_has 9 (.goto 6) 3 12 := ⟨by decide +kernel, rfl⟩
theorem dL_has_12 : ex_d mL_has 12 (.astore_n 3) 1 13 := ⟨by decide +kernel, rfl⟩
theorem dL_has_13 : ex_d mL_has 13 (.iconst 1) 1 14 := ⟨by decide +kernel, rfl⟩
theorem dL_has_14 : ex_d mL_has 14 (.ireturn) 1 15 := ⟨by decide +kernel, rfl⟩
theorem dL_has_15 : ex_d mL_has 15 (.iconst 0) 1 16 := ⟨by decide +kernel, rfl⟩
theorem dL_has_16 : ex_d mL_has 16 (.ireturn) 1 17 := ⟨by decide +kernel, rfl⟩
theorem dL_line_0 : ex_d mL_line 0 (.aload_n 3) 1 1 := ⟨by decide +kernel, rfl⟩
theorem dL_line_1 : ex_d mL_line 1 (.iconst 0) 1 2 := ⟨by decide +kernel, rfl⟩
theorem dL_line_2 : ex_d mL_line 2 (.aload_n 0) 1 3 := ⟨by decide +kernel, rfl⟩
theorem dL_line_3 : ex_d mL_line 3 (.iload_n 1) 1 4 := ⟨by decide +kernel, rfl⟩
theorem dL_line_4 : ex_d mL_line 4 (.iload_n 2) 1 5 := ⟨by decide +kernel, rfl⟩
theorem dL_line_5 : ex_d mL_line 5 (.invokevirtual 38) 3 8 := ⟨by decide +kernel, rfl⟩
theorem dL_line_8 : ex_d mL_line 8 (.i2l) 1 9 := ⟨by decide +kernel, rfl⟩
theorem dL_line_9 : ex_d mL_line 9 (.lastore) 1 10 := ⟨by decide +kernel, rfl⟩
theorem dL_line_10 : ex_d mL_line 10 (.goto 11) 3 13 := ⟨by decide +kernel, rfl⟩
theorem dL_line_13 : ex_d mL_line 13 (.astore 4) 2 15 := ⟨by decide +kernel, rfl⟩
theorem dL_line_15 : ex_d mL_line 15 (.iconst 1) 1 16 := ⟨by decide +kernel, rfl⟩
theorem dL_line_16 : ex_d mL_line 16 (.ireturn) 1 17 := ⟨by decide +kernel, rfl⟩
theorem dL_line_17 : ex_d mL_line 17 (.astore 4) 2 19 := ⟨by decide +kernel, rfl⟩
theorem dL_line_19 : ex_d mL_line 19 (.iconst 2) 1 20 := ⟨by decide +kernel, rfl⟩
theorem dL_line_20 : ex_d mL_line 20 (.ireturn) 1 21 := ⟨by decide +kernel, rfl⟩
theorem dL_line_21 : ex_d mL_line 21 (.iconst 0) 1 22 := ⟨by decide +kernel, rfl⟩
theorem dL_line_22 : ex_d mL_line 22 (.ireturn) 1 23 := ⟨by decide +kernel, rfl⟩
theorem dL_wait_0 : ex_d mL_wait 0 (.aload_n 2) 1 1 := ⟨by decide +kernel, rfl⟩
theorem dL_wait_1 : ex_d mL_wait 1 (.iconst 0) 1 2 := ⟨by decide +kernel, rfl⟩
theorem dL_wait_2 : ex_d mL_wait 2 (.aload_n 0) 1 3 := ⟨by decide +kernel, rfl⟩
theorem dL_wait_3 : ex_d mL_wait 3 (.iload_n 1) 1 4 := ⟨by decide +kernel, rfl⟩
theorem dL_wait_4 : ex_d mL_wait 4 (.invokevirtual 41) 3 7 := ⟨by decide +kernel, rfl⟩
theorem dL_wait_7 : ex_d mL_wait 7 (.i2l) 1 8 := ⟨by decide +kernel, rfl⟩
theorem dL_wait_8 : ex_d mL_wait 8 (.lastore) 1 9 := ⟨by decide +kernel, rfl⟩
theorem dL_wait_9 : ex_d mL_wait 9 (.goto 6) 3 12 := ⟨by decide +kernel, rfl⟩
theorem dL_wait_12 : ex_d mL_wait 12 (.astore_n 3) 1 13 := ⟨by decide +kernel, rfl⟩
theorem dL_wait_13 : ex_d mL_wait 13 (.iconst 1) 1 14 := ⟨by decide +kernel, rfl⟩
theorem dL_wait_14 : ex_d mL_wait 14 (.ireturn) 1 15 := ⟨by decide +kernel, rfl⟩
theorem dL_wait_15 : ex_d mL_wait 15 (.iconst 0) 1 16 := ⟨by decide +kernel, rfl⟩
theorem dL_wait_16 : ex_d mL_wait 16 (.ireturn) 1 17 := ⟨by decide +kernel, rfl⟩
theorem dL_rule_0 : ex_d mL_rule 0 (.aload_n 3) 1 1 := ⟨by decide +kernel, rfl⟩
theorem dL_rule_1 : ex_d mL_rule 1 (.iconst 0) 1 2 := ⟨by decide +kernel, rfl⟩
theorem dL_rule_2 : ex_d mL_rule 2 (.aload_n 0) 1 3 := ⟨by decide +kernel, rfl⟩
theorem dL_rule_3 : ex_d mL_rule 3 (.iload_n 1) 1 4 := ⟨by decide +kernel, rfl⟩
theorem dL_rule_4 : ex_d mL_rule 4 (.iload_n 2) 1 5 := ⟨by decide +kernel, rfl⟩
theorem dL_rule_5 : ex_d mL_rule 5 (.invokevirtual 44) 3 8 := ⟨by decide +kernel, rfl⟩
theorem dL_rule_8 : ex_d mL_rule 8 (.i2l) 1 9 := ⟨by decide +kernel, rfl⟩
theorem dL_rule_9 : ex_d mL_rule 9 (.lastore) 1 10 := ⟨by decide +kernel, rfl⟩
theorem dL_rule_10 : ex_d mL_rule 10 (.goto 11) 3 13 := ⟨by decide +kernel, rfl⟩
theorem dL_rule_13 : ex_d mL_rule 13 (.astore 4) 2 15 := ⟨by decide +kernel, rfl⟩
theorem dL_rule_15 : ex_d mL_rule 15 (.iconst 1) 1 16 := ⟨by decide +kernel, rfl⟩
theorem dL_rule_16 : ex_d mL_rule 16 (.ireturn) 1 17 := ⟨by decide +kernel, rfl⟩
theorem dL_rule_17 : ex_d mL_rule 17 (.astore 4) 2 19 := ⟨by decide +kernel, rfl⟩
theorem dL_rule_19 : ex_d mL_rule 19 (.iconst 2) 1 20 := ⟨by decide +kernel, rfl⟩
theorem dL_rule_20 : ex_d mL_rule 20 (.ireturn) 1 21 := ⟨by decide +kernel, rfl⟩
theorem dL_rule_21 : ex_d mL_rule 21 (.iconst 0) 1 22 := ⟨by decide +kernel, rfl⟩
theorem dL_rule_22 : ex_d mL_rule 22 (.ireturn) 1 23 := ⟨by decide +kernel, rfl⟩
theorem dL_drawn_0 : ex_d mL_drawn 0 (.aload_n 3) 1 1 := ⟨by decide +kernel, rfl⟩
theorem dL_drawn_1 : ex_d mL_drawn 1 (.iconst 0) 1 2 := ⟨by decide +kernel, rfl⟩
theorem dL_drawn_2 : ex_d mL_drawn 2 (.aload_n 0) 1 3 := ⟨by decide +kernel, rfl⟩
theorem dL_drawn_3 : ex_d mL_drawn 3 (.iload_n 1) 1 4 := ⟨by decide +kernel, rfl⟩
theorem dL_drawn_4 : ex_d mL_drawn 4 (.iload_n 2) 1 5 := ⟨by decide +kernel, rfl⟩
theorem dL_drawn_5 : ex_d mL_drawn 5 (.invokevirtual 47) 3 8 := ⟨by decide +kernel, rfl⟩
theorem dL_drawn_8 : ex_d mL_drawn 8 (.lastore) 1 9 := ⟨by decide +kernel, rfl⟩
theorem dL_drawn_9 : ex_d mL_drawn 9 (.goto 11) 3 12 := ⟨by decide +kernel, rfl⟩
theorem dL_drawn_12 : ex_d mL_drawn 12 (.astore 4) 2 14 := ⟨by decide +kernel, rfl⟩
theorem dL_drawn_14 : ex_d mL_drawn 14 (.iconst 1) 1 15 := ⟨by decide +kernel, rfl⟩
theorem dL_drawn_15 : ex_d mL_drawn 15 (.ireturn) 1 16 := ⟨by decide +kernel, rfl⟩
theorem dL_drawn_16 : ex_d mL_drawn 16 (.astore 4) 2 18 := ⟨by decide +kernel, rfl⟩
theorem dL_drawn_18 : ex_d mL_drawn 18 (.iconst 2) 1 19 := ⟨by decide +kernel, rfl⟩
theorem dL_drawn_19 : ex_d mL_drawn 19 (.ireturn) 1 20 := ⟨by decide +kernel, rfl⟩
theorem dL_drawn_20 : ex_d mL_drawn 20 (.iconst 0) 1 21 := ⟨by decide +kernel, rfl⟩
theorem dL_drawn_21 : ex_d mL_drawn 21 (.ireturn) 1 22 := ⟨by decide +kernel, rfl⟩
theorem dL_win_0 : ex_d mL_win 0 (.aload_n 3) 1 1 := ⟨by decide +kernel, rfl⟩
theorem dL_win_1 : ex_d mL_win 1 (.iconst 0) 1 2 := ⟨by decide +kernel, rfl⟩
theorem dL_win_2 : ex_d mL_win 2 (.aload_n 0) 1 3 := ⟨by decide +kernel, rfl⟩
theorem dL_win_3 : ex_d mL_win 3 (.iload_n 1) 1 4 := ⟨by decide +kernel, rfl⟩
theorem dL_win_4 : ex_d mL_win 4 (.iload_n 2) 1 5 := ⟨by decide +kernel, rfl⟩
theorem dL_win_5 : ex_d mL_win 5 (.invokevirtual 51) 3 8 := ⟨by decide +kernel, rfl⟩
theorem dL_win_8 : ex_d mL_win 8 (.i2l) 1 9 := ⟨by decide +kernel, rfl⟩
theorem dL_win_9 : ex_d mL_win 9 (.lastore) 1 10 := ⟨by decide +kernel, rfl⟩
theorem dL_win_10 : ex_d mL_win 10 (.goto 11) 3 13 := ⟨by decide +kernel, rfl⟩
theorem dL_win_13 : ex_d mL_win 13 (.astore 4) 2 15 := ⟨by decide +kernel, rfl⟩
theorem dL_win_15 : ex_d mL_win 15 (.iconst 1) 1 16 := ⟨by decide +kernel, rfl⟩
theorem dL_win_16 : ex_d mL_win 16 (.ireturn) 1 17 := ⟨by decide +kernel, rfl⟩
theorem dL_win_17 : ex_d mL_win 17 (.astore 4) 2 19 := ⟨by decide +kernel, rfl⟩
theorem dL_win_19 : ex_d mL_win 19 (.iconst 2) 1 20 := ⟨by decide +kernel, rfl⟩
theorem dL_win_20 : ex_d mL_win 20 (.ireturn) 1 21 := ⟨by decide +kernel, rfl⟩
theorem dL_win_21 : ex_d mL_win 21 (.iconst 0) 1 22 := ⟨by decide +kernel, rfl⟩
theorem dL_win_22 : ex_d mL_win 22 (.ireturn) 1 23 := ⟨by decide +kernel, rfl⟩
theorem dL_claim_0 : ex_d mL_claim 0 (.aload_n 2) 1 1 := ⟨by decide +kernel, rfl⟩
theorem dL_claim_1 : ex_d mL_claim 1 (.iconst 0) 1 2 := ⟨by decide +kernel, rfl⟩
theorem dL_claim_2 : ex_d mL_claim 2 (.aload_n 0) 1 3 := ⟨by decide +kernel, rfl⟩
theorem dL_claim_3 : ex_d mL_claim 3 (.iload_n 1) 1 4 := ⟨by decide +kernel, rfl⟩
theorem dL_claim_4 : ex_d mL_claim 4 (.invokevirtual 54) 3 7 := ⟨by decide +kernel, rfl⟩
theorem dL_claim_7 : ex_d mL_claim 7 (.i2l) 1 8 := ⟨by decide +kernel, rfl⟩
theorem dL_claim_8 : ex_d mL_claim 8 (.lastore) 1 9 := ⟨by decide +kernel, rfl⟩
theorem dL_claim_9 : ex_d mL_claim 9 (.goto 6) 3 12 := ⟨by decide +kernel, rfl⟩
theorem dL_claim_12 : ex_d mL_claim 12 (.astore_n 3) 1 13 := ⟨by decide +kernel, rfl⟩
theorem dL_claim_13 : ex_d mL_claim 13 (.iconst 1) 1 14 := ⟨by decide +kernel, rfl⟩
theorem dL_claim_14 : ex_d mL_claim 14 (.ireturn) 1 15 := ⟨by decide +kernel, rfl⟩
theorem dL_claim_15 : ex_d mL_claim 15 (.iconst 0) 1 16 := ⟨by decide +kernel, rfl⟩
theorem dL_claim_16 : ex_d mL_claim 16 (.ireturn) 1 17 := ⟨by decide +kernel, rfl⟩
theorem dL_paid_0 : ex_d mL_paid 0 (.aload_n 2) 1 1 := ⟨by decide +kernel, rfl⟩
theorem dL_paid_1 : ex_d mL_paid 1 (.iconst 0) 1 2 := ⟨by decide +kernel, rfl⟩
theorem dL_paid_2 : ex_d mL_paid 2 (.aload_n 0) 1 3 := ⟨by decide +kernel, rfl⟩
theorem dL_paid_3 : ex_d mL_paid 3 (.iload_n 1) 1 4 := ⟨by decide +kernel, rfl⟩
theorem dL_paid_4 : ex_d mL_paid 4 (.invokevirtual 57) 3 7 := ⟨by decide +kernel, rfl⟩
theorem dL_paid_7 : ex_d mL_paid 7 (.lastore) 1 8 := ⟨by decide +kernel, rfl⟩
theorem dL_paid_8 : ex_d mL_paid 8 (.goto 6) 3 11 := ⟨by decide +kernel, rfl⟩
theorem dL_paid_11 : ex_d mL_paid 11 (.astore_n 3) 1 12 := ⟨by decide +kernel, rfl⟩
theorem dL_paid_12 : ex_d mL_paid 12 (.iconst 1) 1 13 := ⟨by decide +kernel, rfl⟩
theorem dL_paid_13 : ex_d mL_paid 13 (.ireturn) 1 14 := ⟨by decide +kernel, rfl⟩
theorem dL_paid_14 : ex_d mL_paid 14 (.iconst 0) 1 15 := ⟨by decide +kernel, rfl⟩
theorem dL_paid_15 : ex_d mL_paid 15 (.ireturn) 1 16 := ⟨by decide +kernel, rfl⟩
theorem dL_law_0 : ex_d mL_law 0 (.new 8) 3 3 := ⟨by decide +kernel, rfl⟩
theorem dL_law_3 : ex_d mL_law 3 (.dup) 1 4 := ⟨by decide +kernel, rfl⟩
theorem dL_law_4 : ex_d mL_law 4 (.invokespecial 61) 3 7 := ⟨by decide +kernel, rfl⟩
theorem dL_law_7 : ex_d mL_law 7 (.astore_n 1) 1 8 := ⟨by decide +kernel, rfl⟩
theorem dL_law_8 : ex_d mL_law 8 (.new 62) 3 11 := ⟨by decide +kernel, rfl⟩
theorem dL_law_11 : ex_d mL_law 11 (.dup) 1 12 := ⟨by decide +kernel, rfl⟩
theorem dL_law_12 : ex_d mL_law 12 (.invokespecial 64) 3 15 := ⟨by decide +kernel, rfl⟩
theorem dL_law_15 : ex_d mL_law 15 (.astore_n 2) 1 16 := ⟨by decide +kernel, rfl⟩
theorem dL_law_16 : ex_d mL_law 16 (.iconst 1) 1 17 := ⟨by decide +kernel, rfl⟩
theorem dL_law_17 : ex_d mL_law 17 (.newarray .long) 2 19 := ⟨by decide +kernel, rfl⟩
theorem dL_law_19 : ex_d mL_law 19 (.astore_n 3) 1 20 := ⟨by decide +kernel, rfl⟩
theorem dL_law_20 : ex_d mL_law 20 (.iconst 0) 1 21 := ⟨by decide +kernel, rfl⟩
theorem dL_law_21 : ex_d mL_law 21 (.istore 4) 2 23 := ⟨by decide +kernel, rfl⟩
theorem dL_law_23 : ex_d mL_law 23 (.iload 4) 2 25 := ⟨by decide +kernel, rfl⟩
theorem dL_law_25 : ex_d mL_law 25 (.aload_n 0) 1 26 := ⟨by decide +kernel, rfl⟩
theorem dL_law_26 : ex_d mL_law 26 (.arraylength) 1 27 := ⟨by decide +kernel, rfl⟩
theorem dL_law_27 : ex_d mL_law 27 (.bipush 6) 2 29 := ⟨by decide +kernel, rfl⟩
theorem dL_law_29 : ex_d mL_law 29 (.isub) 1 30 := ⟨by decide +kernel, rfl⟩
theorem dL_law_30 : ex_d mL_law 30 (.if_icmp .gt 1187) 3 33 := ⟨by decide +kernel, rfl⟩
theorem dL_law_33 : ex_d mL_law 33 (.aload_n 0) 1 34 := ⟨by decide +kernel, rfl⟩
theorem dL_law_34 : ex_d mL_law 34 (.iload 4) 2 36 := ⟨by decide +kernel, rfl⟩
theorem dL_law_36 : ex_d mL_law 36 (.iaload) 1 37 := ⟨by decide +kernel, rfl⟩
theorem dL_law_37 : ex_d mL_law 37 (.bipush 31) 2 39 := ⟨by decide +kernel, rfl⟩
theorem dL_law_39 : ex_d mL_law 39 (.iand) 1 40 := ⟨by decide +kernel, rfl⟩
theorem dL_law_40 : ex_d mL_law 40 (.tableswitch 1171 0 20 #[100, 144, 212, 304, 384, 452, 489, 545, 613, 669, 742, 810, 823, 848, 873, 886, 953, 1021, 1077, 1132, 1146]) 100 140 := ⟨by decide +kernel, rfl⟩
theorem dL_law_140 : ex_d mL_law 140 (.aload_n 1) 1 141 := ⟨by decide +kernel, rfl⟩
theorem dL_law_141 : ex_d mL_law 141 (.aload_n 3) 1 142 := ⟨by decide +kernel, rfl⟩
theorem dL_law_142 : ex_d mL_law 142 (.invokestatic 65) 3 145 := ⟨by decide +kernel, rfl⟩
theorem dL_law_145 : ex_d mL_law 145 (.istore 5) 2 147 := ⟨by decide +kernel, rfl⟩
theorem dL_law_147 : ex_d mL_law 147 (.aload_n 2) 1 148 := ⟨by decide +kernel, rfl⟩
theorem dL_law_148 : ex_d mL_law 148 (.invokevirtual 70) 3 151 := ⟨by decide +kernel, rfl⟩
theorem dL_law_151 : ex_d mL_law 151 (.istore 6) 2 153 := ⟨by decide +kernel, rfl⟩
theorem dL_law_153 : ex_d mL_law 153 (.aload_n 2) 1 154 := ⟨by decide +kernel, rfl⟩
theorem dL_law_154 : ex_d mL_law 154 (.invokevirtual 71) 3 157 := ⟨by decide +kernel, rfl⟩
theorem dL_law_157 : ex_d mL_law 157 (.iload 5) 2 159 := ⟨by decide +kernel, rfl⟩
theorem dL_law_159 : ex_d mL_law 159 (.if_icmp .eq 5) 3 162 := ⟨by decide +kernel, rfl⟩
theorem dL_law_162 : ex_d mL_law 162 (.iconst 0) 1 163 := ⟨by decide +kernel, rfl⟩
theorem dL_law_163 : ex_d mL_law 163 (.ireturn) 1 164 := ⟨by decide +kernel, rfl⟩
theorem dL_law_164 : ex_d mL_law 164 (.iload 5) 2 166 := ⟨by decide +kernel, rfl⟩
theorem dL_law_166 : ex_d mL_law 166 (.ifCond .ne 15) 3 169 := ⟨by decide +kernel, rfl⟩
theorem dL_law_169 : ex_d mL_law 169 (.aload_n 3) 1 170 := ⟨by decide +kernel, rfl⟩
theorem dL_law_170 : ex_d mL_law 170 (.iconst 0) 1 171 := ⟨by decide +kernel, rfl⟩
theorem dL_law_171 : ex_d mL_law 171 (.laload) 1 172 := ⟨by decide +kernel, rfl⟩
theorem dL_law_172 : ex_d mL_law 172 (.iload 6) 2 174 := ⟨by decide +kernel, rfl⟩
theorem dL_law_174 : ex_d mL_law 174 (.i2l) 1 175 := ⟨by decide +kernel, rfl⟩
theorem dL_law_175 : ex_d mL_law 175 (.lcmp) 1 176 := ⟨by decide +kernel, rfl⟩
theorem dL_law_176 : ex_d mL_law 176 (.ifCond .eq 5) 3 179 := ⟨by decide +kernel, rfl⟩
theorem dL_law_179 : ex_d mL_law 179 (.iconst 0) 1 180 := ⟨by decide +kernel, rfl⟩
theorem dL_law_180 : ex_d mL_law 180 (.ireturn) 1 181 := ⟨by decide +kernel, rfl⟩
theorem dL_law_181 : ex_d mL_law 181 (.goto 1030) 3 184 := ⟨by decide +kernel, rfl⟩
theorem dL_law_184 : ex_d mL_law 184 (.aload_n 1) 1 185 := ⟨by decide +kernel, rfl⟩
theorem dL_law_185 : ex_d mL_law 185 (.aload_n 0) 1 186 := ⟨by decide +kernel, rfl⟩
theorem dL_law_186 : ex_d mL_law 186 (.iload 4) 2 188 := ⟨by decide +kernel, rfl⟩
theorem dL_law_188 : ex_d mL_law 188 (.iconst 1) 1 189 := ⟨by decide +kernel, rfl⟩
theorem dL_law_189 : ex_d mL_law 189 (.iadd) 1 190 := ⟨by decide +kernel, rfl⟩
theorem dL_law_190 : ex_d mL_law 190 (.iaload) 1 191 := ⟨by decide +kernel, rfl⟩
theorem dL_law_191 : ex_d mL_law 191 (.aload_n 0) 1 192 := ⟨by decide +kernel, rfl⟩
theorem dL_law_192 : ex_d mL_law 192 (.iload 4) 2 194 := ⟨by decide +kernel, rfl⟩
theorem dL_law_194 : ex_d mL_law 194 (.iconst 2) 1 195 := ⟨by decide +kernel, rfl⟩
theorem dL_law_195 : ex_d mL_law 195 (.iadd) 1 196 := ⟨by decide +kernel, rfl⟩
theorem dL_law_196 : ex_d mL_law 196 (.iaload) 1 197 := ⟨by decide +kernel, rfl⟩
theorem dL_law_197 : ex_d mL_law 197 (.aload_n 3) 1 198 := ⟨by decide +kernel, rfl⟩
theorem dL_law_198 : ex_d mL_law 198 (.invokestatic 74) 3 201 := ⟨by decide +kernel, rfl⟩
theorem dL_law_201 : ex_d mL_law 201 (.istore 5) 2 203 := ⟨by decide +kernel, rfl⟩
theorem dL_law_203 : ex_d mL_law 203 (.aload_n 2) 1 204 := ⟨by decide +kernel, rfl⟩
theorem dL_law_204 : ex_d mL_law 204 (.aload_n 0) 1 205 := ⟨by decide +kernel, rfl⟩
theorem dL_law_205 : ex_d mL_law 205 (.iload 4) 2 207 := ⟨by decide +kernel, rfl⟩
theorem dL_law_207 : ex_d mL_law 207 (.iconst 1) 1 208 := ⟨by decide +kernel, rfl⟩
theorem dL_law_208 : ex_d mL_law 208 (.iadd) 1 209 := ⟨by decide +kernel, rfl⟩
theorem dL_law_209 : ex_d mL_law 209 (.iaload) 1 210 := ⟨by decide +kernel, rfl⟩
theorem dL_law_210 : ex_d mL_law 210 (.aload_n 0) 1 211 := ⟨by decide +kernel, rfl⟩
theorem dL_law_211 : ex_d mL_law 211 (.iload 4) 2 213 := ⟨by decide +kernel, rfl⟩
theorem dL_law_213 : ex_d mL_law 213 (.iconst 2) 1 214 := ⟨by decide +kernel, rfl⟩
theorem dL_law_214 : ex_d mL_law 214 (.iadd) 1 215 := ⟨by decide +kernel, rfl⟩
theorem dL_law_215 : ex_d mL_law 215 (.iaload) 1 216 := ⟨by decide +kernel, rfl⟩
theorem dL_law_216 : ex_d mL_law 216 (.invokevirtual 77) 3 219 := ⟨by decide +kernel, rfl⟩
theorem dL_law_219 : ex_d mL_law 219 (.istore 6) 2 221 := ⟨by decide +kernel, rfl⟩
theorem dL_law_221 : ex_d mL_law 221 (.aload_n 2) 1 222 := ⟨by decide +kernel, rfl⟩
theorem dL_law_222 : ex_d mL_law 222 (.invokevirtual 71) 3 225 := ⟨by decide +kernel, rfl⟩
theorem dL_law_225 : ex_d mL_law 225 (.iload 5) 2 227 := ⟨by decide +kernel, rfl⟩
theorem dL_law_227 : ex_d mL_law 227 (.if_icmp .eq 5) 3 230 := ⟨by decide +kernel, rfl⟩
theorem dL_law_230 : ex_d mL_law 230 (.iconst 0) 1 231 := ⟨by decide +kernel, rfl⟩
theorem dL_law_231 : ex_d mL_law 231 (.ireturn) 1 232 := ⟨by decide +kernel, rfl⟩
theorem dL_law_232 : ex_d mL_law 232 (.iload 5) 2 234 := ⟨by decide +kernel, rfl⟩
theorem dL_law_234 : ex_d mL_law 234 (.ifCond .ne 15) 3 237 := ⟨by decide +kernel, rfl⟩
theorem dL_law_237 : ex_d mL_law 237 (.aload_n 3) 1 238 := ⟨by decide +kernel, rfl⟩
theorem dL_law_238 : ex_d mL_law 238 (.iconst 0) 1 239 := ⟨by decide +kernel, rfl⟩
theorem dL_law_239 : ex_d mL_law 239 (.laload) 1 240 := ⟨by decide +kernel, rfl⟩
theorem dL_law_240 : ex_d mL_law 240 (.iload 6) 2 242 := ⟨by decide +kernel, rfl⟩
theorem dL_law_242 : ex_d mL_law 242 (.i2l) 1 243 := ⟨by decide +kernel, rfl⟩
theorem dL_law_243 : ex_d mL_law 243 (.lcmp) 1 244 := ⟨by decide +kernel, rfl⟩
theorem dL_law_244 : ex_d mL_law 244 (.ifCond .eq 5) 3 247 := ⟨by decide +kernel, rfl⟩
theorem dL_law_247 : ex_d mL_law 247 (.iconst 0) 1 248 := ⟨by decide +kernel, rfl⟩
theorem dL_law_248 : ex_d mL_law 248 (.ireturn) 1 249 := ⟨by decide +kernel, rfl⟩
theorem dL_law_249 : ex_d mL_law 249 (.goto 962) 3 252 := ⟨by decide +kernel, rfl⟩
theorem dL_law_252 : ex_d mL_law 252 (.aload_n 1) 1 253 := ⟨by decide +kernel, rfl⟩
theorem dL_law_253 : ex_d mL_law 253 (.aload_n 0) 1 254 := ⟨by decide +kernel, rfl⟩
theorem dL_law_254 : ex_d mL_law 254 (.iload 4) 2 256 := ⟨by decide +kernel, rfl⟩
theorem dL_law_256 : ex_d mL_law 256 (.iconst 1) 1 257 := ⟨by decide +kernel, rfl⟩
theorem dL_law_257 : ex_d mL_law 257 (.iadd) 1 258 := ⟨by decide +kernel, rfl⟩
theorem dL_law_258 : ex_d mL_law 258 (.iaload) 1 259 := ⟨by decide +kernel, rfl⟩
theorem dL_law_259 : ex_d mL_law 259 (.aload_n 0) 1 260 := ⟨by decide +kernel, rfl⟩
theorem dL_law_260 : ex_d mL_law 260 (.iload 4) 2 262 := ⟨by decide +kernel, rfl⟩
theorem dL_law_262 : ex_d mL_law 262 (.iconst 2) 1 263 := ⟨by decide +kernel, rfl⟩
theorem dL_law_263 : ex_d mL_law 263 (.iadd) 1 264 := ⟨by decide +kernel, rfl⟩
theorem dL_law_264 : ex_d mL_law 264 (.iaload) 1 265 := ⟨by decide +kernel, rfl⟩
theorem dL_law_265 : ex_d mL_law 265 (.aload_n 0) 1 266 := ⟨by decide +kernel, rfl⟩
theorem dL_law_266 : ex_d mL_law 266 (.iload 4) 2 268 := ⟨by decide +kernel, rfl⟩
theorem dL_law_268 : ex_d mL_law 268 (.iconst 3) 1 269 := ⟨by decide +kernel, rfl⟩
theorem dL_law_269 : ex_d mL_law 269 (.iadd) 1 270 := ⟨by decide +kernel, rfl⟩
theorem dL_law_270 : ex_d mL_law 270 (.iaload) 1 271 := ⟨by decide +kernel, rfl⟩
theorem dL_law_271 : ex_d mL_law 271 (.aload_n 0) 1 272 := ⟨by decide +kernel, rfl⟩
theorem dL_law_272 : ex_d mL_law 272 (.iload 4) 2 274 := ⟨by decide +kernel, rfl⟩
theorem dL_law_274 : ex_d mL_law 274 (.iconst 4) 1 275 := ⟨by decide +kernel, rfl⟩
theorem dL_law_275 : ex_d mL_law 275 (.iadd) 1 276 := ⟨by decide +kernel, rfl⟩
theorem dL_law_276 : ex_d mL_law 276 (.iaload) 1 277 := ⟨by decide +kernel, rfl⟩
theorem dL_law_277 : ex_d mL_law 277 (.aload_n 3) 1 278 := ⟨by decide +kernel, rfl⟩
theorem dL_law_278 : ex_d mL_law 278 (.invokestatic 78) 3 281 := ⟨by decide +kernel, rfl⟩
theorem dL_law_281 : ex_d mL_law 281 (.istore 5) 2 283 := ⟨by decide +kernel, rfl⟩
theorem dL_law_283 : ex_d mL_law 283 (.aload_n 2) 1 284 := ⟨by decide +kernel, rfl⟩
theorem dL_law_284 : ex_d mL_law 284 (.aload_n 0) 1 285 := ⟨by decide +kernel, rfl⟩
theorem dL_law_285 : ex_d mL_law 285 (.iload 4) 2 287 := ⟨by decide +kernel, rfl⟩
theorem dL_law_287 : ex_d mL_law 287 (.iconst 1) 1 288 := ⟨by decide +kernel, rfl⟩
theorem dL_law_288 : ex_d mL_law 288 (.iadd) 1 289 := ⟨by decide +kernel, rfl⟩
theorem dL_law_289 : ex_d mL_law 289 (.iaload) 1 290 := ⟨by decide +kernel, rfl⟩
theorem dL_law_290 : ex_d mL_law 290 (.aload_n 0) 1 291 := ⟨by decide +kernel, rfl⟩
theorem dL_law_291 : ex_d mL_law 291 (.iload 4) 2 293 := ⟨by decide +kernel, rfl⟩
theorem dL_law_293 : ex_d mL_law 293 (.iconst 2) 1 294 := ⟨by decide +kernel, rfl⟩
theorem dL_law_294 : ex_d mL_law 294 (.iadd) 1 295 := ⟨by decide +kernel, rfl⟩
theorem dL_law_295 : ex_d mL_law 295 (.iaload) 1 296 := ⟨by decide +kernel, rfl⟩
theorem dL_law_296 : ex_d mL_law 296 (.aload_n 0) 1 297 := ⟨by decide +kernel, rfl⟩
theorem dL_law_297 : ex_d mL_law 297 (.iload 4) 2 299 := ⟨by decide +kernel, rfl⟩
theorem dL_law_299 : ex_d mL_law 299 (.iconst 3) 1 300 := ⟨by decide +kernel, rfl⟩
theorem dL_law_300 : ex_d mL_law 300 (.iadd) 1 301 := ⟨by decide +kernel, rfl⟩
theorem dL_law_301 : ex_d mL_law 301 (.iaload) 1 302 := ⟨by decide +kernel, rfl⟩
theorem dL_law_302 : ex_d mL_law 302 (.aload_n 0) 1 303 := ⟨by decide +kernel, rfl⟩
theorem dL_law_303 : ex_d mL_law 303 (.iload 4) 2 305 := ⟨by decide +kernel, rfl⟩
theorem dL_law_305 : ex_d mL_law 305 (.iconst 4) 1 306 := ⟨by decide +kernel, rfl⟩
theorem dL_law_306 : ex_d mL_law 306 (.iadd) 1 307 := ⟨by decide +kernel, rfl⟩
theorem dL_law_307 : ex_d mL_law 307 (.iaload) 1 308 := ⟨by decide +kernel, rfl⟩
theorem dL_law_308 : ex_d mL_law 308 (.invokevirtual 81) 3 311 := ⟨by decide +kernel, rfl⟩
theorem dL_law_311 : ex_d mL_law 311 (.istore 6) 2 313 := ⟨by decide +kernel, rfl⟩
theorem dL_law_313 : ex_d mL_law 313 (.aload_n 2) 1 314 := ⟨by decide +kernel, rfl⟩
theorem dL_law_314 : ex_d mL_law 314 (.invokevirtual 71) 3 317 := ⟨by decide +kernel, rfl⟩
theorem dL_law_317 : ex_d mL_law 317 (.iload 5) 2 319 := ⟨by decide +kernel, rfl⟩
theorem dL_law_319 : ex_d mL_law 319 (.if_icmp .eq 5) 3 322 := ⟨by decide +kernel, rfl⟩
theorem dL_law_322 : ex_d mL_law 322 (.iconst 0) 1 323 := ⟨by decide +kernel, rfl⟩
theorem dL_law_323 : ex_d mL_law 323 (.ireturn) 1 324 := ⟨by decide +kernel, rfl⟩
theorem dL_law_324 : ex_d mL_law 324 (.iload 5) 2 326 := ⟨by decide +kernel, rfl⟩
theorem dL_law_326 : ex_d mL_law 326 (.ifCond .ne 15) 3 329 := ⟨by decide +kernel, rfl⟩
theorem dL_law_329 : ex_d mL_law 329 (.aload_n 3) 1 330 := ⟨by decide +kernel, rfl⟩
theorem dL_law_330 : ex_d mL_law 330 (.iconst 0) 1 331 := ⟨by decide +kernel, rfl⟩
theorem dL_law_331 : ex_d mL_law 331 (.laload) 1 332 := ⟨by decide +kernel, rfl⟩
theorem dL_law_332 : ex_d mL_law 332 (.iload 6) 2 334 := ⟨by decide +kernel, rfl⟩
theorem dL_law_334 : ex_d mL_law 334 (.i2l) 1 335 := ⟨by decide +kernel, rfl⟩
theorem dL_law_335 : ex_d mL_law 335 (.lcmp) 1 336 := ⟨by decide +kernel, rfl⟩
theorem dL_law_336 : ex_d mL_law 336 (.ifCond .eq 5) 3 339 := ⟨by decide +kernel, rfl⟩
theorem dL_law_339 : ex_d mL_law 339 (.iconst 0) 1 340 := ⟨by decide +kernel, rfl⟩
theorem dL_law_340 : ex_d mL_law 340 (.ireturn) 1 341 := ⟨by decide +kernel, rfl⟩
theorem dL_law_341 : ex_d mL_law 341 (.goto 870) 3 344 := ⟨by decide +kernel, rfl⟩
theorem dL_law_344 : ex_d mL_law 344 (.aload_n 1) 1 345 := ⟨by decide +kernel, rfl⟩
theorem dL_law_345 : ex_d mL_law 345 (.aload_n 0) 1 346 := ⟨by decide +kernel, rfl⟩
theorem dL_law_346 : ex_d mL_law 346 (.iload 4) 2 348 := ⟨by decide +kernel, rfl⟩
theorem dL_law_348 : ex_d mL_law 348 (.iconst 1) 1 349 := ⟨by decide +kernel, rfl⟩
theorem dL_law_349 : ex_d mL_law 349 (.iadd) 1 350 := ⟨by decide +kernel, rfl⟩
theorem dL_law_350 : ex_d mL_law 350 (.iaload) 1 351 := ⟨by decide +kernel, rfl⟩
theorem dL_law_351 : ex_d mL_law 351 (.aload_n 0) 1 352 := ⟨by decide +kernel, rfl⟩
theorem dL_law_352 : ex_d mL_law 352 (.iload 4) 2 354 := ⟨by decide +kernel, rfl⟩
theorem dL_law_354 : ex_d mL_law 354 (.iconst 2) 1 355 := ⟨by decide +kernel, rfl⟩
theorem dL_law_355 : ex_d mL_law 355 (.iadd) 1 356 := ⟨by decide +kernel, rfl⟩
theorem dL_law_356 : ex_d mL_law 356 (.iaload) 1 357 := ⟨by decide +kernel, rfl⟩
theorem dL_law_357 : ex_d mL_law 357 (.aload_n 0) 1 358 := ⟨by decide +kernel, rfl⟩
theorem dL_law_358 : ex_d mL_law 358 (.iload 4) 2 360 := ⟨by decide +kernel, rfl⟩
theorem dL_law_360 : ex_d mL_law 360 (.iconst 3) 1 361 := ⟨by decide +kernel, rfl⟩
theorem dL_law_361 : ex_d mL_law 361 (.iadd) 1 362 := ⟨by decide +kernel, rfl⟩
theorem dL_law_362 : ex_d mL_law 362 (.iaload) 1 363 := ⟨by decide +kernel, rfl⟩
theorem dL_law_363 : ex_d mL_law 363 (.aload_n 3) 1 364 := ⟨by decide +kernel, rfl⟩
theorem dL_law_364 : ex_d mL_law 364 (.invokestatic 82) 3 367 := ⟨by decide +kernel, rfl⟩
theorem dL_law_367 : ex_d mL_law 367 (.istore 5) 2 369 := ⟨by decide +kernel, rfl⟩
theorem dL_law_369 : ex_d mL_law 369 (.aload_n 2) 1 370 := ⟨by decide +kernel, rfl⟩
theorem dL_law_370 : ex_d mL_law 370 (.aload_n 0) 1 371 := ⟨by decide +kernel, rfl⟩
theorem dL_law_371 : ex_d mL_law 371 (.iload 4) 2 373 := ⟨by decide +kernel, rfl⟩
theorem dL_law_373 : ex_d mL_law 373 (.iconst 1) 1 374 := ⟨by decide +kernel, rfl⟩
theorem dL_law_374 : ex_d mL_law 374 (.iadd) 1 375 := ⟨by decide +kernel, rfl⟩
theorem dL_law_375 : ex_d mL_law 375 (.iaload) 1 376 := ⟨by decide +kernel, rfl⟩
theorem dL_law_376 : ex_d mL_law 376 (.aload_n 0) 1 377 := ⟨by decide +kernel, rfl⟩
theorem dL_law_377 : ex_d mL_law 377 (.iload 4) 2 379 := ⟨by decide +kernel, rfl⟩
theorem dL_law_379 : ex_d mL_law 379 (.iconst 2) 1 380 := ⟨by decide +kernel, rfl⟩
theorem dL_law_380 : ex_d mL_law 380 (.iadd) 1 381 := ⟨by decide +kernel, rfl⟩
theorem dL_law_381 : ex_d mL_law 381 (.iaload) 1 382 := ⟨by decide +kernel, rfl⟩
theorem dL_law_382 : ex_d mL_law 382 (.aload_n 0) 1 383 := ⟨by decide +kernel, rfl⟩
theorem dL_law_383 : ex_d mL_law 383 (.iload 4) 2 385 := ⟨by decide +kernel, rfl⟩
theorem dL_law_385 : ex_d mL_law 385 (.iconst 3) 1 386 := ⟨by decide +kernel, rfl⟩
theorem dL_law_386 : ex_d mL_law 386 (.iadd) 1 387 := ⟨by decide +kernel, rfl⟩
theorem dL_law_387 : ex_d mL_law 387 (.iaload) 1 388 := ⟨by decide +kernel, rfl⟩
theorem dL_law_388 : ex_d mL_law 388 (.invokevirtual 85) 3 391 := ⟨by decide +kernel, rfl⟩
theorem dL_law_391 : ex_d mL_law 391 (.istore 6) 2 393 := ⟨by decide +kernel, rfl⟩
theorem dL_law_393 : ex_d mL_law 393 (.aload_n 2) 1 394 := ⟨by decide +kernel, rfl⟩
theorem dL_law_394 : ex_d mL_law 394 (.invokevirtual 71) 3 397 := ⟨by decide +kernel, rfl⟩
theorem dL_law_397 : ex_d mL_law 397 (.iload 5) 2 399 := ⟨by decide +kernel, rfl⟩
theorem dL_law_399 : ex_d mL_law 399 (.if_icmp .eq 5) 3 402 := ⟨by decide +kernel, rfl⟩
theorem dL_law_402 : ex_d mL_law 402 (.iconst 0) 1 403 := ⟨by decide +kernel, rfl⟩
theorem dL_law_403 : ex_d mL_law 403 (.ireturn) 1 404 := ⟨by decide +kernel, rfl⟩
theorem dL_law_404 : ex_d mL_law 404 (.iload 5) 2 406 := ⟨by decide +kernel, rfl⟩
theorem dL_law_406 : ex_d mL_law 406 (.ifCond .ne 15) 3 409 := ⟨by decide +kernel, rfl⟩
theorem dL_law_409 : ex_d mL_law 409 (.aload_n 3) 1 410 := ⟨by decide +kernel, rfl⟩
theorem dL_law_410 : ex_d mL_law 410 (.iconst 0) 1 411 := ⟨by decide +kernel, rfl⟩
theorem dL_law_411 : ex_d mL_law 411 (.laload) 1 412 := ⟨by decide +kernel, rfl⟩
theorem dL_law_412 : ex_d mL_law 412 (.iload 6) 2 414 := ⟨by decide +kernel, rfl⟩
theorem dL_law_414 : ex_d mL_law 414 (.i2l) 1 415 := ⟨by decide +kernel, rfl⟩
theorem dL_law_415 : ex_d mL_law 415 (.lcmp) 1 416 := ⟨by decide +kernel, rfl⟩
theorem dL_law_416 : ex_d mL_law 416 (.ifCond .eq 5) 3 419 := ⟨by decide +kernel, rfl⟩
theorem dL_law_419 : ex_d mL_law 419 (.iconst 0) 1 420 := ⟨by decide +kernel, rfl⟩
theorem dL_law_420 : ex_d mL_law 420 (.ireturn) 1 421 := ⟨by decide +kernel, rfl⟩
theorem dL_law_421 : ex_d mL_law 421 (.goto 790) 3 424 := ⟨by decide +kernel, rfl⟩
theorem dL_law_424 : ex_d mL_law 424 (.aload_n 1) 1 425 := ⟨by decide +kernel, rfl⟩
theorem dL_law_425 : ex_d mL_law 425 (.aload_n 0) 1 426 := ⟨by decide +kernel, rfl⟩
theorem dL_law_426 : ex_d mL_law 426 (.iload 4) 2 428 := ⟨by decide +kernel, rfl⟩
theorem dL_law_428 : ex_d mL_law 428 (.iconst 1) 1 429 := ⟨by decide +kernel, rfl⟩
theorem dL_law_429 : ex_d mL_law 429 (.iadd) 1 430 := ⟨by decide +kernel, rfl⟩
theorem dL_law_430 : ex_d mL_law 430 (.iaload) 1 431 := ⟨by decide +kernel, rfl⟩
theorem dL_law_431 : ex_d mL_law 431 (.aload_n 0) 1 432 := ⟨by decide +kernel, rfl⟩
theorem dL_law_432 : ex_d mL_law 432 (.iload 4) 2 434 := ⟨by decide +kernel, rfl⟩
theorem dL_law_434 : ex_d mL_law 434 (.iconst 2) 1 435 := ⟨by decide +kernel, rfl⟩
theorem dL_law_435 : ex_d mL_law 435 (.iadd) 1 436 := ⟨by decide +kernel, rfl⟩
theorem dL_law_436 : ex_d mL_law 436 (.iaload) 1 437 := ⟨by decide +kernel, rfl⟩
theorem dL_law_437 : ex_d mL_law 437 (.aload_n 3) 1 438 := ⟨by decide +kernel, rfl⟩
theorem dL_law_438 : ex_d mL_law 438 (.invokestatic 86) 3 441 := ⟨by decide +kernel, rfl⟩
theorem dL_law_441 : ex_d mL_law 441 (.istore 5) 2 443 := ⟨by decide +kernel, rfl⟩
theorem dL_law_443 : ex_d mL_law 443 (.aload_n 2) 1 444 := ⟨by decide +kernel, rfl⟩
theorem dL_law_444 : ex_d mL_law 444 (.aload_n 0) 1 445 := ⟨by decide +kernel, rfl⟩
theorem dL_law_445 : ex_d mL_law 445 (.iload 4) 2 447 := ⟨by decide +kernel, rfl⟩
theorem dL_law_447 : ex_d mL_law 447 (.iconst 1) 1 448 := ⟨by decide +kernel, rfl⟩
theorem dL_law_448 : ex_d mL_law 448 (.iadd) 1 449 := ⟨by decide +kernel, rfl⟩
theorem dL_law_449 : ex_d mL_law 449 (.iaload) 1 450 := ⟨by decide +kernel, rfl⟩
theorem dL_law_450 : ex_d mL_law 450 (.aload_n 0) 1 451 := ⟨by decide +kernel, rfl⟩
theorem dL_law_451 : ex_d mL_law 451 (.iload 4) 2 453 := ⟨by decide +kernel, rfl⟩
theorem dL_law_453 : ex_d mL_law 453 (.iconst 2) 1 454 := ⟨by decide +kernel, rfl⟩
theorem dL_law_454 : ex_d mL_law 454 (.iadd) 1 455 := ⟨by decide +kernel, rfl⟩
theorem dL_law_455 : ex_d mL_law 455 (.iaload) 1 456 := ⟨by decide +kernel, rfl⟩
theorem dL_law_456 : ex_d mL_law 456 (.invokevirtual 88) 3 459 := ⟨by decide +kernel, rfl⟩
theorem dL_law_459 : ex_d mL_law 459 (.istore 6) 2 461 := ⟨by decide +kernel, rfl⟩
theorem dL_law_461 : ex_d mL_law 461 (.aload_n 2) 1 462 := ⟨by decide +kernel, rfl⟩
theorem dL_law_462 : ex_d mL_law 462 (.invokevirtual 71) 3 465 := ⟨by decide +kernel, rfl⟩
theorem dL_law_465 : ex_d mL_law 465 (.iload 5) 2 467 := ⟨by decide +kernel, rfl⟩
theorem dL_law_467 : ex_d mL_law 467 (.if_icmp .eq 5) 3 470 := ⟨by decide +kernel, rfl⟩
theorem dL_law_470 : ex_d mL_law 470 (.iconst 0) 1 471 := ⟨by decide +kernel, rfl⟩
theorem dL_law_471 : ex_d mL_law 471 (.ireturn) 1 472 := ⟨by decide +kernel, rfl⟩
theorem dL_law_472 : ex_d mL_law 472 (.iload 5) 2 474 := ⟨by decide +kernel, rfl⟩
theorem dL_law_474 : ex_d mL_law 474 (.ifCond .ne 15) 3 477 := ⟨by decide +kernel, rfl⟩
theorem dL_law_477 : ex_d mL_law 477 (.aload_n 3) 1 478 := ⟨by decide +kernel, rfl⟩
theorem dL_law_478 : ex_d mL_law 478 (.iconst 0) 1 479 := ⟨by decide +kernel, rfl⟩
theorem dL_law_479 : ex_d mL_law 479 (.laload) 1 480 := ⟨by decide +kernel, rfl⟩
theorem dL_law_480 : ex_d mL_law 480 (.iload 6) 2 482 := ⟨by decide +kernel, rfl⟩
theorem dL_law_482 : ex_d mL_law 482 (.i2l) 1 483 := ⟨by decide +kernel, rfl⟩
theorem dL_law_483 : ex_d mL_law 483 (.lcmp) 1 484 := ⟨by decide +kernel, rfl⟩
theorem dL_law_484 : ex_d mL_law 484 (.ifCond .eq 5) 3 487 := ⟨by decide +kernel, rfl⟩
theorem dL_law_487 : ex_d mL_law 487 (.iconst 0) 1 488 := ⟨by decide +kernel, rfl⟩
theorem dL_law_488 : ex_d mL_law 488 (.ireturn) 1 489 := ⟨by decide +kernel, rfl⟩
theorem dL_law_489 : ex_d mL_law 489 (.goto 722) 3 492 := ⟨by decide +kernel, rfl⟩
theorem dL_law_492 : ex_d mL_law 492 (.aload_n 1) 1 493 := ⟨by decide +kernel, rfl⟩
theorem dL_law_493 : ex_d mL_law 493 (.aload_n 0) 1 494 := ⟨by decide +kernel, rfl⟩
theorem dL_law_494 : ex_d mL_law 494 (.iload 4) 2 496 := ⟨by decide +kernel, rfl⟩
theorem dL_law_496 : ex_d mL_law 496 (.iconst 1) 1 497 := ⟨by decide +kernel, rfl⟩
theorem dL_law_497 : ex_d mL_law 497 (.iadd) 1 498 := ⟨by decide +kernel, rfl⟩
theorem dL_law_498 : ex_d mL_law 498 (.iaload) 1 499 := ⟨by decide +kernel, rfl⟩
theorem dL_law_499 : ex_d mL_law 499 (.aload_n 0) 1 500 := ⟨by decide +kernel, rfl⟩
theorem dL_law_500 : ex_d mL_law 500 (.iload 4) 2 502 := ⟨by decide +kernel, rfl⟩
theorem dL_law_502 : ex_d mL_law 502 (.iconst 2) 1 503 := ⟨by decide +kernel, rfl⟩
theorem dL_law_503 : ex_d mL_law 503 (.iadd) 1 504 := ⟨by decide +kernel, rfl⟩
theorem dL_law_504 : ex_d mL_law 504 (.iaload) 1 505 := ⟨by decide +kernel, rfl⟩
theorem dL_law_505 : ex_d mL_law 505 (.invokevirtual 89) 3 508 := ⟨by decide +kernel, rfl⟩
theorem dL_law_508 : ex_d mL_law 508 (.aload_n 2) 1 509 := ⟨by decide +kernel, rfl⟩
theorem dL_law_509 : ex_d mL_law 509 (.aload_n 0) 1 510 := ⟨by decide +kernel, rfl⟩
theorem dL_law_510 : ex_d mL_law 510 (.iload 4) 2 512 := ⟨by decide +kernel, rfl⟩
theorem dL_law_512 : ex_d mL_law 512 (.iconst 1) 1 513 := ⟨by decide +kernel, rfl⟩
theorem dL_law_513 : ex_d mL_law 513 (.iadd) 1 514 := ⟨by decide +kernel, rfl⟩
theorem dL_law_514 : ex_d mL_law 514 (.iaload) 1 515 := ⟨by decide +kernel, rfl⟩
theorem dL_law_515 : ex_d mL_law 515 (.aload_n 0) 1 516 := ⟨by decide +kernel, rfl⟩
theorem dL_law_516 : ex_d mL_law 516 (.iload 4) 2 518 := ⟨by decide +kernel, rfl⟩
theorem dL_law_518 : ex_d mL_law 518 (.iconst 2) 1 519 := ⟨by decide +kernel, rfl⟩
theorem dL_law_519 : ex_d mL_law 519 (.iadd) 1 520 := ⟨by decide +kernel, rfl⟩
theorem dL_law_520 : ex_d mL_law 520 (.iaload) 1 521 := ⟨by decide +kernel, rfl⟩
theorem dL_law_521 : ex_d mL_law 521 (.invokevirtual 92) 3 524 := ⟨by decide +kernel, rfl⟩
theorem dL_law_524 : ex_d mL_law 524 (.if_icmp .eq 687) 3 527 := ⟨by decide +kernel, rfl⟩
theorem dL_law_527 : ex_d mL_law 527 (.iconst 0) 1 528 := ⟨by decide +kernel, rfl⟩
theorem dL_law_528 : ex_d mL_law 528 (.ireturn) 1 529 := ⟨by decide +kernel, rfl⟩
theorem dL_law_529 : ex_d mL_law 529 (.aload_n 1) 1 530 := ⟨by decide +kernel, rfl⟩
theorem dL_law_530 : ex_d mL_law 530 (.aload_n 0) 1 531 := ⟨by decide +kernel, rfl⟩
theorem dL_law_531 : ex_d mL_law 531 (.iload 4) 2 533 := ⟨by decide +kernel, rfl⟩
theorem dL_law_533 : ex_d mL_law 533 (.iconst 1) 1 534 := ⟨by decide +kernel, rfl⟩
theorem dL_law_534 : ex_d mL_law 534 (.iadd) 1 535 := ⟨by decide +kernel, rfl⟩
theorem dL_law_535 : ex_d mL_law 535 (.iaload) 1 536 := ⟨by decide +kernel, rfl⟩
theorem dL_law_536 : ex_d mL_law 536 (.aload_n 3) 1 537 := ⟨by decide +kernel, rfl⟩
theorem dL_law_537 : ex_d mL_law 537 (.invokestatic 93) 3 540 := ⟨by decide +kernel, rfl⟩
theorem dL_law_540 : ex_d mL_law 540 (.istore 5) 2 542 := ⟨by decide +kernel, rfl⟩
theorem dL_law_542 : ex_d mL_law 542 (.aload_n 2) 1 543 := ⟨by decide +kernel, rfl⟩
theorem dL_law_543 : ex_d mL_law 543 (.aload_n 0) 1 544 := ⟨by decide +kernel, rfl⟩
theorem dL_law_544 : ex_d mL_law 544 (.iload 4) 2 546 := ⟨by decide +kernel, rfl⟩
theorem dL_law_546 : ex_d mL_law 546 (.iconst 1) 1 547 := ⟨by decide +kernel, rfl⟩
theorem dL_law_547 : ex_d mL_law 547 (.iadd) 1 548 := ⟨by decide +kernel, rfl⟩
theorem dL_law_548 : ex_d mL_law 548 (.iaload) 1 549 := ⟨by decide +kernel, rfl⟩
theorem dL_law_549 : ex_d mL_law 549 (.invokevirtual 96) 3 552 := ⟨by decide +kernel, rfl⟩
theorem dL_law_552 : ex_d mL_law 552 (.istore 6) 2 554 := ⟨by decide +kernel, rfl⟩
theorem dL_law_554 : ex_d mL_law 554 (.aload_n 2) 1 555 := ⟨by decide +kernel, rfl⟩
theorem dL_law_555 : ex_d mL_law 555 (.invokevirtual 71) 3 558 := ⟨by decide +kernel, rfl⟩
theorem dL_law_558 : ex_d mL_law 558 (.iload 5) 2 560 := ⟨by decide +kernel, rfl⟩
theorem dL_law_560 : ex_d mL_law 560 (.if_icmp .eq 5) 3 563 := ⟨by decide +kernel, rfl⟩
theorem dL_law_563 : ex_d mL_law 563 (.iconst 0) 1 564 := ⟨by decide +kernel, rfl⟩
theorem dL_law_564 : ex_d mL_law 564 (.ireturn) 1 565 := ⟨by decide +kernel, rfl⟩
theorem dL_law_565 : ex_d mL_law 565 (.iload 5) 2 567 := ⟨by decide +kernel, rfl⟩
theorem dL_law_567 : ex_d mL_law 567 (.ifCond .ne 15) 3 570 := ⟨by decide +kernel, rfl⟩
theorem dL_law_570 : ex_d mL_law 570 (.aload_n 3) 1 571 := ⟨by decide +kernel, rfl⟩
theorem dL_law_571 : ex_d mL_law 571 (.iconst 0) 1 572 := ⟨by decide +kernel, rfl⟩
theorem dL_law_572 : ex_d mL_law 572 (.laload) 1 573 := ⟨by decide +kernel, rfl⟩
theorem dL_law_573 : ex_d mL_law 573 (.iload 6) 2 575 := ⟨by decide +kernel, rfl⟩
theorem dL_law_575 : ex_d mL_law 575 (.i2l) 1 576 := ⟨by decide +kernel, rfl⟩
theorem dL_law_576 : ex_d mL_law 576 (.lcmp) 1 577 := ⟨by decide +kernel, rfl⟩
theorem dL_law_577 : ex_d mL_law 577 (.ifCond .eq 5) 3 580 := ⟨by decide +kernel, rfl⟩
theorem dL_law_580 : ex_d mL_law 580 (.iconst 0) 1 581 := ⟨by decide +kernel, rfl⟩
theorem dL_law_581 : ex_d mL_law 581 (.ireturn) 1 582 := ⟨by decide +kernel, rfl⟩
theorem dL_law_582 : ex_d mL_law 582 (.goto 629) 3 585 := ⟨by decide +kernel, rfl⟩
theorem dL_law_585 : ex_d mL_law 585 (.aload_n 1) 1 586 := ⟨by decide +kernel, rfl⟩
theorem dL_law_586 : ex_d mL_law 586 (.aload_n 0) 1 587 := ⟨by decide +kernel, rfl⟩
theorem dL_law_587 : ex_d mL_law 587 (.iload 4) 2 589 := ⟨by decide +kernel, rfl⟩
theorem dL_law_589 : ex_d mL_law 589 (.iconst 1) 1 590 := ⟨by decide +kernel, rfl⟩
theorem dL_law_590 : ex_d mL_law 590 (.iadd) 1 591 := ⟨by decide +kernel, rfl⟩
theorem dL_law_591 : ex_d mL_law 591 (.iaload) 1 592 := ⟨by decide +kernel, rfl⟩
theorem dL_law_592 : ex_d mL_law 592 (.aload_n 0) 1 593 := ⟨by decide +kernel, rfl⟩
theorem dL_law_593 : ex_d mL_law 593 (.iload 4) 2 595 := ⟨by decide +kernel, rfl⟩
theorem dL_law_595 : ex_d mL_law 595 (.iconst 2) 1 596 := ⟨by decide +kernel, rfl⟩
theorem dL_law_596 : ex_d mL_law 596 (.iadd) 1 597 := ⟨by decide +kernel, rfl⟩
theorem dL_law_597 : ex_d mL_law 597 (.iaload) 1 598 := ⟨by decide +kernel, rfl⟩
theorem dL_law_598 : ex_d mL_law 598 (.aload_n 3) 1 599 := ⟨by decide +kernel, rfl⟩
theorem dL_law_599 : ex_d mL_law 599 (.invokestatic 97) 3 602 := ⟨by decide +kernel, rfl⟩
theorem dL_law_602 : ex_d mL_law 602 (.istore 5) 2 604 := ⟨by decide +kernel, rfl⟩
theorem dL_law_604 : ex_d mL_law 604 (.aload_n 2) 1 605 := ⟨by decide +kernel, rfl⟩
theorem dL_law_605 : ex_d mL_law 605 (.aload_n 0) 1 606 := ⟨by decide +kernel, rfl⟩
theorem dL_law_606 : ex_d mL_law 606 (.iload 4) 2 608 := ⟨by decide +kernel, rfl⟩
theorem dL_law_608 : ex_d mL_law 608 (.iconst 1) 1 609 := ⟨by decide +kernel, rfl⟩
theorem dL_law_609 : ex_d mL_law 609 (.iadd) 1 610 := ⟨by decide +kernel, rfl⟩
theorem dL_law_610 : ex_d mL_law 610 (.iaload) 1 611 := ⟨by decide +kernel, rfl⟩
theorem dL_law_611 : ex_d mL_law 611 (.aload_n 0) 1 612 := ⟨by decide +kernel, rfl⟩
theorem dL_law_612 : ex_d mL_law 612 (.iload 4) 2 614 := ⟨by decide +kernel, rfl⟩
theorem dL_law_614 : ex_d mL_law 614 (.iconst 2) 1 615 := ⟨by decide +kernel, rfl⟩
theorem dL_law_615 : ex_d mL_law 615 (.iadd) 1 616 := ⟨by decide +kernel, rfl⟩
theorem dL_law_616 : ex_d mL_law 616 (.iaload) 1 617 := ⟨by decide +kernel, rfl⟩
theorem dL_law_617 : ex_d mL_law 617 (.invokevirtual 99) 3 620 := ⟨by decide +kernel, rfl⟩
theorem dL_law_620 : ex_d mL_law 620 (.istore 6) 2 622 := ⟨by decide +kernel, rfl⟩
theorem dL_law_622 : ex_d mL_law 622 (.aload_n 2) 1 623 := ⟨by decide +kernel, rfl⟩
theorem dL_law_623 : ex_d mL_law 623 (.invokevirtual 71) 3 626 := ⟨by decide +kernel, rfl⟩
theorem dL_law_626 : ex_d mL_law 626 (.iload 5) 2 628 := ⟨by decide +kernel, rfl⟩
theorem dL_law_628 : ex_d mL_law 628 (.if_icmp .eq 5) 3 631 := ⟨by decide +kernel, rfl⟩
theorem dL_law_631 : ex_d mL_law 631 (.iconst 0) 1 632 := ⟨by decide +kernel, rfl⟩
theorem dL_law_632 : ex_d mL_law 632 (.ireturn) 1 633 := ⟨by decide +kernel, rfl⟩
theorem dL_law_633 : ex_d mL_law 633 (.iload 5) 2 635 := ⟨by decide +kernel, rfl⟩
theorem dL_law_635 : ex_d mL_law 635 (.ifCond .ne 15) 3 638 := ⟨by decide +kernel, rfl⟩
theorem dL_law_638 : ex_d mL_law 638 (.aload_n 3) 1 639 := ⟨by decide +kernel, rfl⟩
theorem dL_law_639 : ex_d mL_law 639 (.iconst 0) 1 640 := ⟨by decide +kernel, rfl⟩
theorem dL_law_640 : ex_d mL_law 640 (.laload) 1 641 := ⟨by decide +kernel, rfl⟩
theorem dL_law_641 : ex_d mL_law 641 (.iload 6) 2 643 := ⟨by decide +kernel, rfl⟩
theorem dL_law_643 : ex_d mL_law 643 (.i2l) 1 644 := ⟨by decide +kernel, rfl⟩
theorem dL_law_644 : ex_d mL_law 644 (.lcmp) 1 645 := ⟨by decide +kernel, rfl⟩
theorem dL_law_645 : ex_d mL_law 645 (.ifCond .eq 5) 3 648 := ⟨by decide +kernel, rfl⟩
theorem dL_law_648 : ex_d mL_law 648 (.iconst 0) 1 649 := ⟨by decide +kernel, rfl⟩
theorem dL_law_649 : ex_d mL_law 649 (.ireturn) 1 650 := ⟨by decide +kernel, rfl⟩
theorem dL_law_650 : ex_d mL_law 650 (.goto 561) 3 653 := ⟨by decide +kernel, rfl⟩
theorem dL_law_653 : ex_d mL_law 653 (.aload_n 1) 1 654 := ⟨by decide +kernel, rfl⟩
theorem dL_law_654 : ex_d mL_law 654 (.aload_n 0) 1 655 := ⟨by decide +kernel, rfl⟩
theorem dL_law_655 : ex_d mL_law 655 (.iload 4) 2 657 := ⟨by decide +kernel, rfl⟩
theorem dL_law_657 : ex_d mL_law 657 (.iconst 1) 1 658 := ⟨by decide +kernel, rfl⟩
theorem dL_law_658 : ex_d mL_law 658 (.iadd) 1 659 := ⟨by decide +kernel, rfl⟩
theorem dL_law_659 : ex_d mL_law 659 (.iaload) 1 660 := ⟨by decide +kernel, rfl⟩
theorem dL_law_660 : ex_d mL_law 660 (.aload_n 3) 1 661 := ⟨by decide +kernel, rfl⟩
theorem dL_law_661 : ex_d mL_law 661 (.invokestatic 100) 3 664 := ⟨by decide +kernel, rfl⟩
theorem dL_law_664 : ex_d mL_law 664 (.istore 5) 2 666 := ⟨by decide +kernel, rfl⟩
theorem dL_law_666 : ex_d mL_law 666 (.aload_n 2) 1 667 := ⟨by decide +kernel, rfl⟩
theorem dL_law_667 : ex_d mL_law 667 (.aload_n 0) 1 668 := ⟨by decide +kernel, rfl⟩
theorem dL_law_668 : ex_d mL_law 668 (.iload 4) 2 670 := ⟨by decide +kernel, rfl⟩
theorem dL_law_670 : ex_d mL_law 670 (.iconst 1) 1 671 := ⟨by decide +kernel, rfl⟩
theorem dL_law_671 : ex_d mL_law 671 (.iadd) 1 672 := ⟨by decide +kernel, rfl⟩
theorem dL_law_672 : ex_d mL_law 672 (.iaload) 1 673 := ⟨by decide +kernel, rfl⟩
theorem dL_law_673 : ex_d mL_law 673 (.invokevirtual 102) 3 676 := ⟨by decide +kernel, rfl⟩
theorem dL_law_676 : ex_d mL_law 676 (.istore 6) 2 678 := ⟨by decide +kernel, rfl⟩
theorem dL_law_678 : ex_d mL_law 678 (.aload_n 2) 1 679 := ⟨by decide +kernel, rfl⟩
theorem dL_law_679 : ex_d mL_law 679 (.invokevirtual 71) 3 682 := ⟨by decide +kernel, rfl⟩
theorem dL_law_682 : ex_d mL_law 682 (.iload 5) 2 684 := ⟨by decide +kernel, rfl⟩
theorem dL_law_684 : ex_d mL_law 684 (.if_icmp .eq 5) 3 687 := ⟨by decide +kernel, rfl⟩
theorem dL_law_687 : ex_d mL_law 687 (.iconst 0) 1 688 := ⟨by decide +kernel, rfl⟩
theorem dL_law_688 : ex_d mL_law 688 (.ireturn) 1 689 := ⟨by decide +kernel, rfl⟩
theorem dL_law_689 : ex_d mL_law 689 (.iload 5) 2 691 := ⟨by decide +kernel, rfl⟩
theorem dL_law_691 : ex_d mL_law 691 (.ifCond .ne 15) 3 694 := ⟨by decide +kernel, rfl⟩
theorem dL_law_694 : ex_d mL_law 694 (.aload_n 3) 1 695 := ⟨by decide +kernel, rfl⟩
theorem dL_law_695 : ex_d mL_law 695 (.iconst 0) 1 696 := ⟨by decide +kernel, rfl⟩
theorem dL_law_696 : ex_d mL_law 696 (.laload) 1 697 := ⟨by decide +kernel, rfl⟩
theorem dL_law_697 : ex_d mL_law 697 (.iload 6) 2 699 := ⟨by decide +kernel, rfl⟩
theorem dL_law_699 : ex_d mL_law 699 (.i2l) 1 700 := ⟨by decide +kernel, rfl⟩
theorem dL_law_700 : ex_d mL_law 700 (.lcmp) 1 701 := ⟨by decide +kernel, rfl⟩
theorem dL_law_701 : ex_d mL_law 701 (.ifCond .eq 5) 3 704 := ⟨by decide +kernel, rfl⟩
theorem dL_law_704 : ex_d mL_law 704 (.iconst 0) 1 705 := ⟨by decide +kernel, rfl⟩
theorem dL_law_705 : ex_d mL_law 705 (.ireturn) 1 706 := ⟨by decide +kernel, rfl⟩
theorem dL_law_706 : ex_d mL_law 706 (.goto 505) 3 709 := ⟨by decide +kernel, rfl⟩
theorem dL_law_709 : ex_d mL_law 709 (.aload_n 1) 1 710 := ⟨by decide +kernel, rfl⟩
theorem dL_law_710 : ex_d mL_law 710 (.aload_n 0) 1 711 := ⟨by decide +kernel, rfl⟩
theorem dL_law_711 : ex_d mL_law 711 (.iload 4) 2 713 := ⟨by decide +kernel, rfl⟩
theorem dL_law_713 : ex_d mL_law 713 (.iconst 1) 1 714 := ⟨by decide +kernel, rfl⟩
theorem dL_law_714 : ex_d mL_law 714 (.iadd) 1 715 := ⟨by decide +kernel, rfl⟩
theorem dL_law_715 : ex_d mL_law 715 (.iaload) 1 716 := ⟨by decide +kernel, rfl⟩
theorem dL_law_716 : ex_d mL_law 716 (.aload_n 0) 1 717 := ⟨by decide +kernel, rfl⟩
theorem dL_law_717 : ex_d mL_law 717 (.iload 4) 2 719 := ⟨by decide +kernel, rfl⟩
theorem dL_law_719 : ex_d mL_law 719 (.iconst 2) 1 720 := ⟨by decide +kernel, rfl⟩
theorem dL_law_720 : ex_d mL_law 720 (.iadd) 1 721 := ⟨by decide +kernel, rfl⟩
theorem dL_law_721 : ex_d mL_law 721 (.iaload) 1 722 := ⟨by decide +kernel, rfl⟩
theorem dL_law_722 : ex_d mL_law 722 (.aload_n 0) 1 723 := ⟨by decide +kernel, rfl⟩
theorem dL_law_723 : ex_d mL_law 723 (.iload 4) 2 725 := ⟨by decide +kernel, rfl⟩
theorem dL_law_725 : ex_d mL_law 725 (.iconst 3) 1 726 := ⟨by decide +kernel, rfl⟩
theorem dL_law_726 : ex_d mL_law 726 (.iadd) 1 727 := ⟨by decide +kernel, rfl⟩
theorem dL_law_727 : ex_d mL_law 727 (.iaload) 1 728 := ⟨by decide +kernel, rfl⟩
theorem dL_law_728 : ex_d mL_law 728 (.aload_n 0) 1 729 := ⟨by decide +kernel, rfl⟩
theorem dL_law_729 : ex_d mL_law 729 (.iload 4) 2 731 := ⟨by decide +kernel, rfl⟩
theorem dL_law_731 : ex_d mL_law 731 (.iconst 4) 1 732 := ⟨by decide +kernel, rfl⟩
theorem dL_law_732 : ex_d mL_law 732 (.iadd) 1 733 := ⟨by decide +kernel, rfl⟩
theorem dL_law_733 : ex_d mL_law 733 (.iaload) 1 734 := ⟨by decide +kernel, rfl⟩
theorem dL_law_734 : ex_d mL_law 734 (.aload_n 0) 1 735 := ⟨by decide +kernel, rfl⟩
theorem dL_law_735 : ex_d mL_law 735 (.iload 4) 2 737 := ⟨by decide +kernel, rfl⟩
theorem dL_law_737 : ex_d mL_law 737 (.iconst 5) 1 738 := ⟨by decide +kernel, rfl⟩
theorem dL_law_738 : ex_d mL_law 738 (.iadd) 1 739 := ⟨by decide +kernel, rfl⟩
theorem dL_law_739 : ex_d mL_law 739 (.iaload) 1 740 := ⟨by decide +kernel, rfl⟩
theorem dL_law_740 : ex_d mL_law 740 (.invokevirtual 103) 3 743 := ⟨by decide +kernel, rfl⟩
theorem dL_law_743 : ex_d mL_law 743 (.aload_n 2) 1 744 := ⟨by decide +kernel, rfl⟩
theorem dL_law_744 : ex_d mL_law 744 (.aload_n 0) 1 745 := ⟨by decide +kernel, rfl⟩
theorem dL_law_745 : ex_d mL_law 745 (.iload 4) 2 747 := ⟨by decide +kernel, rfl⟩
theorem dL_law_747 : ex_d mL_law 747 (.iconst 1) 1 748 := ⟨by decide +kernel, rfl⟩
theorem dL_law_748 : ex_d mL_law 748 (.iadd) 1 749 := ⟨by decide +kernel, rfl⟩
theorem dL_law_749 : ex_d mL_law 749 (.iaload) 1 750 := ⟨by decide +kernel, rfl⟩
theorem dL_law_750 : ex_d mL_law 750 (.aload_n 0) 1 751 := ⟨by decide +kernel, rfl⟩
theorem dL_law_751 : ex_d mL_law 751 (.iload 4) 2 753 := ⟨by decide +kernel, rfl⟩
theorem dL_law_753 : ex_d mL_law 753 (.iconst 2) 1 754 := ⟨by decide +kernel, rfl⟩
theorem dL_law_754 : ex_d mL_law 754 (.iadd) 1 755 := ⟨by decide +kernel, rfl⟩
theorem dL_law_755 : ex_d mL_law 755 (.iaload) 1 756 := ⟨by decide +kernel, rfl⟩
theorem dL_law_756 : ex_d mL_law 756 (.aload_n 0) 1 757 := ⟨by decide +kernel, rfl⟩
theorem dL_law_757 : ex_d mL_law 757 (.iload 4) 2 759 := ⟨by decide +kernel, rfl⟩
theorem dL_law_759 : ex_d mL_law 759 (.iconst 3) 1 760 := ⟨by decide +kernel, rfl⟩
theorem dL_law_760 : ex_d mL_law 760 (.iadd) 1 761 := ⟨by decide +kernel, rfl⟩
theorem dL_law_761 : ex_d mL_law 761 (.iaload) 1 762 := ⟨by decide +kernel, rfl⟩
theorem dL_law_762 : ex_d mL_law 762 (.aload_n 0) 1 763 := ⟨by decide +kernel, rfl⟩
theorem dL_law_763 : ex_d mL_law 763 (.iload 4) 2 765 := ⟨by decide +kernel, rfl⟩
theorem dL_law_765 : ex_d mL_law 765 (.iconst 4) 1 766 := ⟨by decide +kernel, rfl⟩
theorem dL_law_766 : ex_d mL_law 766 (.iadd) 1 767 := ⟨by decide +kernel, rfl⟩
theorem dL_law_767 : ex_d mL_law 767 (.iaload) 1 768 := ⟨by decide +kernel, rfl⟩
theorem dL_law_768 : ex_d mL_law 768 (.aload_n 0) 1 769 := ⟨by decide +kernel, rfl⟩
theorem dL_law_769 : ex_d mL_law 769 (.iload 4) 2 771 := ⟨by decide +kernel, rfl⟩
theorem dL_law_771 : ex_d mL_law 771 (.iconst 5) 1 772 := ⟨by decide +kernel, rfl⟩
theorem dL_law_772 : ex_d mL_law 772 (.iadd) 1 773 := ⟨by decide +kernel, rfl⟩
theorem dL_law_773 : ex_d mL_law 773 (.iaload) 1 774 := ⟨by decide +kernel, rfl⟩
theorem dL_law_774 : ex_d mL_law 774 (.invokevirtual 107) 3 777 := ⟨by decide +kernel, rfl⟩
theorem dL_law_777 : ex_d mL_law 777 (.if_icmp .eq 434) 3 780 := ⟨by decide +kernel, rfl⟩
theorem dL_law_780 : ex_d mL_law 780 (.iconst 0) 1 781 := ⟨by decide +kernel, rfl⟩
theorem dL_law_781 : ex_d mL_law 781 (.ireturn) 1 782 := ⟨by decide +kernel, rfl⟩
theorem dL_law_782 : ex_d mL_law 782 (.aload_n 1) 1 783 := ⟨by decide +kernel, rfl⟩
theorem dL_law_783 : ex_d mL_law 783 (.aload_n 0) 1 784 := ⟨by decide +kernel, rfl⟩
theorem dL_law_784 : ex_d mL_law 784 (.iload 4) 2 786 := ⟨by decide +kernel, rfl⟩
theorem dL_law_786 : ex_d mL_law 786 (.iconst 1) 1 787 := ⟨by decide +kernel, rfl⟩
theorem dL_law_787 : ex_d mL_law 787 (.iadd) 1 788 := ⟨by decide +kernel, rfl⟩
theorem dL_law_788 : ex_d mL_law 788 (.iaload) 1 789 := ⟨by decide +kernel, rfl⟩
theorem dL_law_789 : ex_d mL_law 789 (.aload_n 0) 1 790 := ⟨by decide +kernel, rfl⟩
theorem dL_law_790 : ex_d mL_law 790 (.iload 4) 2 792 := ⟨by decide +kernel, rfl⟩
theorem dL_law_792 : ex_d mL_law 792 (.iconst 2) 1 793 := ⟨by decide +kernel, rfl⟩
theorem dL_law_793 : ex_d mL_law 793 (.iadd) 1 794 := ⟨by decide +kernel, rfl⟩
theorem dL_law_794 : ex_d mL_law 794 (.iaload) 1 795 := ⟨by decide +kernel, rfl⟩
theorem dL_law_795 : ex_d mL_law 795 (.aload_n 3) 1 796 := ⟨by decide +kernel, rfl⟩
theorem dL_law_796 : ex_d mL_law 796 (.invokestatic 108) 3 799 := ⟨by decide +kernel, rfl⟩
theorem dL_law_799 : ex_d mL_law 799 (.istore 5) 2 801 := ⟨by decide +kernel, rfl⟩
theorem dL_law_801 : ex_d mL_law 801 (.aload_n 2) 1 802 := ⟨by decide +kernel, rfl⟩
theorem dL_law_802 : ex_d mL_law 802 (.aload_n 0) 1 803 := ⟨by decide +kernel, rfl⟩
theorem dL_law_803 : ex_d mL_law 803 (.iload 4) 2 805 := ⟨by decide +kernel, rfl⟩
theorem dL_law_805 : ex_d mL_law 805 (.iconst 1) 1 806 := ⟨by decide +kernel, rfl⟩
theorem dL_law_806 : ex_d mL_law 806 (.iadd) 1 807 := ⟨by decide +kernel, rfl⟩
theorem dL_law_807 : ex_d mL_law 807 (.iaload) 1 808 := ⟨by decide +kernel, rfl⟩
theorem dL_law_808 : ex_d mL_law 808 (.aload_n 0) 1 809 := ⟨by decide +kernel, rfl⟩
theorem dL_law_809 : ex_d mL_law 809 (.iload 4) 2 811 := ⟨by decide +kernel, rfl⟩
theorem dL_law_811 : ex_d mL_law 811 (.iconst 2) 1 812 := ⟨by decide +kernel, rfl⟩
theorem dL_law_812 : ex_d mL_law 812 (.iadd) 1 813 := ⟨by decide +kernel, rfl⟩
theorem dL_law_813 : ex_d mL_law 813 (.iaload) 1 814 := ⟨by decide +kernel, rfl⟩
theorem dL_law_814 : ex_d mL_law 814 (.invokevirtual 110) 3 817 := ⟨by decide +kernel, rfl⟩
theorem dL_law_817 : ex_d mL_law 817 (.istore 6) 2 819 := ⟨by decide +kernel, rfl⟩
theorem dL_law_819 : ex_d mL_law 819 (.aload_n 2) 1 820 := ⟨by decide +kernel, rfl⟩
theorem dL_law_820 : ex_d mL_law 820 (.invokevirtual 71) 3 823 := ⟨by decide +kernel, rfl⟩
theorem dL_law_823 : ex_d mL_law 823 (.iload 5) 2 825 := ⟨by decide +kernel, rfl⟩
theorem dL_law_825 : ex_d mL_law 825 (.if_icmp .eq 5) 3 828 := ⟨by decide +kernel, rfl⟩
theorem dL_law_828 : ex_d mL_law 828 (.iconst 0) 1 829 := ⟨by decide +kernel, rfl⟩
theorem dL_law_829 : ex_d mL_law 829 (.ireturn) 1 830 := ⟨by decide +kernel, rfl⟩
theorem dL_law_830 : ex_d mL_law 830 (.iload 5) 2 832 := ⟨by decide +kernel, rfl⟩
theorem dL_law_832 : ex_d mL_law 832 (.ifCond .ne 15) 3 835 := ⟨by decide +kernel, rfl⟩
theorem dL_law_835 : ex_d mL_law 835 (.aload_n 3) 1 836 := ⟨by decide +kernel, rfl⟩
theorem dL_law_836 : ex_d mL_law 836 (.iconst 0) 1 837 := ⟨by decide +kernel, rfl⟩
theorem dL_law_837 : ex_d mL_law 837 (.laload) 1 838 := ⟨by decide +kernel, rfl⟩
theorem dL_law_838 : ex_d mL_law 838 (.iload 6) 2 840 := ⟨by decide +kernel, rfl⟩
theorem dL_law_840 : ex_d mL_law 840 (.i2l) 1 841 := ⟨by decide +kernel, rfl⟩
theorem dL_law_841 : ex_d mL_law 841 (.lcmp) 1 842 := ⟨by decide +kernel, rfl⟩
theorem dL_law_842 : ex_d mL_law 842 (.ifCond .eq 5) 3 845 := ⟨by decide +kernel, rfl⟩
theorem dL_law_845 : ex_d mL_law 845 (.iconst 0) 1 846 := ⟨by decide +kernel, rfl⟩
theorem dL_law_846 : ex_d mL_law 846 (.ireturn) 1 847 := ⟨by decide +kernel, rfl⟩
theorem dL_law_847 : ex_d mL_law 847 (.goto 364) 3 850 := ⟨by decide +kernel, rfl⟩
theorem dL_law_850 : ex_d mL_law 850 (.aload_n 1) 1 851 := ⟨by decide +kernel, rfl⟩
theorem dL_law_851 : ex_d mL_law 851 (.invokevirtual 111) 3 854 := ⟨by decide +kernel, rfl⟩
theorem dL_law_854 : ex_d mL_law 854 (.aload_n 2) 1 855 := ⟨by decide +kernel, rfl⟩
theorem dL_law_855 : ex_d mL_law 855 (.invokevirtual 114) 3 858 := ⟨by decide +kernel, rfl⟩
theorem dL_law_858 : ex_d mL_law 858 (.if_icmp .eq 353) 3 861 := ⟨by decide +kernel, rfl⟩
theorem dL_law_861 : ex_d mL_law 861 (.iconst 0) 1 862 := ⟨by decide +kernel, rfl⟩
theorem dL_law_862 : ex_d mL_law 862 (.ireturn) 1 863 := ⟨by decide +kernel, rfl⟩
theorem dL_law_863 : ex_d mL_law 863 (.aload_n 1) 1 864 := ⟨by decide +kernel, rfl⟩
theorem dL_law_864 : ex_d mL_law 864 (.aload_n 0) 1 865 := ⟨by decide +kernel, rfl⟩
theorem dL_law_865 : ex_d mL_law 865 (.iload 4) 2 867 := ⟨by decide +kernel, rfl⟩
theorem dL_law_867 : ex_d mL_law 867 (.iconst 1) 1 868 := ⟨by decide +kernel, rfl⟩
theorem dL_law_868 : ex_d mL_law 868 (.iadd) 1 869 := ⟨by decide +kernel, rfl⟩
theorem dL_law_869 : ex_d mL_law 869 (.iaload) 1 870 := ⟨by decide +kernel, rfl⟩
theorem dL_law_870 : ex_d mL_law 870 (.invokevirtual 115) 3 873 := ⟨by decide +kernel, rfl⟩
theorem dL_law_873 : ex_d mL_law 873 (.aload_n 2) 1 874 := ⟨by decide +kernel, rfl⟩
theorem dL_law_874 : ex_d mL_law 874 (.aload_n 0) 1 875 := ⟨by decide +kernel, rfl⟩
theorem dL_law_875 : ex_d mL_law 875 (.iload 4) 2 877 := ⟨by decide +kernel, rfl⟩
theorem dL_law_877 : ex_d mL_law 877 (.iconst 1) 1 878 := ⟨by decide +kernel, rfl⟩
theorem dL_law_878 : ex_d mL_law 878 (.iadd) 1 879 := ⟨by decide +kernel, rfl⟩
theorem dL_law_879 : ex_d mL_law 879 (.iaload) 1 880 := ⟨by decide +kernel, rfl⟩
theorem dL_law_880 : ex_d mL_law 880 (.invokevirtual 118) 3 883 := ⟨by decide +kernel, rfl⟩
theorem dL_law_883 : ex_d mL_law 883 (.if_icmp .eq 328) 3 886 := ⟨by decide +kernel, rfl⟩
theorem dL_law_886 : ex_d mL_law 886 (.iconst 0) 1 887 := ⟨by decide +kernel, rfl⟩
theorem dL_law_887 : ex_d mL_law 887 (.ireturn) 1 888 := ⟨by decide +kernel, rfl⟩
theorem dL_law_888 : ex_d mL_law 888 (.aload_n 1) 1 889 := ⟨by decide +kernel, rfl⟩
theorem dL_law_889 : ex_d mL_law 889 (.aload_n 0) 1 890 := ⟨by decide +kernel, rfl⟩
theorem dL_law_890 : ex_d mL_law 890 (.iload 4) 2 892 := ⟨by decide +kernel, rfl⟩
theorem dL_law_892 : ex_d mL_law 892 (.iconst 1) 1 893 := ⟨by decide +kernel, rfl⟩
theorem dL_law_893 : ex_d mL_law 893 (.iadd) 1 894 := ⟨by decide +kernel, rfl⟩
theorem dL_law_894 : ex_d mL_law 894 (.iaload) 1 895 := ⟨by decide +kernel, rfl⟩
theorem dL_law_895 : ex_d mL_law 895 (.invokevirtual 119) 3 898 := ⟨by decide +kernel, rfl⟩
theorem dL_law_898 : ex_d mL_law 898 (.aload_n 2) 1 899 := ⟨by decide +kernel, rfl⟩
theorem dL_law_899 : ex_d mL_law 899 (.aload_n 0) 1 900 := ⟨by decide +kernel, rfl⟩
theorem dL_law_900 : ex_d mL_law 900 (.iload 4) 2 902 := ⟨by decide +kernel, rfl⟩
theorem dL_law_902 : ex_d mL_law 902 (.iconst 1) 1 903 := ⟨by decide +kernel, rfl⟩
theorem dL_law_903 : ex_d mL_law 903 (.iadd) 1 904 := ⟨by decide +kernel, rfl⟩
theorem dL_law_904 : ex_d mL_law 904 (.iaload) 1 905 := ⟨by decide +kernel, rfl⟩
theorem dL_law_905 : ex_d mL_law 905 (.invokevirtual 122) 3 908 := ⟨by decide +kernel, rfl⟩
theorem dL_law_908 : ex_d mL_law 908 (.if_icmp .eq 303) 3 911 := ⟨by decide +kernel, rfl⟩
theorem dL_law_911 : ex_d mL_law 911 (.iconst 0) 1 912 := ⟨by decide +kernel, rfl⟩
theorem dL_law_912 : ex_d mL_law 912 (.ireturn) 1 913 := ⟨by decide +kernel, rfl⟩
theorem dL_law_913 : ex_d mL_law 913 (.aload_n 1) 1 914 := ⟨by decide +kernel, rfl⟩
theorem dL_law_914 : ex_d mL_law 914 (.invokevirtual 123) 3 917 := ⟨by decide +kernel, rfl⟩
theorem dL_law_917 : ex_d mL_law 917 (.aload_n 2) 1 918 := ⟨by decide +kernel, rfl⟩
theorem dL_law_918 : ex_d mL_law 918 (.invokevirtual 126) 3 921 := ⟨by decide +kernel, rfl⟩
theorem dL_law_921 : ex_d mL_law 921 (.if_icmp .eq 290) 3 924 := ⟨by decide +kernel, rfl⟩
theorem dL_law_924 : ex_d mL_law 924 (.iconst 0) 1 925 := ⟨by decide +kernel, rfl⟩
theorem dL_law_925 : ex_d mL_law 925 (.ireturn) 1 926 := ⟨by decide +kernel, rfl⟩
theorem dL_law_926 : ex_d mL_law 926 (.aload_n 1) 1 927 := ⟨by decide +kernel, rfl⟩
theorem dL_law_927 : ex_d mL_law 927 (.aload_n 0) 1 928 := ⟨by decide +kernel, rfl⟩
theorem dL_law_928 : ex_d mL_law 928 (.iload 4) 2 930 := ⟨by decide +kernel, rfl⟩
theorem dL_law_930 : ex_d mL_law 930 (.iconst 1) 1 931 := ⟨by decide +kernel, rfl⟩
theorem dL_law_931 : ex_d mL_law 931 (.iadd) 1 932 := ⟨by decide +kernel, rfl⟩
theorem dL_law_932 : ex_d mL_law 932 (.iaload) 1 933 := ⟨by decide +kernel, rfl⟩
theorem dL_law_933 : ex_d mL_law 933 (.aload_n 0) 1 934 := ⟨by decide +kernel, rfl⟩
theorem dL_law_934 : ex_d mL_law 934 (.iload 4) 2 936 := ⟨by decide +kernel, rfl⟩
theorem dL_law_936 : ex_d mL_law 936 (.iconst 2) 1 937 := ⟨by decide +kernel, rfl⟩
theorem dL_law_937 : ex_d mL_law 937 (.iadd) 1 938 := ⟨by decide +kernel, rfl⟩
theorem dL_law_938 : ex_d mL_law 938 (.iaload) 1 939 := ⟨by decide +kernel, rfl⟩
theorem dL_law_939 : ex_d mL_law 939 (.aload_n 3) 1 940 := ⟨by decide +kernel, rfl⟩
theorem dL_law_940 : ex_d mL_law 940 (.invokestatic 127) 3 943 := ⟨by decide +kernel, rfl⟩
theorem dL_law_943 : ex_d mL_law 943 (.istore 5) 2 945 := ⟨by decide +kernel, rfl⟩
theorem dL_law_945 : ex_d mL_law 945 (.aload_n 2) 1 946 := ⟨by decide +kernel, rfl⟩
theorem dL_law_946 : ex_d mL_law 946 (.aload_n 0) 1 947 := ⟨by decide +kernel, rfl⟩
theorem dL_law_947 : ex_d mL_law 947 (.iload 4) 2 949 := ⟨by decide +kernel, rfl⟩
theorem dL_law_949 : ex_d mL_law 949 (.iconst 1) 1 950 := ⟨by decide +kernel, rfl⟩
theorem dL_law_950 : ex_d mL_law 950 (.iadd) 1 951 := ⟨by decide +kernel, rfl⟩
theorem dL_law_951 : ex_d mL_law 951 (.iaload) 1 952 := ⟨by decide +kernel, rfl⟩
theorem dL_law_952 : ex_d mL_law 952 (.aload_n 0) 1 953 := ⟨by decide +kernel, rfl⟩
theorem dL_law_953 : ex_d mL_law 953 (.iload 4) 2 955 := ⟨by decide +kernel, rfl⟩
theorem dL_law_955 : ex_d mL_law 955 (.iconst 2) 1 956 := ⟨by decide +kernel, rfl⟩
theorem dL_law_956 : ex_d mL_law 956 (.iadd) 1 957 := ⟨by decide +kernel, rfl⟩
theorem dL_law_957 : ex_d mL_law 957 (.iaload) 1 958 := ⟨by decide +kernel, rfl⟩
theorem dL_law_958 : ex_d mL_law 958 (.invokevirtual 129) 3 961 := ⟨by decide +kernel, rfl⟩
theorem dL_law_961 : ex_d mL_law 961 (.lstore 6) 2 963 := ⟨by decide +kernel, rfl⟩
theorem dL_law_963 : ex_d mL_law 963 (.aload_n 2) 1 964 := ⟨by decide +kernel, rfl⟩
theorem dL_law_964 : ex_d mL_law 964 (.invokevirtual 71) 3 967 := ⟨by decide +kernel, rfl⟩
theorem dL_law_967 : ex_d mL_law 967 (.iload 5) 2 969 := ⟨by decide +kernel, rfl⟩
theorem dL_law_969 : ex_d mL_law 969 (.if_icmp .eq 5) 3 972 := ⟨by decide +kernel, rfl⟩
theorem dL_law_972 : ex_d mL_law 972 (.iconst 0) 1 973 := ⟨by decide +kernel, rfl⟩
theorem dL_law_973 : ex_d mL_law 973 (.ireturn) 1 974 := ⟨by decide +kernel, rfl⟩
theorem dL_law_974 : ex_d mL_law 974 (.iload 5) 2 976 := ⟨by decide +kernel, rfl⟩
theorem dL_law_976 : ex_d mL_law 976 (.ifCond .ne 14) 3 979 := ⟨by decide +kernel, rfl⟩
theorem dL_law_979 : ex_d mL_law 979 (.aload_n 3) 1 980 := ⟨by decide +kernel, rfl⟩
theorem dL_law_980 : ex_d mL_law 980 (.iconst 0) 1 981 := ⟨by decide +kernel, rfl⟩
theorem dL_law_981 : ex_d mL_law 981 (.laload) 1 982 := ⟨by decide +kernel, rfl⟩
theorem dL_law_982 : ex_d mL_law 982 (.lload 6) 2 984 := ⟨by decide +kernel, rfl⟩
theorem dL_law_984 : ex_d mL_law 984 (.lcmp) 1 985 := ⟨by decide +kernel, rfl⟩
theorem dL_law_985 : ex_d mL_law 985 (.ifCond .eq 5) 3 988 := ⟨by decide +kernel, rfl⟩
theorem dL_law_988 : ex_d mL_law 988 (.iconst 0) 1 989 := ⟨by decide +kernel, rfl⟩
theorem dL_law_989 : ex_d mL_law 989 (.ireturn) 1 990 := ⟨by decide +kernel, rfl⟩
theorem dL_law_990 : ex_d mL_law 990 (.goto 221) 3 993 := ⟨by decide +kernel, rfl⟩
theorem dL_law_993 : ex_d mL_law 993 (.aload_n 1) 1 994 := ⟨by decide +kernel, rfl⟩
theorem dL_law_994 : ex_d mL_law 994 (.aload_n 0) 1 995 := ⟨by decide +kernel, rfl⟩
theorem dL_law_995 : ex_d mL_law 995 (.iload 4) 2 997 := ⟨by decide +kernel, rfl⟩
theorem dL_law_997 : ex_d mL_law 997 (.iconst 1) 1 998 := ⟨by decide +kernel, rfl⟩
theorem dL_law_998 : ex_d mL_law 998 (.iadd) 1 999 := ⟨by decide +kernel, rfl⟩
theorem dL_law_999 : ex_d mL_law 999 (.iaload) 1 1000 := ⟨by decide +kernel, rfl⟩
theorem dL_law_1000 : ex_d mL_law 1000 (.aload_n 0) 1 1001 := ⟨by decide +kernel, rfl⟩
theorem dL_law_1001 : ex_d mL_law 1001 (.iload 4) 2 1003 := ⟨by decide +kernel, rfl⟩
theorem dL_law_1003 : ex_d mL_law 1003 (.iconst 2) 1 1004 := ⟨by decide +kernel, rfl⟩
theorem dL_law_1004 : ex_d mL_law 1004 (.iadd) 1 1005 := ⟨by decide +kernel, rfl⟩
theorem dL_law_1005 : ex_d mL_law 1005 (.iaload) 1 1006 := ⟨by decide +kernel, rfl⟩
theorem dL_law_1006 : ex_d mL_law 1006 (.aload_n 3) 1 1007 := ⟨by decide +kernel, rfl⟩
theorem dL_law_1007 : ex_d mL_law 1007 (.invokestatic 130) 3 1010 := ⟨by decide +kernel, rfl⟩
theorem dL_law_1010 : ex_d mL_law 1010 (.istore 5) 2 1012 := ⟨by decide +kernel, rfl⟩
theorem dL_law_1012 : ex_d mL_law 1012 (.aload_n 2) 1 1013 := ⟨by decide +kernel, rfl⟩
theorem dL_law_1013 : ex_d mL_law 1013 (.aload_n 0) 1 1014 := ⟨by decide +kernel, rfl⟩
theorem dL_law_1014 : ex_d mL_law 1014 (.iload 4) 2 1016 := ⟨by decide +kernel, rfl⟩
theorem dL_law_1016 : ex_d mL_law 1016 (.iconst 1) 1 1017 := ⟨by decide +kernel, rfl⟩
theorem dL_law_1017 : ex_d mL_law 1017 (.iadd) 1 1018 := ⟨by decide +kernel, rfl⟩
theorem dL_law_1018 : ex_d mL_law 1018 (.iaload) 1 1019 := ⟨by decide +kernel, rfl⟩
theorem dL_law_1019 : ex_d mL_law 1019 (.aload_n 0) 1 1020 := ⟨by decide +kernel, rfl⟩
theorem dL_law_1020 : ex_d mL_law 1020 (.iload 4) 2 1022 := ⟨by decide +kernel, rfl⟩
theorem dL_law_1022 : ex_d mL_law 1022 (.iconst 2) 1 1023 := ⟨by decide +kernel, rfl⟩
theorem dL_law_1023 : ex_d mL_law 1023 (.iadd) 1 1024 := ⟨by decide +kernel, rfl⟩
theorem dL_law_1024 : ex_d mL_law 1024 (.iaload) 1 1025 := ⟨by decide +kernel, rfl⟩
theorem dL_law_1025 : ex_d mL_law 1025 (.invokevirtual 132) 3 1028 := ⟨by decide +kernel, rfl⟩
theorem dL_law_1028 : ex_d mL_law 1028 (.istore 6) 2 1030 := ⟨by decide +kernel, rfl⟩
theorem dL_law_1030 : ex_d mL_law 1030 (.aload_n 2) 1 1031 := ⟨by decide +kernel, rfl⟩
theorem dL_law_1031 : ex_d mL_law 1031 (.invokevirtual 71) 3 1034 := ⟨by decide +kernel, rfl⟩
theorem dL_law_1034 : ex_d mL_law 1034 (.iload 5) 2 1036 := ⟨by decide +kernel, rfl⟩
theorem dL_law_1036 : ex_d mL_law 1036 (.if_icmp .eq 5) 3 1039 := ⟨by decide +kernel, rfl⟩
theorem dL_law_1039 : ex_d mL_law 1039 (.iconst 0) 1 1040 := ⟨by decide +kernel, rfl⟩
theorem dL_law_1040 : ex_d mL_law 1040 (.ireturn) 1 1041 := ⟨by decide +kernel, rfl⟩
theorem dL_law_1041 : ex_d mL_law 1041 (.iload 5) 2 1043 := ⟨by decide +kernel, rfl⟩
theorem dL_law_1043 : ex_d mL_law 1043 (.ifCond .ne 15) 3 1046 := ⟨by decide +kernel, rfl⟩
theorem dL_law_1046 : ex_d mL_law 1046 (.aload_n 3) 1 1047 := ⟨by decide +kernel, rfl⟩
theorem dL_law_1047 : ex_d mL_law 1047 (.iconst 0) 1 1048 := ⟨by decide +kernel, rfl⟩
theorem dL_law_1048 : ex_d mL_law 1048 (.laload) 1 1049 := ⟨by decide +kernel, rfl⟩
theorem dL_law_1049 : ex_d mL_law 1049 (.iload 6) 2 1051 := ⟨by decide +kernel, rfl⟩
theorem dL_law_1051 : ex_d mL_law 1051 (.i2l) 1 1052 := ⟨by decide +kernel, rfl⟩
theorem dL_law_1052 : ex_d mL_law 1052 (.lcmp) 1 1053 := ⟨by decide +kernel, rfl⟩
theorem dL_law_1053 : ex_d mL_law 1053 (.ifCond .eq 5) 3 1056 := ⟨by decide +kernel, rfl⟩
theorem dL_law_1056 : ex_d mL_law 1056 (.iconst 0) 1 1057 := ⟨by decide +kernel, rfl⟩
theorem dL_law_1057 : ex_d mL_law 1057 (.ireturn) 1 1058 := ⟨by decide +kernel, rfl⟩
theorem dL_law_1058 : ex_d mL_law 1058 (.goto 153) 3 1061 := ⟨by decide +kernel, rfl⟩
theorem dL_law_1061 : ex_d mL_law 1061 (.aload_n 1) 1 1062 := ⟨by decide +kernel, rfl⟩
theorem dL_law_1062 : ex_d mL_law 1062 (.aload_n 0) 1 1063 := ⟨by decide +kernel, rfl⟩
theorem dL_law_1063 : ex_d mL_law 1063 (.iload 4) 2 1065 := ⟨by decide +kernel, rfl⟩
theorem dL_law_1065 : ex_d mL_law 1065 (.iconst 1) 1 1066 := ⟨by decide +kernel, rfl⟩
theorem dL_law_1066 : ex_d mL_law 1066 (.iadd) 1 1067 := ⟨by decide +kernel, rfl⟩
theorem dL_law_1067 : ex_d mL_law 1067 (.iaload) 1 1068 := ⟨by decide +kernel, rfl⟩
theorem dL_law_1068 : ex_d mL_law 1068 (.aload_n 3) 1 1069 := ⟨by decide +kernel, rfl⟩
theorem dL_law_1069 : ex_d mL_law 1069 (.invokestatic 133) 3 1072 := ⟨by decide +kernel, rfl⟩
theorem dL_law_1072 : ex_d mL_law 1072 (.istore 5) 2 1074 := ⟨by decide +kernel, rfl⟩
theorem dL_law_1074 : ex_d mL_law 1074 (.aload_n 2) 1 1075 := ⟨by decide +kernel, rfl⟩
theorem dL_law_1075 : ex_d mL_law 1075 (.aload_n 0) 1 1076 := ⟨by decide +kernel, rfl⟩
theorem dL_law_1076 : ex_d mL_law 1076 (.iload 4) 2 1078 := ⟨by decide +kernel, rfl⟩
theorem dL_law_1078 : ex_d mL_law 1078 (.iconst 1) 1 1079 := ⟨by decide +kernel, rfl⟩
theorem dL_law_1079 : ex_d mL_law 1079 (.iadd) 1 1080 := ⟨by decide +kernel, rfl⟩
theorem dL_law_1080 : ex_d mL_law 1080 (.iaload) 1 1081 := ⟨by decide +kernel, rfl⟩
theorem dL_law_1081 : ex_d mL_law 1081 (.invokevirtual 135) 3 1084 := ⟨by decide +kernel, rfl⟩
theorem dL_law_1084 : ex_d mL_law 1084 (.istore 6) 2 1086 := ⟨by decide +kernel, rfl⟩
theorem dL_law_1086 : ex_d mL_law 1086 (.aload_n 2) 1 1087 := ⟨by decide +kernel, rfl⟩
theorem dL_law_1087 : ex_d mL_law 1087 (.invokevirtual 71) 3 1090 := ⟨by decide +kernel, rfl⟩
theorem dL_law_1090 : ex_d mL_law 1090 (.iload 5) 2 1092 := ⟨by decide +kernel, rfl⟩
theorem dL_law_1092 : ex_d mL_law 1092 (.if_icmp .eq 5) 3 1095 := ⟨by decide +kernel, rfl⟩
theorem dL_law_1095 : ex_d mL_law 1095 (.iconst 0) 1 1096 := ⟨by decide +kernel, rfl⟩
theorem dL_law_1096 : ex_d mL_law 1096 (.ireturn) 1 1097 := ⟨by decide +kernel, rfl⟩
theorem dL_law_1097 : ex_d mL_law 1097 (.iload 5) 2 1099 := ⟨by decide +kernel, rfl⟩
theorem dL_law_1099 : ex_d mL_law 1099 (.ifCond .ne 15) 3 1102 := ⟨by decide +kernel, rfl⟩
theorem dL_law_1102 : ex_d mL_law 1102 (.aload_n 3) 1 1103 := ⟨by decide +kernel, rfl⟩
theorem dL_law_1103 : ex_d mL_law 1103 (.iconst 0) 1 1104 := ⟨by decide +kernel, rfl⟩
theorem dL_law_1104 : ex_d mL_law 1104 (.laload) 1 1105 := ⟨by decide +kernel, rfl⟩
theorem dL_law_1105 : ex_d mL_law 1105 (.iload 6) 2 1107 := ⟨by decide +kernel, rfl⟩
theorem dL_law_1107 : ex_d mL_law 1107 (.i2l) 1 1108 := ⟨by decide +kernel, rfl⟩
theorem dL_law_1108 : ex_d mL_law 1108 (.lcmp) 1 1109 := ⟨by decide +kernel, rfl⟩
theorem dL_law_1109 : ex_d mL_law 1109 (.ifCond .eq 5) 3 1112 := ⟨by decide +kernel, rfl⟩
theorem dL_law_1112 : ex_d mL_law 1112 (.iconst 0) 1 1113 := ⟨by decide +kernel, rfl⟩
theorem dL_law_1113 : ex_d mL_law 1113 (.ireturn) 1 1114 := ⟨by decide +kernel, rfl⟩
theorem dL_law_1114 : ex_d mL_law 1114 (.goto 97) 3 1117 := ⟨by decide +kernel, rfl⟩
theorem dL_law_1117 : ex_d mL_law 1117 (.aload_n 1) 1 1118 := ⟨by decide +kernel, rfl⟩
theorem dL_law_1118 : ex_d mL_law 1118 (.aload_n 0) 1 1119 := ⟨by decide +kernel, rfl⟩
theorem dL_law_1119 : ex_d mL_law 1119 (.iload 4) 2 1121 := ⟨by decide +kernel, rfl⟩
theorem dL_law_1121 : ex_d mL_law 1121 (.iconst 1) 1 1122 := ⟨by decide +kernel, rfl⟩
theorem dL_law_1122 : ex_d mL_law 1122 (.iadd) 1 1123 := ⟨by decide +kernel, rfl⟩
theorem dL_law_1123 : ex_d mL_law 1123 (.iaload) 1 1124 := ⟨by decide +kernel, rfl⟩
theorem dL_law_1124 : ex_d mL_law 1124 (.aload_n 3) 1 1125 := ⟨by decide +kernel, rfl⟩
theorem dL_law_1125 : ex_d mL_law 1125 (.invokestatic 136) 3 1128 := ⟨by decide +kernel, rfl⟩
theorem dL_law_1128 : ex_d mL_law 1128 (.istore 5) 2 1130 := ⟨by decide +kernel, rfl⟩
theorem dL_law_1130 : ex_d mL_law 1130 (.aload_n 2) 1 1131 := ⟨by decide +kernel, rfl⟩
theorem dL_law_1131 : ex_d mL_law 1131 (.aload_n 0) 1 1132 := ⟨by decide +kernel, rfl⟩
theorem dL_law_1132 : ex_d mL_law 1132 (.iload 4) 2 1134 := ⟨by decide +kernel, rfl⟩
theorem dL_law_1134 : ex_d mL_law 1134 (.iconst 1) 1 1135 := ⟨by decide +kernel, rfl⟩
theorem dL_law_1135 : ex_d mL_law 1135 (.iadd) 1 1136 := ⟨by decide +kernel, rfl⟩
theorem dL_law_1136 : ex_d mL_law 1136 (.iaload) 1 1137 := ⟨by decide +kernel, rfl⟩
theorem dL_law_1137 : ex_d mL_law 1137 (.invokevirtual 138) 3 1140 := ⟨by decide +kernel, rfl⟩
theorem dL_law_1140 : ex_d mL_law 1140 (.lstore 6) 2 1142 := ⟨by decide +kernel, rfl⟩
theorem dL_law_1142 : ex_d mL_law 1142 (.aload_n 2) 1 1143 := ⟨by decide +kernel, rfl⟩
theorem dL_law_1143 : ex_d mL_law 1143 (.invokevirtual 71) 3 1146 := ⟨by decide +kernel, rfl⟩
theorem dL_law_1146 : ex_d mL_law 1146 (.iload 5) 2 1148 := ⟨by decide +kernel, rfl⟩
theorem dL_law_1148 : ex_d mL_law 1148 (.if_icmp .eq 5) 3 1151 := ⟨by decide +kernel, rfl⟩
theorem dL_law_1151 : ex_d mL_law 1151 (.iconst 0) 1 1152 := ⟨by decide +kernel, rfl⟩
theorem dL_law_1152 : ex_d mL_law 1152 (.ireturn) 1 1153 := ⟨by decide +kernel, rfl⟩
theorem dL_law_1153 : ex_d mL_law 1153 (.iload 5) 2 1155 := ⟨by decide +kernel, rfl⟩
theorem dL_law_1155 : ex_d mL_law 1155 (.ifCond .ne 14) 3 1158 := ⟨by decide +kernel, rfl⟩
theorem dL_law_1158 : ex_d mL_law 1158 (.aload_n 3) 1 1159 := ⟨by decide +kernel, rfl⟩
theorem dL_law_1159 : ex_d mL_law 1159 (.iconst 0) 1 1160 := ⟨by decide +kernel, rfl⟩
theorem dL_law_1160 : ex_d mL_law 1160 (.laload) 1 1161 := ⟨by decide +kernel, rfl⟩
theorem dL_law_1161 : ex_d mL_law 1161 (.lload 6) 2 1163 := ⟨by decide +kernel, rfl⟩
theorem dL_law_1163 : ex_d mL_law 1163 (.lcmp) 1 1164 := ⟨by decide +kernel, rfl⟩
theorem dL_law_1164 : ex_d mL_law 1164 (.ifCond .eq 5) 3 1167 := ⟨by decide +kernel, rfl⟩
theorem dL_law_1167 : ex_d mL_law 1167 (.iconst 0) 1 1168 := ⟨by decide +kernel, rfl⟩
theorem dL_law_1168 : ex_d mL_law 1168 (.ireturn) 1 1169 := ⟨by decide +kernel, rfl⟩
theorem dL_law_1169 : ex_d mL_law 1169 (.goto 42) 3 1172 := ⟨by decide +kernel, rfl⟩
theorem dL_law_1172 : ex_d mL_law 1172 (.aload_n 1) 1 1173 := ⟨by decide +kernel, rfl⟩
theorem dL_law_1173 : ex_d mL_law 1173 (.invokevirtual 139) 3 1176 := ⟨by decide +kernel, rfl⟩
theorem dL_law_1176 : ex_d mL_law 1176 (.aload_n 2) 1 1177 := ⟨by decide +kernel, rfl⟩
theorem dL_law_1177 : ex_d mL_law 1177 (.invokevirtual 143) 3 1180 := ⟨by decide +kernel, rfl⟩
theorem dL_law_1180 : ex_d mL_law 1180 (.lcmp) 1 1181 := ⟨by decide +kernel, rfl⟩
theorem dL_law_1181 : ex_d mL_law 1181 (.ifCond .eq 30) 3 1184 := ⟨by decide +kernel, rfl⟩
theorem dL_law_1184 : ex_d mL_law 1184 (.iconst 0) 1 1185 := ⟨by decide +kernel, rfl⟩
theorem dL_law_1185 : ex_d mL_law 1185 (.ireturn) 1 1186 := ⟨by decide +kernel, rfl⟩
theorem dL_law_1186 : ex_d mL_law 1186 (.aload_n 1) 1 1187 := ⟨by decide +kernel, rfl⟩
theorem dL_law_1187 : ex_d mL_law 1187 (.aload_n 0) 1 1188 := ⟨by decide +kernel, rfl⟩
theorem dL_law_1188 : ex_d mL_law 1188 (.iload 4) 2 1190 := ⟨by decide +kernel, rfl⟩
theorem dL_law_1190 : ex_d mL_law 1190 (.iconst 1) 1 1191 := ⟨by decide +kernel, rfl⟩
theorem dL_law_1191 : ex_d mL_law 1191 (.iadd) 1 1192 := ⟨by decide +kernel, rfl⟩
theorem dL_law_1192 : ex_d mL_law 1192 (.iaload) 1 1193 := ⟨by decide +kernel, rfl⟩
theorem dL_law_1193 : ex_d mL_law 1193 (.invokevirtual 144) 3 1196 := ⟨by decide +kernel, rfl⟩
theorem dL_law_1196 : ex_d mL_law 1196 (.aload_n 2) 1 1197 := ⟨by decide +kernel, rfl⟩
theorem dL_law_1197 : ex_d mL_law 1197 (.aload_n 0) 1 1198 := ⟨by decide +kernel, rfl⟩
theorem dL_law_1198 : ex_d mL_law 1198 (.iload 4) 2 1200 := ⟨by decide +kernel, rfl⟩
theorem dL_law_1200 : ex_d mL_law 1200 (.iconst 1) 1 1201 := ⟨by decide +kernel, rfl⟩
theorem dL_law_1201 : ex_d mL_law 1201 (.iadd) 1 1202 := ⟨by decide +kernel, rfl⟩
theorem dL_law_1202 : ex_d mL_law 1202 (.iaload) 1 1203 := ⟨by decide +kernel, rfl⟩
theorem dL_law_1203 : ex_d mL_law 1203 (.invokevirtual 147) 3 1206 := ⟨by decide +kernel, rfl⟩
theorem dL_law_1206 : ex_d mL_law 1206 (.if_icmp .eq 5) 3 1209 := ⟨by decide +kernel, rfl⟩
theorem dL_law_1209 : ex_d mL_law 1209 (.iconst 0) 1 1210 := ⟨by decide +kernel, rfl⟩
theorem dL_law_1210 : ex_d mL_law 1210 (.ireturn) 1 1211 := ⟨by decide +kernel, rfl⟩
theorem dL_law_1211 : ex_d mL_law 1211 (.iinc 4 6) 3 1214 := ⟨by decide +kernel, rfl⟩
theorem dL_law_1214 : ex_d mL_law 1214 (.goto (-1191)) 3 1217 := ⟨by decide +kernel, rfl⟩
theorem dL_law_1217 : ex_d mL_law 1217 (.iconst 1) 1 1218 := ⟨by decide +kernel, rfl⟩
theorem dL_law_1218 : ex_d mL_law 1218 (.ireturn) 1 1219 := ⟨by decide +kernel, rfl⟩
