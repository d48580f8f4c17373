theorem wx_1 : (Jvm.Cond.initialized "RouteHouse") ∈ tb_all := wd_o1 (i := 1) rfl rfl
theorem wx_272 : (Jvm.Cond.code ({ cls := "RouteHouse", name := "port", desc := "(III)V" } : Jvm.MethodName) prog_1_method_2_code (4 : Nat) (Option.none : Option Jvm.ClassFile.FieldType)) ∈ tb_all := wd_o2 (i := 32) rfl rfl
theorem wx_270 : (Jvm.Cond.instanceMethod ({ cls := "RouteHouse", name := "port", desc := "(III)V" } : Jvm.MethodName)) ∈ tb_all := wd_o2 (i := 30) rfl rfl
theorem wx_271 : (Jvm.Cond.selects "RouteHouse" ({ cls := "RouteHouse", name := "port", desc := "(III)V" } : Jvm.MethodName) ({ cls := "RouteHouse", name := "port", desc := "(III)V" } : Jvm.MethodName)) ∈ tb_all := wd_o2 (i := 31) rfl rfl
theorem mt_47 : lf_m 47 1 := ⟨rfl, wx_1, wx_272, ⟨by decide +kernel, by decide +kernel, by decide +kernel⟩, nofun, fun _ => ⟨⟨_, _, rfl⟩, wx_270, wx_271⟩, nofun⟩
theorem wx_367 : (Jvm.Cond.code ({ cls := "RouteHouse", name := "up", desc := "(IZ)Z" } : Jvm.MethodName) prog_1_method_3_code (4 : Nat) (Option.some Jvm.ClassFile.FieldType.boolean)) ∈ tb_all := wd_o2 (i := 127) rfl rfl
theorem wx_365 : (Jvm.Cond.instanceMethod ({ cls := "RouteHouse", name := "up", desc := "(IZ)Z" } : Jvm.MethodName)) ∈ tb_all := wd_o2 (i := 125) rfl rfl
theorem wx_366 : (Jvm.Cond.selects "RouteHouse" ({ cls := "RouteHouse", name := "up", desc := "(IZ)Z" } : Jvm.MethodName) ({ cls := "RouteHouse", name := "up", desc := "(IZ)Z" } : Jvm.MethodName)) ∈ tb_all := wd_o2 (i := 126) rfl rfl
theorem mt_48 : lf_m 48 1 := ⟨rfl, wx_1, wx_367, ⟨by decide +kernel, by decide +kernel, by decide +kernel⟩, nofun, fun _ => ⟨⟨_, _, rfl⟩, wx_365, wx_366⟩, nofun⟩
theorem wx_375 : (Jvm.Cond.code ({ cls := "RouteHouse", name := "route", desc := "(IIII)I" } : Jvm.MethodName) prog_1_method_4_code (6 : Nat) (Option.some Jvm.ClassFile.FieldType.int)) ∈ tb_all := wd_o2 (i := 135) rfl rfl
theorem wx_373 : (Jvm.Cond.instanceMethod ({ cls := "RouteHouse", name := "route", desc := "(IIII)I" } : Jvm.MethodName)) ∈ tb_all := wd_o2 (i := 133) rfl rfl
theorem wx_374 : (Jvm.Cond.selects "RouteHouse" ({ cls := "RouteHouse", name := "route", desc := "(IIII)I" } : Jvm.MethodName) ({ cls := "RouteHouse", name := "route", desc := "(IIII)I" } : Jvm.MethodName)) ∈ tb_all := wd_o2 (i := 134) rfl rfl
theorem mt_49 : lf_m 49 1 := ⟨rfl, wx_1, wx_375, ⟨by decide +kernel, by decide +kernel, by decide +kernel⟩, nofun, fun _ => ⟨⟨_, _, rfl⟩, wx_373, wx_374⟩, nofun⟩
theorem wx_414 : (Jvm.Cond.code ({ cls := "RouteHouse", name := "unroute", desc := "(II)Z" } : Jvm.MethodName) prog_1_method_5_code (4 : Nat) (Option.some Jvm.ClassFile.FieldType.boolean)) ∈ tb_all := wd_o2 (i := 174) rfl rfl
theorem wx_412 : (Jvm.Cond.instanceMethod ({ cls := "RouteHouse", name := "unroute", desc := "(II)Z" } : Jvm.MethodName)) ∈ tb_all := wd_o2 (i := 172) rfl rfl
theorem wx_413 : (Jvm.Cond.selects "RouteHouse" ({ cls := "RouteHouse", name := "unroute", desc := "(II)Z" } : Jvm.MethodName) ({ cls := "RouteHouse", name := "unroute", desc := "(II)Z" } : Jvm.MethodName)) ∈ tb_all := wd_o2 (i := 173) rfl rfl
theorem mt_50 : lf_m 50 1 := ⟨rfl, wx_1, wx_414, ⟨by decide +kernel, by decide +kernel, by decide +kernel⟩, nofun, fun _ => ⟨⟨_, _, rfl⟩, wx_412, wx_413⟩, nofun⟩
theorem wx_425 : (Jvm.Cond.code ({ cls := "RouteHouse", name := "lookup", desc := "(II)I" } : Jvm.MethodName) prog_1_method_6_code (4 : Nat) (Option.some Jvm.ClassFile.FieldType.int)) ∈ tb_all := wd_o2 (i := 185) rfl rfl
theorem wx_423 : (Jvm.Cond.instanceMethod ({ cls := "RouteHouse", name := "lookup", desc := "(II)I" } : Jvm.MethodName)) ∈ tb_all := wd_o2 (i := 183) rfl rfl
theorem wx_424 : (Jvm.Cond.selects "RouteHouse" ({ cls := "RouteHouse", name := "lookup", desc := "(II)I" } : Jvm.MethodName) ({ cls := "RouteHouse", name := "lookup", desc := "(II)I" } : Jvm.MethodName)) ∈ tb_all := wd_o2 (i := 184) rfl rfl
theorem mt_51 : lf_m 51 1 := ⟨rfl, wx_1, wx_425, ⟨by decide +kernel, by decide +kernel, by decide +kernel⟩, nofun, fun _ => ⟨⟨_, _, rfl⟩, wx_423, wx_424⟩, nofun⟩
theorem wx_438 : (Jvm.Cond.code ({ cls := "RouteHouse", name := "feed", desc := "(IIIII)I" } : Jvm.MethodName) prog_1_method_7_code (7 : Nat) (Option.some Jvm.ClassFile.FieldType.int)) ∈ tb_all := wd_o2 (i := 198) rfl rfl
theorem wx_436 : (Jvm.Cond.instanceMethod ({ cls := "RouteHouse", name := "feed", desc := "(IIIII)I" } : Jvm.MethodName)) ∈ tb_all := wd_o2 (i := 196) rfl rfl
theorem wx_437 : (Jvm.Cond.selects "RouteHouse" ({ cls := "RouteHouse", name := "feed", desc := "(IIIII)I" } : Jvm.MethodName) ({ cls := "RouteHouse", name := "feed", desc := "(IIIII)I" } : Jvm.MethodName)) ∈ tb_all := wd_o2 (i := 197) rfl rfl
theorem mt_52 : lf_m 52 1 := ⟨rfl, wx_1, wx_438, ⟨by decide +kernel, by decide +kernel, by decide +kernel⟩, nofun, fun _ => ⟨⟨_, _, rfl⟩, wx_436, wx_437⟩, nofun⟩
theorem wx_464 : (Jvm.Cond.code ({ cls := "RouteHouse", name := "end", desc := "(I)V" } : Jvm.MethodName) prog_1_method_8_code (2 : Nat) (Option.none : Option Jvm.ClassFile.FieldType)) ∈ tb_all := wd_o2 (i := 224) rfl rfl
theorem wx_462 : (Jvm.Cond.instanceMethod ({ cls := "RouteHouse", name := "end", desc := "(I)V" } : Jvm.MethodName)) ∈ tb_all := wd_o2 (i := 222) rfl rfl
theorem wx_463 : (Jvm.Cond.selects "RouteHouse" ({ cls := "RouteHouse", name := "end", desc := "(I)V" } : Jvm.MethodName) ({ cls := "RouteHouse", name := "end", desc := "(I)V" } : Jvm.MethodName)) ∈ tb_all := wd_o2 (i := 223) rfl rfl
theorem mt_53 : lf_m 53 1 := ⟨rfl, wx_1, wx_464, ⟨by decide +kernel, by decide +kernel, by decide +kernel⟩, nofun, fun _ => ⟨⟨_, _, rfl⟩, wx_462, wx_463⟩, nofun⟩
theorem wx_472 : (Jvm.Cond.code ({ cls := "RouteHouse", name := "sum", desc := "(I)V" } : Jvm.MethodName) prog_1_method_9_code (2 : Nat) (Option.none : Option Jvm.ClassFile.FieldType)) ∈ tb_all := wd_o2 (i := 232) rfl rfl
theorem wx_470 : (Jvm.Cond.instanceMethod ({ cls := "RouteHouse", name := "sum", desc := "(I)V" } : Jvm.MethodName)) ∈ tb_all := wd_o2 (i := 230) rfl rfl
theorem wx_471 : (Jvm.Cond.selects "RouteHouse" ({ cls := "RouteHouse", name := "sum", desc := "(I)V" } : Jvm.MethodName) ({ cls := "RouteHouse", name := "sum", desc := "(I)V" } : Jvm.MethodName)) ∈ tb_all := wd_o2 (i := 231) rfl rfl
theorem mt_54 : lf_m 54 1 := ⟨rfl, wx_1, wx_472, ⟨by decide +kernel, by decide +kernel, by decide +kernel⟩, nofun, fun _ => ⟨⟨_, _, rfl⟩, wx_470, wx_471⟩, nofun⟩
theorem wx_487 : (Jvm.Cond.code ({ cls := "RouteHouse", name := "copy", desc := "(I)I" } : Jvm.MethodName) prog_1_method_10_code (2 : Nat) (Option.some Jvm.ClassFile.FieldType.int)) ∈ tb_all := wd_o3 (i := 7) rfl rfl
theorem wx_485 : (Jvm.Cond.instanceMethod ({ cls := "RouteHouse", name := "copy", desc := "(I)I" } : Jvm.MethodName)) ∈ tb_all := wd_o3 (i := 5) rfl rfl
theorem wx_486 : (Jvm.Cond.selects "RouteHouse" ({ cls := "RouteHouse", name := "copy", desc := "(I)I" } : Jvm.MethodName) ({ cls := "RouteHouse", name := "copy", desc := "(I)I" } : Jvm.MethodName)) ∈ tb_all := wd_o3 (i := 6) rfl rfl
theorem mt_55 : lf_m 55 1 := ⟨rfl, wx_1, wx_487, ⟨by decide +kernel, by decide +kernel, by decide +kernel⟩, nofun, fun _ => ⟨⟨_, _, rfl⟩, wx_485, wx_486⟩, nofun⟩
theorem wx_502 : (Jvm.Cond.code ({ cls := "RouteHouse", name := "receive", desc := "(I)I" } : Jvm.MethodName) prog_1_method_11_code (3 : Nat) (Option.some Jvm.ClassFile.FieldType.int)) ∈ tb_all := wd_o3 (i := 22) rfl rfl
theorem wx_500 : (Jvm.Cond.instanceMethod ({ cls := "RouteHouse", name := "receive", desc := "(I)I" } : Jvm.MethodName)) ∈ tb_all := wd_o3 (i := 20) rfl rfl
theorem wx_501 : (Jvm.Cond.selects "RouteHouse" ({ cls := "RouteHouse", name := "receive", desc := "(I)I" } : Jvm.MethodName) ({ cls := "RouteHouse", name := "receive", desc := "(I)I" } : Jvm.MethodName)) ∈ tb_all := wd_o3 (i := 21) rfl rfl
theorem mt_56 : lf_m 56 1 := ⟨rfl, wx_1, wx_502, ⟨by decide +kernel, by decide +kernel, by decide +kernel⟩, nofun, fun _ => ⟨⟨_, _, rfl⟩, wx_500, wx_501⟩, nofun⟩
theorem wx_715 : (Jvm.Cond.code ({ cls := "RouteHouse", name := "pass", desc := "(I)I" } : Jvm.MethodName) prog_1_method_12_code (3 : Nat) (Option.some Jvm.ClassFile.FieldType.int)) ∈ tb_all := wd_o3 (i := 235) rfl rfl
theorem wx_713 : (Jvm.Cond.instanceMethod ({ cls := "RouteHouse", name := "pass", desc := "(I)I" } : Jvm.MethodName)) ∈ tb_all := wd_o3 (i := 233) rfl rfl
theorem wx_714 : (Jvm.Cond.selects "RouteHouse" ({ cls := "RouteHouse", name := "pass", desc := "(I)I" } : Jvm.MethodName) ({ cls := "RouteHouse", name := "pass", desc := "(I)I" } : Jvm.MethodName)) ∈ tb_all := wd_o3 (i := 234) rfl rfl
theorem mt_57 : lf_m 57 1 := ⟨rfl, wx_1, wx_715, ⟨by decide +kernel, by decide +kernel, by decide +kernel⟩, nofun, fun _ => ⟨⟨_, _, rfl⟩, wx_713, wx_714⟩, nofun⟩
theorem wx_732 : (Jvm.Cond.code ({ cls := "RouteHouse", name := "sent", desc := "(II)I" } : Jvm.MethodName) prog_1_method_13_code (3 : Nat) (Option.some Jvm.ClassFile.FieldType.int)) ∈ tb_all := wd_o4 (i := 12) rfl rfl
theorem wx_730 : (Jvm.Cond.instanceMethod ({ cls := "RouteHouse", name := "sent", desc := "(II)I" } : Jvm.MethodName)) ∈ tb_all := wd_o4 (i := 10) rfl rfl
theorem wx_731 : (Jvm.Cond.selects "RouteHouse" ({ cls := "RouteHouse", name := "sent", desc := "(II)I" } : Jvm.MethodName) ({ cls := "RouteHouse", name := "sent", desc := "(II)I" } : Jvm.MethodName)) ∈ tb_all := wd_o4 (i := 11) rfl rfl
theorem mt_58 : lf_m 58 1 := ⟨rfl, wx_1, wx_732, ⟨by decide +kernel, by decide +kernel, by decide +kernel⟩, nofun, fun _ => ⟨⟨_, _, rfl⟩, wx_730, wx_731⟩, nofun⟩
theorem wx_740 : (Jvm.Cond.code ({ cls := "RouteHouse", name := "out", desc := "(II)I" } : Jvm.MethodName) prog_1_method_14_code (3 : Nat) (Option.some Jvm.ClassFile.FieldType.int)) ∈ tb_all := wd_o4 (i := 20) rfl rfl
theorem wx_738 : (Jvm.Cond.instanceMethod ({ cls := "RouteHouse", name := "out", desc := "(II)I" } : Jvm.MethodName)) ∈ tb_all := wd_o4 (i := 18) rfl rfl
theorem wx_739 : (Jvm.Cond.selects "RouteHouse" ({ cls := "RouteHouse", name := "out", desc := "(II)I" } : Jvm.MethodName) ({ cls := "RouteHouse", name := "out", desc := "(II)I" } : Jvm.MethodName)) ∈ tb_all := wd_o4 (i := 19) rfl rfl
theorem mt_59 : lf_m 59 1 := ⟨rfl, wx_1, wx_740, ⟨by decide +kernel, by decide +kernel, by decide +kernel⟩, nofun, fun _ => ⟨⟨_, _, rfl⟩, wx_738, wx_739⟩, nofun⟩
theorem wx_748 : (Jvm.Cond.code ({ cls := "RouteHouse", name := "about", desc := "(I)I" } : Jvm.MethodName) prog_1_method_16_code (2 : Nat) (Option.some Jvm.ClassFile.FieldType.int)) ∈ tb_all := wd_o4 (i := 28) rfl rfl
theorem wx_746 : (Jvm.Cond.instanceMethod ({ cls := "RouteHouse", name := "about", desc := "(I)I" } : Jvm.MethodName)) ∈ tb_all := wd_o4 (i := 26) rfl rfl
theorem wx_747 : (Jvm.Cond.selects "RouteHouse" ({ cls := "RouteHouse", name := "about", desc := "(I)I" } : Jvm.MethodName) ({ cls := "RouteHouse", name := "about", desc := "(I)I" } : Jvm.MethodName)) ∈ tb_all := wd_o4 (i := 27) rfl rfl
theorem mt_61 : lf_m 61 1 := ⟨rfl, wx_1, wx_748, ⟨by decide +kernel, by decide +kernel, by decide +kernel⟩, nofun, fun _ => ⟨⟨_, _, rfl⟩, wx_746, wx_747⟩, nofun⟩
theorem wx_24 : (Jvm.Cond.code ({ cls := "RouteHouse", name := "<init>", desc := "()V" } : Jvm.MethodName) prog_1_method_1_code (2 : Nat) (Option.none : Option Jvm.ClassFile.FieldType)) ∈ tb_all := wd_o1 (i := 24) rfl rfl
theorem wx_23 : (Jvm.Cond.instanceMethod ({ cls := "RouteHouse", name := "<init>", desc := "()V" } : Jvm.MethodName)) ∈ tb_all := wd_o1 (i := 23) rfl rfl
theorem mt_46 : lf_m 46 2 := ⟨rfl, wx_1, wx_24, ⟨by decide +kernel, by decide +kernel, by decide +kernel⟩, nofun, nofun, fun _ => ⟨rfl, rfl, wx_23⟩⟩
theorem wx_9 : (Jvm.Cond.initialized "RouteHouseModel") ∈ tb_all := wd_o1 (i := 9) rfl rfl
theorem wx_754 : (Jvm.Cond.code ({ cls := "RouteHouseModel", name := "<init>", desc := "()V" } : Jvm.MethodName) prog_11_method_1_code (2 : Nat) (Option.none : Option Jvm.ClassFile.FieldType)) ∈ tb_all := wd_o4 (i := 34) rfl rfl
theorem wx_753 : (Jvm.Cond.instanceMethod ({ cls := "RouteHouseModel", name := "<init>", desc := "()V" } : Jvm.MethodName)) ∈ tb_all := wd_o4 (i := 33) rfl rfl
theorem mt_73 : lf_m 73 2 := ⟨rfl, wx_9, wx_754, ⟨by decide +kernel, by decide +kernel, by decide +kernel⟩, nofun, nofun, fun _ => ⟨rfl, rfl, wx_753⟩⟩
theorem wx_893 : (Jvm.Cond.code ({ cls := "RouteHouseModel", name := "port", desc := "(III)V" } : Jvm.MethodName) prog_11_method_5_code (4 : Nat) (Option.none : Option Jvm.ClassFile.FieldType)) ∈ tb_all := wd_o4 (i := 173) rfl rfl
theorem wx_891 : (Jvm.Cond.instanceMethod ({ cls := "RouteHouseModel", name := "port", desc := "(III)V" } : Jvm.MethodName)) ∈ tb_all := wd_o4 (i := 171) rfl rfl
theorem wx_892 : (Jvm.Cond.selects "RouteHouseModel" ({ cls := "RouteHouseModel", name := "port", desc := "(III)V" } : Jvm.MethodName) ({ cls := "RouteHouseModel", name := "port", desc := "(III)V" } : Jvm.MethodName)) ∈ tb_all := wd_o4 (i := 172) rfl rfl
theorem mt_77 : lf_m 77 1 := ⟨rfl, wx_9, wx_893, ⟨by decide +kernel, by decide +kernel, by decide +kernel⟩, nofun, fun _ => ⟨⟨_, _, rfl⟩, wx_891, wx_892⟩, nofun⟩
theorem wx_889 : (Jvm.Cond.code ({ cls := "RouteHouseModel", name := "thrown", desc := "()I" } : Jvm.MethodName) prog_11_method_2_code (1 : Nat) (Option.some Jvm.ClassFile.FieldType.int)) ∈ tb_all := wd_o4 (i := 169) rfl rfl
theorem wx_887 : (Jvm.Cond.instanceMethod ({ cls := "RouteHouseModel", name := "thrown", desc := "()I" } : Jvm.MethodName)) ∈ tb_all := wd_o4 (i := 167) rfl rfl
theorem wx_888 : (Jvm.Cond.selects "RouteHouseModel" ({ cls := "RouteHouseModel", name := "thrown", desc := "()I" } : Jvm.MethodName) ({ cls := "RouteHouseModel", name := "thrown", desc := "()I" } : Jvm.MethodName)) ∈ tb_all := wd_o4 (i := 168) rfl rfl
theorem mt_74 : lf_m 74 1 := ⟨rfl, wx_9, wx_889, ⟨by decide +kernel, by decide +kernel, by decide +kernel⟩, nofun, fun _ => ⟨⟨_, _, rfl⟩, wx_887, wx_888⟩, nofun⟩
theorem wx_904 : (Jvm.Cond.code ({ cls := "RouteHouseModel", name := "up", desc := "(IZ)Z" } : Jvm.MethodName) prog_11_method_6_code (4 : Nat) (Option.some Jvm.ClassFile.FieldType.boolean)) ∈ tb_all := wd_o4 (i := 184) rfl rfl
theorem wx_902 : (Jvm.Cond.instanceMethod ({ cls := "RouteHouseModel", name := "up", desc := "(IZ)Z" } : Jvm.MethodName)) ∈ tb_all := wd_o4 (i := 182) rfl rfl
theorem wx_903 : (Jvm.Cond.selects "RouteHouseModel" ({ cls := "RouteHouseModel", name := "up", desc := "(IZ)Z" } : Jvm.MethodName) ({ cls := "RouteHouseModel", name := "up", desc := "(IZ)Z" } : Jvm.MethodName)) ∈ tb_all := wd_o4 (i := 183) rfl rfl
theorem mt_78 : lf_m 78 1 := ⟨rfl, wx_9, wx_904, ⟨by decide +kernel, by decide +kernel, by decide +kernel⟩, nofun, fun _ => ⟨⟨_, _, rfl⟩, wx_902, wx_903⟩, nofun⟩
theorem wx_908 : (Jvm.Cond.code ({ cls := "RouteHouseModel", name := "route", desc := "(IIII)I" } : Jvm.MethodName) prog_11_method_9_code (6 : Nat) (Option.some Jvm.ClassFile.FieldType.int)) ∈ tb_all := wd_o4 (i := 188) rfl rfl
theorem wx_906 : (Jvm.Cond.instanceMethod ({ cls := "RouteHouseModel", name := "route", desc := "(IIII)I" } : Jvm.MethodName)) ∈ tb_all := wd_o4 (i := 186) rfl rfl
theorem wx_907 : (Jvm.Cond.selects "RouteHouseModel" ({ cls := "RouteHouseModel", name := "route", desc := "(IIII)I" } : Jvm.MethodName) ({ cls := "RouteHouseModel", name := "route", desc := "(IIII)I" } : Jvm.MethodName)) ∈ tb_all := wd_o4 (i := 187) rfl rfl
theorem mt_81 : lf_m 81 1 := ⟨rfl, wx_9, wx_908, ⟨by decide +kernel, by decide +kernel, by decide +kernel⟩, nofun, fun _ => ⟨⟨_, _, rfl⟩, wx_906, wx_907⟩, nofun⟩
theorem wx_919 : (Jvm.Cond.code ({ cls := "RouteHouseModel", name := "unroute", desc := "(II)Z" } : Jvm.MethodName) prog_11_method_10_code (4 : Nat) (Option.some Jvm.ClassFile.FieldType.boolean)) ∈ tb_all := wd_o4 (i := 199) rfl rfl
theorem wx_917 : (Jvm.Cond.instanceMethod ({ cls := "RouteHouseModel", name := "unroute", desc := "(II)Z" } : Jvm.MethodName)) ∈ tb_all := wd_o4 (i := 197) rfl rfl
theorem wx_918 : (Jvm.Cond.selects "RouteHouseModel" ({ cls := "RouteHouseModel", name := "unroute", desc := "(II)Z" } : Jvm.MethodName) ({ cls := "RouteHouseModel", name := "unroute", desc := "(II)Z" } : Jvm.MethodName)) ∈ tb_all := wd_o4 (i := 198) rfl rfl
theorem mt_82 : lf_m 82 1 := ⟨rfl, wx_9, wx_919, ⟨by decide +kernel, by decide +kernel, by decide +kernel⟩, nofun, fun _ => ⟨⟨_, _, rfl⟩, wx_917, wx_918⟩, nofun⟩
theorem wx_923 : (Jvm.Cond.code ({ cls := "RouteHouseModel", name := "lookup", desc := "(II)I" } : Jvm.MethodName) prog_11_method_12_code (4 : Nat) (Option.some Jvm.ClassFile.FieldType.int)) ∈ tb_all := wd_o4 (i := 203) rfl rfl
theorem wx_921 : (Jvm.Cond.instanceMethod ({ cls := "RouteHouseModel", name := "lookup", desc := "(II)I" } : Jvm.MethodName)) ∈ tb_all := wd_o4 (i := 201) rfl rfl
theorem wx_922 : (Jvm.Cond.selects "RouteHouseModel" ({ cls := "RouteHouseModel", name := "lookup", desc := "(II)I" } : Jvm.MethodName) ({ cls := "RouteHouseModel", name := "lookup", desc := "(II)I" } : Jvm.MethodName)) ∈ tb_all := wd_o4 (i := 202) rfl rfl
theorem mt_84 : lf_m 84 1 := ⟨rfl, wx_9, wx_923, ⟨by decide +kernel, by decide +kernel, by decide +kernel⟩, nofun, fun _ => ⟨⟨_, _, rfl⟩, wx_921, wx_922⟩, nofun⟩
theorem wx_931 : (Jvm.Cond.code ({ cls := "RouteHouseModel", name := "feed", desc := "(IIIII)I" } : Jvm.MethodName) prog_11_method_13_code (8 : Nat) (Option.some Jvm.ClassFile.FieldType.int)) ∈ tb_all := wd_o4 (i := 211) rfl rfl
theorem wx_929 : (Jvm.Cond.instanceMethod ({ cls := "RouteHouseModel", name := "feed", desc := "(IIIII)I" } : Jvm.MethodName)) ∈ tb_all := wd_o4 (i := 209) rfl rfl
theorem wx_930 : (Jvm.Cond.selects "RouteHouseModel" ({ cls := "RouteHouseModel", name := "feed", desc := "(IIIII)I" } : Jvm.MethodName) ({ cls := "RouteHouseModel", name := "feed", desc := "(IIIII)I" } : Jvm.MethodName)) ∈ tb_all := wd_o4 (i := 210) rfl rfl
theorem mt_85 : lf_m 85 1 := ⟨rfl, wx_9, wx_931, ⟨by decide +kernel, by decide +kernel, by decide +kernel⟩, nofun, fun _ => ⟨⟨_, _, rfl⟩, wx_929, wx_930⟩, nofun⟩
theorem wx_935 : (Jvm.Cond.code ({ cls := "RouteHouseModel", name := "end", desc := "(I)V" } : Jvm.MethodName) prog_11_method_14_code (2 : Nat) (Option.none : Option Jvm.ClassFile.FieldType)) ∈ tb_all := wd_o4 (i := 215) rfl rfl
theorem wx_933 : (Jvm.Cond.instanceMethod ({ cls := "RouteHouseModel", name := "end", desc := "(I)V" } : Jvm.MethodName)) ∈ tb_all := wd_o4 (i := 213) rfl rfl
theorem wx_934 : (Jvm.Cond.selects "RouteHouseModel" ({ cls := "RouteHouseModel", name := "end", desc := "(I)V" } : Jvm.MethodName) ({ cls := "RouteHouseModel", name := "end", desc := "(I)V" } : Jvm.MethodName)) ∈ tb_all := wd_o4 (i := 214) rfl rfl
theorem mt_86 : lf_m 86 1 := ⟨rfl, wx_9, wx_935, ⟨by decide +kernel, by decide +kernel, by decide +kernel⟩, nofun, fun _ => ⟨⟨_, _, rfl⟩, wx_933, wx_934⟩, nofun⟩
theorem wx_939 : (Jvm.Cond.code ({ cls := "RouteHouseModel", name := "sum", desc := "(I)V" } : Jvm.MethodName) prog_11_method_20_code (2 : Nat) (Option.none : Option Jvm.ClassFile.FieldType)) ∈ tb_all := wd_o4 (i := 219) rfl rfl
theorem wx_937 : (Jvm.Cond.instanceMethod ({ cls := "RouteHouseModel", name := "sum", desc := "(I)V" } : Jvm.MethodName)) ∈ tb_all := wd_o4 (i := 217) rfl rfl
theorem wx_938 : (Jvm.Cond.selects "RouteHouseModel" ({ cls := "RouteHouseModel", name := "sum", desc := "(I)V" } : Jvm.MethodName) ({ cls := "RouteHouseModel", name := "sum", desc := "(I)V" } : Jvm.MethodName)) ∈ tb_all := wd_o4 (i := 218) rfl rfl
theorem mt_92 : lf_m 92 1 := ⟨rfl, wx_9, wx_939, ⟨by decide +kernel, by decide +kernel, by decide +kernel⟩, nofun, fun _ => ⟨⟨_, _, rfl⟩, wx_937, wx_938⟩, nofun⟩
theorem wx_950 : (Jvm.Cond.code ({ cls := "RouteHouseModel", name := "copy", desc := "(I)I" } : Jvm.MethodName) prog_11_method_21_code (3 : Nat) (Option.some Jvm.ClassFile.FieldType.int)) ∈ tb_all := wd_o4 (i := 230) rfl rfl
theorem wx_948 : (Jvm.Cond.instanceMethod ({ cls := "RouteHouseModel", name := "copy", desc := "(I)I" } : Jvm.MethodName)) ∈ tb_all := wd_o4 (i := 228) rfl rfl
theorem wx_949 : (Jvm.Cond.selects "RouteHouseModel" ({ cls := "RouteHouseModel", name := "copy", desc := "(I)I" } : Jvm.MethodName) ({ cls := "RouteHouseModel", name := "copy", desc := "(I)I" } : Jvm.MethodName)) ∈ tb_all := wd_o4 (i := 229) rfl rfl
theorem mt_93 : lf_m 93 1 := ⟨rfl, wx_9, wx_950, ⟨by decide +kernel, by decide +kernel, by decide +kernel⟩, nofun, fun _ => ⟨⟨_, _, rfl⟩, wx_948, wx_949⟩, nofun⟩
theorem wx_954 : (Jvm.Cond.code ({ cls := "RouteHouseModel", name := "receive", desc := "(I)I" } : Jvm.MethodName) prog_11_method_40_code (4 : Nat) (Option.some Jvm.ClassFile.FieldType.int)) ∈ tb_all := wd_o4 (i := 234) rfl rfl
theorem wx_952 : (Jvm.Cond.instanceMethod ({ cls := "RouteHouseModel", name := "receive", desc := "(I)I" } : Jvm.MethodName)) ∈ tb_all := wd_o4 (i := 232) rfl rfl
theorem wx_953 : (Jvm.Cond.selects "RouteHouseModel" ({ cls := "RouteHouseModel", name := "receive", desc := "(I)I" } : Jvm.MethodName) ({ cls := "RouteHouseModel", name := "receive", desc := "(I)I" } : Jvm.MethodName)) ∈ tb_all := wd_o4 (i := 233) rfl rfl
theorem mt_112 : lf_m 112 1 := ⟨rfl, wx_9, wx_954, ⟨by decide +kernel, by decide +kernel, by decide +kernel⟩, nofun, fun _ => ⟨⟨_, _, rfl⟩, wx_952, wx_953⟩, nofun⟩
theorem wx_1040 : (Jvm.Cond.code ({ cls := "RouteHouseModel", name := "pass", desc := "(I)I" } : Jvm.MethodName) prog_11_method_42_code (3 : Nat) (Option.some Jvm.ClassFile.FieldType.int)) ∈ tb_all := wd_o5 (i := 80) rfl rfl
theorem wx_1038 : (Jvm.Cond.instanceMethod ({ cls := "RouteHouseModel", name := "pass", desc := "(I)I" } : Jvm.MethodName)) ∈ tb_all := wd_o5 (i := 78) rfl rfl
theorem wx_1039 : (Jvm.Cond.selects "RouteHouseModel" ({ cls := "RouteHouseModel", name := "pass", desc := "(I)I" } : Jvm.MethodName) ({ cls := "RouteHouseModel", name := "pass", desc := "(I)I" } : Jvm.MethodName)) ∈ tb_all := wd_o5 (i := 79) rfl rfl
theorem mt_114 : lf_m 114 1 := ⟨rfl, wx_9, wx_1040, ⟨by decide +kernel, by decide +kernel, by decide +kernel⟩, nofun, fun _ => ⟨⟨_, _, rfl⟩, wx_1038, wx_1039⟩, nofun⟩
theorem wx_1048 : (Jvm.Cond.code ({ cls := "RouteHouseModel", name := "sent", desc := "(II)I" } : Jvm.MethodName) prog_11_method_43_code (3 : Nat) (Option.some Jvm.ClassFile.FieldType.int)) ∈ tb_all := wd_o5 (i := 88) rfl rfl
theorem wx_1046 : (Jvm.Cond.instanceMethod ({ cls := "RouteHouseModel", name := "sent", desc := "(II)I" } : Jvm.MethodName)) ∈ tb_all := wd_o5 (i := 86) rfl rfl
theorem wx_1047 : (Jvm.Cond.selects "RouteHouseModel" ({ cls := "RouteHouseModel", name := "sent", desc := "(II)I" } : Jvm.MethodName) ({ cls := "RouteHouseModel", name := "sent", desc := "(II)I" } : Jvm.MethodName)) ∈ tb_all := wd_o5 (i := 87) rfl rfl
theorem mt_115 : lf_m 115 1 := ⟨rfl, wx_9, wx_1048, ⟨by decide +kernel, by decide +kernel, by decide +kernel⟩, nofun, fun _ => ⟨⟨_, _, rfl⟩, wx_1046, wx_1047⟩, nofun⟩
theorem wx_1052 : (Jvm.Cond.code ({ cls := "RouteHouseModel", name := "out", desc := "(II)I" } : Jvm.MethodName) prog_11_method_44_code (3 : Nat) (Option.some Jvm.ClassFile.FieldType.int)) ∈ tb_all := wd_o5 (i := 92) rfl rfl
theorem wx_1050 : (Jvm.Cond.instanceMethod ({ cls := "RouteHouseModel", name := "out", desc := "(II)I" } : Jvm.MethodName)) ∈ tb_all := wd_o5 (i := 90) rfl rfl
theorem wx_1051 : (Jvm.Cond.selects "RouteHouseModel" ({ cls := "RouteHouseModel", name := "out", desc := "(II)I" } : Jvm.MethodName) ({ cls := "RouteHouseModel", name := "out", desc := "(II)I" } : Jvm.MethodName)) ∈ tb_all := wd_o5 (i := 91) rfl rfl
theorem mt_116 : lf_m 116 1 := ⟨rfl, wx_9, wx_1052, ⟨by decide +kernel, by decide +kernel, by decide +kernel⟩, nofun, fun _ => ⟨⟨_, _, rfl⟩, wx_1050, wx_1051⟩, nofun⟩
theorem wx_263 : (Jvm.Cond.code ({ cls := "RouteHouse", name := "data", desc := "(I)I" } : Jvm.MethodName) prog_1_method_15_code (2 : Nat) (Option.some Jvm.ClassFile.FieldType.int)) ∈ tb_all := wd_o2 (i := 23) rfl rfl
theorem wx_261 : (Jvm.Cond.instanceMethod ({ cls := "RouteHouse", name := "data", desc := "(I)I" } : Jvm.MethodName)) ∈ tb_all := wd_o2 (i := 21) rfl rfl
theorem wx_262 : (Jvm.Cond.selects "RouteHouse" ({ cls := "RouteHouse", name := "data", desc := "(I)I" } : Jvm.MethodName) ({ cls := "RouteHouse", name := "data", desc := "(I)I" } : Jvm.MethodName)) ∈ tb_all := wd_o2 (i := 22) rfl rfl
theorem mt_60 : lf_m 60 1 := ⟨rfl, wx_1, wx_263, ⟨by decide +kernel, by decide +kernel, by decide +kernel⟩, nofun, fun _ => ⟨⟨_, _, rfl⟩, wx_261, wx_262⟩, nofun⟩
theorem wx_1056 : (Jvm.Cond.code ({ cls := "RouteHouseModel", name := "data", desc := "(I)I" } : Jvm.MethodName) prog_11_method_45_code (2 : Nat) (Option.some Jvm.ClassFile.FieldType.int)) ∈ tb_all := wd_o5 (i := 96) rfl rfl
theorem wx_1054 : (Jvm.Cond.instanceMethod ({ cls := "RouteHouseModel", name := "data", desc := "(I)I" } : Jvm.MethodName)) ∈ tb_all := wd_o5 (i := 94) rfl rfl
theorem wx_1055 : (Jvm.Cond.selects "RouteHouseModel" ({ cls := "RouteHouseModel", name := "data", desc := "(I)I" } : Jvm.MethodName) ({ cls := "RouteHouseModel", name := "data", desc := "(I)I" } : Jvm.MethodName)) ∈ tb_all := wd_o5 (i := 95) rfl rfl
theorem mt_117 : lf_m 117 1 := ⟨rfl, wx_9, wx_1056, ⟨by decide +kernel, by decide +kernel, by decide +kernel⟩, nofun, fun _ => ⟨⟨_, _, rfl⟩, wx_1054, wx_1055⟩, nofun⟩
theorem wx_1060 : (Jvm.Cond.code ({ cls := "RouteHouseModel", name := "about", desc := "(I)I" } : Jvm.MethodName) prog_11_method_46_code (2 : Nat) (Option.some Jvm.ClassFile.FieldType.int)) ∈ tb_all := wd_o5 (i := 100) rfl rfl
theorem wx_1058 : (Jvm.Cond.instanceMethod ({ cls := "RouteHouseModel", name := "about", desc := "(I)I" } : Jvm.MethodName)) ∈ tb_all := wd_o5 (i := 98) rfl rfl
theorem wx_1059 : (Jvm.Cond.selects "RouteHouseModel" ({ cls := "RouteHouseModel", name := "about", desc := "(I)I" } : Jvm.MethodName) ({ cls := "RouteHouseModel", name := "about", desc := "(I)I" } : Jvm.MethodName)) ∈ tb_all := wd_o5 (i := 99) rfl rfl
theorem mt_118 : lf_m 118 1 := ⟨rfl, wx_9, wx_1060, ⟨by decide +kernel, by decide +kernel, by decide +kernel⟩, nofun, fun _ => ⟨⟨_, _, rfl⟩, wx_1058, wx_1059⟩, nofun⟩
theorem wx_269 : (Jvm.Cond.methodLink "RouteHouseLaw" (7 : Nat) ({ cls := "RouteHouse", name := "port", desc := "(III)V" } : Jvm.MethodName)) ∈ tb_all := wd_o2 (i := 29) rfl rfl
theorem wx_266 : (Jvm.Cond.codeWith ({ cls := "RouteHouseLaw", name := "port", desc := "(LRouteHouse;III)I" } : Jvm.MethodName) method_3_code (5 : Nat) (Option.some Jvm.ClassFile.FieldType.int) [((0 : Nat), (7 : Nat), (10 : Nat), (13 : Nat)), ((0 : Nat), (7 : Nat), (14 : Nat), (15 : Nat))]) ∈ tb_all := wd_o2 (i := 26) rfl rfl
theorem wx_267 : (Jvm.Cond.classLink "RouteHouseLaw" (13 : Nat) "java/lang/IndexOutOfBoundsException") ∈ tb_all := wd_o2 (i := 27) rfl rfl
theorem wx_268 : (Jvm.Cond.classLink "RouteHouseLaw" (15 : Nat) "java/lang/IllegalArgumentException") ∈ tb_all := wd_o2 (i := 28) rfl rfl
theorem d9_port_0 : decode method_3_code 0 = .ok (.aload_n 0, 1) := by decide +kernel
theorem d9_port_1 : decode method_3_code 1 = .ok (.iload_n 1, 1) := by decide +kernel
theorem d9_port_2 : decode method_3_code 2 = .ok (.iload_n 2, 1) := by decide +kernel
theorem d9_port_3 : decode method_3_code 3 = .ok (.iload_n 3, 1) := by decide +kernel
theorem d9_port_4 : decode method_3_code 4 = .ok (.invokevirtual 7, 3) := by decide +kernel
theorem d9_port_7 : decode method_3_code 7 = .ok (.goto 11, 3) := by decide +kernel
theorem d9_port_10 : decode method_3_code 10 = .ok (.astore 4, 2) := by decide +kernel
theorem d9_port_12 : decode method_3_code 12 = .ok (.iconst 1, 1) := by decide +kernel
theorem d9_port_13 : decode method_3_code 13 = .ok (.ireturn, 1) := by decide +kernel
theorem d9_port_14 : decode method_3_code 14 = .ok (.astore 4, 2) := by decide +kernel
theorem d9_port_16 : decode method_3_code 16 = .ok (.iconst 2, 1) := by decide +kernel
theorem d9_port_17 : decode method_3_code 17 = .ok (.ireturn, 1) := by decide +kernel
theorem d9_port_18 : decode method_3_code 18 = .ok (.iconst 0, 1) := by decide +kernel
theorem d9_port_19 : decode method_3_code 19 = .ok (.ireturn, 1) := by decide +kernel
def yw_port : MethodName := ⟨"RouteHouseLaw", "port", "(LRouteHouse;III)I"⟩
def ww_port : List Jvm.Cond := .codeWith yw_port method_3_code 5 (some .int) [(0, 7, 10, 13), (0, 7, 14, 15)] :: tb_all
set_option maxHeartbeats 4000000 in
set_option maxRecDepth 100000 in
theorem wr_port {l : Launch} (hlt : l.stackTraces = false) (D : va_G) {ad : List Nat} {h : hp_T} {qa qo sz d f0 : Nat} {p0 p1 p2 : Int32} {f : Nat → Int64} {o : ev_O} (hev : ev_m d f0 47 [.ref 0, .int p0, .int p1, .int p2] h = some o) (hk0 : hp_k h 0 = some (7, 0)) (hqa : ad[0]? = some qa) (hkd : o.2.1 = h.1) {mc ms : Nat} (hmc : mc + hp_c h = hp_c o.2) (hms : ms + hp_s h = hp_s o.2) (ho : o.1 = .inl none) : Met l yw_port ww_port (sw_rm 47 mc ms) (sw_P D ad h qo f sz [.ref qa, .int p0, .int p1, .int p2]) (sw_Q D ad o.2 qo sz 0 (fun f2 => True)) mc ms (sd_fr (qo :: ad) sz) := by
  obtain ⟨r, h2⟩ := o
  cases ho
  have hmc : mc + hp_c h = hp_c h2 := hmc
  have hms : ms + hp_s h = hp_s h2 := hms
  refine va_MetW (cc := method_3_code) (maxL := 5) (ret := some .int) (hh := [(0, 7, 10, 13), (0, 7, 14, 15)]) (by decide +kernel) rfl ?_
  intro p e s m args below meth c s₁ B hml hv
  obtain ⟨rfl, hsz, hw, hc0, hxh, hxa, hg, hn⟩ := hv
  have hx := B.exec
  have hb := B.bytes
  have hr := B.returns
  have hts := atoms_spec (ws := ww_port) B.pre
  have hall : ∀ w ∈ tb_all, w.before _ s = true := fun w h => hts w (List.mem_cons_of_mem _ h)
  have hown : s.vm.findClass "RouteHouseLaw" = some m.cls := findClass_of_methodNamed B.named
  have hlocks := B.notSynchronized
  have htab := sw_tab B (hts _ List.mem_cons_self)
  subst hsz
  have hA : ∀ q, s.heap.size ≤ q → sd_fr (qo :: ad) s.heap.size q := fun q h => Or.inr h
  generalize hAe : sd_fr (qo :: ad) s.heap.size = A at hw hc0 hA
  have hR : sw_R s s.heap := ⟨hxh, hxa, hg, fun _ _ h _ => h⟩
  have hl := lv_entry ([.ref qa, .int p0, .int p1, .int p2]) (n := 5) (Nat.le_of_ble_eq_true rfl)
  rw [lg_entry_eq]
  generalize (lg_sl ([.ref qa, .int p0, .int p1, .int p2]) ++ List.replicate (5 - (lg_sl ([.ref qa, .int p0, .int p1, .int p2])).length) Slot.unset).toArray = ls at hl ⊢
  have hl : lv_has ls 5 [(0, .ref qa), (1, .int p0), (2, .int p1), (3, .int p2)] := hl
  refine lv_aload_n hx hb d9_port_0 rfl (lv_at hl 0 rfl) ?_
  refine lv_iload_n hx hb d9_port_1 rfl (lv_at hl 1 rfl) ?_
  refine lv_iload_n hx hb d9_port_2 rfl (lv_at hl 2 rfl) ?_
  refine lv_iload_n hx hb d9_port_3 rfl (lv_at hl 3 rfl) ?_
  refine sw_ret hlt (AsC := [.int p0, .int p1, .int p2]) (K := []) hev rfl hx hb hml hown hts (sw_good mt_47.2.2.1) (hall _ wx_269) mt_47 hall (Nat.le_refl _) (Nat.le_refl _) hw va_S.rf hA hR hk0 hqa ⟨rfl, rfl, rfl, trivial⟩ rfl hl.1 (Nat.le_of_ble_eq_true rfl) d9_port_4 (by show 0 + _ ≤ mc; omega) (by show 0 + _ ≤ ms; omega) (fun w z H1 locs1 hw1 hS1 hq1 hz1 hk1 hR1 => ?_)
  cases sw_z hw hw1 hkd
  rw [List.append_nil] at hw1 hq1
  have hc1 := sw_ck hc0 hk1
  have ec : 0 + (hp_c h2 - hp_c h) = mc := by omega
  have es : 0 + (hp_s h2 - hp_s h) = ms := by omega
  rw [ec, es]
  cases w with
  | some w => exact False.elim hq1
  | none =>
    refine W.eq (g2 := F0 m 7 ls []) rfl ?_
    refine lv_goto (tgt := 18) hx hb d9_port_7 (by decide) ?_
    refine lv_iconst (v := 0) hx hb d9_port_18 (by decide) ?_
    subst hAe
    exact W.iret hx hb hr (fun t ht hW => ⟨_, trivial, rfl, by rw [ht]; exact sd_w_moved hW.alike hw1, by rw [ht]; exact sw_cmoved hW.alike hc1, hS1.F ht⟩) hS1.2.2 d9_port_19
set_option maxHeartbeats 4000000 in
set_option maxRecDepth 100000 in
theorem wt_port_0 {l : Launch} (hlt : l.stackTraces = false) (D : va_G) {ad : List Nat} {h : hp_T} {qa qo sz d f0 : Nat} {p0 p1 p2 : Int32} {f : Nat → Int64} {o : ev_O} (hev : ev_m d f0 47 [.ref 0, .int p0, .int p1, .int p2] h = some o) (hk0 : hp_k h 0 = some (7, 0)) (hqa : ad[0]? = some qa) (hkd : o.2.1 = h.1) {mc ms : Nat} (hmc : mc + hp_c h = hp_c o.2) (hms : ms + hp_s h = hp_s o.2) (ho : o.1 = .inr 0) : Met l yw_port ww_port (sw_rm 47 mc ms) (sw_P D ad h qo f sz [.ref qa, .int p0, .int p1, .int p2]) (sw_Q D ad o.2 qo sz 1 (fun _ => True)) mc ms (sd_fr (qo :: ad) sz) := by
  obtain ⟨r, h2⟩ := o
  cases ho
  have hmc : mc + hp_c h = hp_c h2 := hmc
  have hms : ms + hp_s h = hp_s h2 := hms
  refine va_MetW (cc := method_3_code) (maxL := 5) (ret := some .int) (hh := [(0, 7, 10, 13), (0, 7, 14, 15)]) (by decide +kernel) rfl ?_
  intro p e s m args below meth c s₁ B hml hv
  obtain ⟨rfl, hsz, hw, hc0, hxh, hxa, hg, hn⟩ := hv
  have hx := B.exec
  have hb := B.bytes
  have hr := B.returns
  have hts := atoms_spec (ws := ww_port) B.pre
  have hall : ∀ w ∈ tb_all, w.before _ s = true := fun w h => hts w (List.mem_cons_of_mem _ h)
  have hown : s.vm.findClass "RouteHouseLaw" = some m.cls := findClass_of_methodNamed B.named
  have hlocks := B.notSynchronized
  have htab := sw_tab B (hts _ List.mem_cons_self)
  subst hsz
  have hA : ∀ q, s.heap.size ≤ q → sd_fr (qo :: ad) s.heap.size q := fun q h => Or.inr h
  generalize hAe : sd_fr (qo :: ad) s.heap.size = A at hw hc0 hA
  have hR : sw_R s s.heap := ⟨hxh, hxa, hg, fun _ _ h _ => h⟩
  have hl := lv_entry ([.ref qa, .int p0, .int p1, .int p2]) (n := 5) (Nat.le_of_ble_eq_true rfl)
  rw [lg_entry_eq]
  generalize (lg_sl ([.ref qa, .int p0, .int p1, .int p2]) ++ List.replicate (5 - (lg_sl ([.ref qa, .int p0, .int p1, .int p2])).length) Slot.unset).toArray = ls at hl ⊢
  have hl : lv_has ls 5 [(0, .ref qa), (1, .int p0), (2, .int p1), (3, .int p2)] := hl
  refine lv_aload_n hx hb d9_port_0 rfl (lv_at hl 0 rfl) ?_
  refine lv_iload_n hx hb d9_port_1 rfl (lv_at hl 1 rfl) ?_
  refine lv_iload_n hx hb d9_port_2 rfl (lv_at hl 2 rfl) ?_
  refine lv_iload_n hx hb d9_port_3 rfl (lv_at hl 3 rfl) ?_
  refine sw_thr hlt (AsC := [.int p0, .int p1, .int p2]) (K := []) hev rfl hx hb hml hown hts (sw_good mt_47.2.2.1) (hall _ wx_269) mt_47 hall (Nat.le_refl _) (Nat.le_refl _) hw va_S.rf hA hR hk0 hqa ⟨rfl, rfl, rfl, trivial⟩ rfl hl.1 (Nat.le_of_ble_eq_true rfl) d9_port_4 (by show 0 + _ ≤ mc; omega) (by show 0 + _ ≤ ms; omega) (fun ce q z H1 locs1 hw1 hS1 hz1 hk1 hR1 hce hcv hcl => ?_)
  cases sw_z hw hw1 hkd
  rw [List.append_nil] at hw1
  have hc1 := sw_ck hc0 hk1
  have ec : 0 + (hp_c h2 - hp_c h) = mc := by omega
  have es : 0 + (hp_s h2 - hp_s h) = ms := by omega
  rw [ec, es]
  refine sc_catch (own := "RouteHouseLaw") (E := "java/lang/IndexOutOfBoundsException") (nm := "java/lang/IndexOutOfBoundsException") hown [] ⟨0, 7, 10, 13⟩ [⟨0, 7, 14, 15⟩] htab (fun _ h => absurd h List.not_mem_nil) (by decide) (by decide) (hall _ wx_267) (sx_word (State.WarmedH.refl s) rfl rfl (hxa.1 _ wl_279 rfl rfl)) hce hcv hcl ?_
  refine lv_astore hx hb d9_port_10 hl (by decide) rfl (fun ls2 hl2 => ?_)
  refine lv_iconst (v := 1) hx hb d9_port_12 (by decide) ?_
  subst hAe
  exact W.iret hx hb hr (fun t ht hW => ⟨f, trivial, rfl, by rw [ht]; exact sd_w_moved hW.alike hw1, by rw [ht]; exact sw_cmoved hW.alike hc1, hS1.F ht⟩) hS1.2.2 d9_port_13
set_option maxHeartbeats 4000000 in
set_option maxRecDepth 100000 in
theorem wt_port_1 {l : Launch} (hlt : l.stackTraces = false) (D : va_G) {ad : List Nat} {h : hp_T} {qa qo sz d f0 : Nat} {p0 p1 p2 : Int32} {f : Nat → Int64} {o : ev_O} (hev : ev_m d f0 47 [.ref 0, .int p0, .int p1, .int p2] h = some o) (hk0 : hp_k h 0 = some (7, 0)) (hqa : ad[0]? = some qa) (hkd : o.2.1 = h.1) {mc ms : Nat} (hmc : mc + hp_c h = hp_c o.2) (hms : ms + hp_s h = hp_s o.2) (ho : o.1 = .inr 1) : Met l yw_port ww_port (sw_rm 47 mc ms) (sw_P D ad h qo f sz [.ref qa, .int p0, .int p1, .int p2]) (sw_Q D ad o.2 qo sz 2 (fun _ => True)) mc ms (sd_fr (qo :: ad) sz) := by
  obtain ⟨r, h2⟩ := o
  cases ho
  have hmc : mc + hp_c h = hp_c h2 := hmc
  have hms : ms + hp_s h = hp_s h2 := hms
  refine va_MetW (cc := method_3_code) (maxL := 5) (ret := some .int) (hh := [(0, 7, 10, 13), (0, 7, 14, 15)]) (by decide +kernel) rfl ?_
  intro p e s m args below meth c s₁ B hml hv
  obtain ⟨rfl, hsz, hw, hc0, hxh, hxa, hg, hn⟩ := hv
  have hx := B.exec
  have hb := B.bytes
  have hr := B.returns
  have hts := atoms_spec (ws := ww_port) B.pre
  have hall : ∀ w ∈ tb_all, w.before _ s = true := fun w h => hts w (List.mem_cons_of_mem _ h)
  have hown : s.vm.findClass "RouteHouseLaw" = some m.cls := findClass_of_methodNamed B.named
  have hlocks := B.notSynchronized
  have htab := sw_tab B (hts _ List.mem_cons_self)
  subst hsz
  have hA : ∀ q, s.heap.size ≤ q → sd_fr (qo :: ad) s.heap.size q := fun q h => Or.inr h
  generalize hAe : sd_fr (qo :: ad) s.heap.size = A at hw hc0 hA
  have hR : sw_R s s.heap := ⟨hxh, hxa, hg, fun _ _ h _ => h⟩
  have hl := lv_entry ([.ref qa, .int p0, .int p1, .int p2]) (n := 5) (Nat.le_of_ble_eq_true rfl)
  rw [lg_entry_eq]
  generalize (lg_sl ([.ref qa, .int p0, .int p1, .int p2]) ++ List.replicate (5 - (lg_sl ([.ref qa, .int p0, .int p1, .int p2])).length) Slot.unset).toArray = ls at hl ⊢
  have hl : lv_has ls 5 [(0, .ref qa), (1, .int p0), (2, .int p1), (3, .int p2)] := hl
  refine lv_aload_n hx hb d9_port_0 rfl (lv_at hl 0 rfl) ?_
  refine lv_iload_n hx hb d9_port_1 rfl (lv_at hl 1 rfl) ?_
  refine lv_iload_n hx hb d9_port_2 rfl (lv_at hl 2 rfl) ?_
  refine lv_iload_n hx hb d9_port_3 rfl (lv_at hl 3 rfl) ?_
  refine sw_thr hlt (AsC := [.int p0, .int p1, .int p2]) (K := []) hev rfl hx hb hml hown hts (sw_good mt_47.2.2.1) (hall _ wx_269) mt_47 hall (Nat.le_refl _) (Nat.le_refl _) hw va_S.rf hA hR hk0 hqa ⟨rfl, rfl, rfl, trivial⟩ rfl hl.1 (Nat.le_of_ble_eq_true rfl) d9_port_4 (by show 0 + _ ≤ mc; omega) (by show 0 + _ ≤ ms; omega) (fun ce q z H1 locs1 hw1 hS1 hz1 hk1 hR1 hce hcv hcl => ?_)
  cases sw_z hw hw1 hkd
  rw [List.append_nil] at hw1
  have hc1 := sw_ck hc0 hk1
  have ec : 0 + (hp_c h2 - hp_c h) = mc := by omega
  have es : 0 + (hp_s h2 - hp_s h) = ms := by omega
  rw [ec, es]
  refine sc_catch (own := "RouteHouseLaw") (E := "java/lang/IllegalArgumentException") (nm := "java/lang/IllegalArgumentException") hown [⟨0, 7, 10, 13⟩] ⟨0, 7, 14, 15⟩ [] htab (List.forall_mem_cons.mpr ⟨⟨by decide, by decide, "java/lang/IndexOutOfBoundsException", hall _ wx_267, hn.2.1⟩, fun _ h => absurd h List.not_mem_nil⟩) (by decide) (by decide) (hall _ wx_268) (sx_word (State.WarmedH.refl s) rfl rfl (hxa.1 _ wl_347 rfl rfl)) hce hcv hcl ?_
  refine lv_astore hx hb d9_port_14 hl (by decide) rfl (fun ls2 hl2 => ?_)
  refine lv_iconst (v := 2) hx hb d9_port_16 (by decide) ?_
  subst hAe
  exact W.iret hx hb hr (fun t ht hW => ⟨f, trivial, rfl, by rw [ht]; exact sd_w_moved hW.alike hw1, by rw [ht]; exact sw_cmoved hW.alike hc1, hS1.F ht⟩) hS1.2.2 d9_port_17
theorem wx_364 : (Jvm.Cond.methodLink "RouteHouseLaw" (17 : Nat) ({ cls := "RouteHouse", name := "up", desc := "(IZ)Z" } : Jvm.MethodName)) ∈ tb_all := wd_o2 (i := 124) rfl rfl
theorem wx_363 : (Jvm.Cond.codeWith ({ cls := "RouteHouseLaw", name := "up", desc := "(LRouteHouse;IZ[J)I" } : Jvm.MethodName) method_4_code (5 : Nat) (Option.some Jvm.ClassFile.FieldType.int) [((0 : Nat), (17 : Nat), (20 : Nat), (13 : Nat))]) ∈ tb_all := wd_o2 (i := 123) rfl rfl
theorem d9_up_0 : decode method_4_code 0 = .ok (.aload_n 3, 1) := by decide +kernel
theorem d9_up_1 : decode method_4_code 1 = .ok (.iconst 0, 1) := by decide +kernel
theorem d9_up_2 : decode method_4_code 2 = .ok (.aload_n 0, 1) := by decide +kernel
theorem d9_up_3 : decode method_4_code 3 = .ok (.iload_n 1, 1) := by decide +kernel
theorem d9_up_4 : decode method_4_code 4 = .ok (.iload_n 2, 1) := by decide +kernel
theorem d9_up_5 : decode method_4_code 5 = .ok (.invokevirtual 17, 3) := by decide +kernel
theorem d9_up_8 : decode method_4_code 8 = .ok (.ifCond .eq 7, 3) := by decide +kernel
theorem d9_up_11 : decode method_4_code 11 = .ok (.lconst 1, 1) := by decide +kernel
theorem d9_up_12 : decode method_4_code 12 = .ok (.goto 4, 3) := by decide +kernel
theorem d9_up_15 : decode method_4_code 15 = .ok (.lconst 0, 1) := by decide +kernel
theorem d9_up_16 : decode method_4_code 16 = .ok (.lastore, 1) := by decide +kernel
theorem d9_up_17 : decode method_4_code 17 = .ok (.goto 7, 3) := by decide +kernel
theorem d9_up_20 : decode method_4_code 20 = .ok (.astore 4, 2) := by decide +kernel
theorem d9_up_22 : decode method_4_code 22 = .ok (.iconst 1, 1) := by decide +kernel
theorem d9_up_23 : decode method_4_code 23 = .ok (.ireturn, 1) := by decide +kernel
theorem d9_up_24 : decode method_4_code 24 = .ok (.iconst 0, 1) := by decide +kernel
theorem d9_up_25 : decode method_4_code 25 = .ok (.ireturn, 1) := by decide +kernel
def yw_up : MethodName := ⟨"RouteHouseLaw", "up", "(LRouteHouse;IZ[J)I"⟩
def ww_up : List Jvm.Cond := .codeWith yw_up method_4_code 5 (some .int) [(0, 17, 20, 13)] :: tb_all
set_option maxHeartbeats 4000000 in
set_option maxRecDepth 100000 in
theorem wr_up {l : Launch} (hlt : l.stackTraces = false) (D : va_G) {ad : List Nat} {h : hp_T} {qa qo sz d f0 : Nat} {p0 p1 : Int32} {f : Nat → Int64} {o : ev_O} (hev : ev_m d f0 48 [.ref 0, .int p0, .int p1] h = some o) (hk0 : hp_k h 0 = some (7, 0)) (hqa : ad[0]? = some qa) (hkd : o.2.1 = h.1) {mc ms : Nat} (hmc : mc + hp_c h = hp_c o.2) (hms : ms + hp_s h = hp_s o.2) {v : Int32} (hv01 : v = 0 ∨ v = 1) (ho : o.1 = .inl (some (.int v))) : Met l yw_up ww_up (sw_rm 48 mc ms) (sw_P D ad h qo f sz [.ref qa, .int p0, .int p1, .ref qo]) (sw_Q D ad o.2 qo sz 0 (fun f2 => f2 0 = v.toInt64)) mc ms (sd_fr (qo :: ad) sz) := by
  obtain ⟨r, h2⟩ := o
  cases ho
  have hmc : mc + hp_c h = hp_c h2 := hmc
  have hms : ms + hp_s h = hp_s h2 := hms
  refine va_MetW (cc := method_4_code) (maxL := 5) (ret := some .int) (hh := [(0, 17, 20, 13)]) (by decide +kernel) rfl ?_
  intro p e s m args below meth c s₁ B hml hv
  obtain ⟨rfl, hsz, hw, hc0, hxh, hxa, hg, hn⟩ := hv
  have hx := B.exec
  have hb := B.bytes
  have hr := B.returns
  have hts := atoms_spec (ws := ww_up) B.pre
  have hall : ∀ w ∈ tb_all, w.before _ s = true := fun w h => hts w (List.mem_cons_of_mem _ h)
  have hown : s.vm.findClass "RouteHouseLaw" = some m.cls := findClass_of_methodNamed B.named
  have hlocks := B.notSynchronized
  have htab := sw_tab B (hts _ List.mem_cons_self)
  subst hsz
  have hA : ∀ q, s.heap.size ≤ q → sd_fr (qo :: ad) s.heap.size q := fun q h => Or.inr h
  generalize hAe : sd_fr (qo :: ad) s.heap.size = A at hw hc0 hA
  have hR : sw_R s s.heap := ⟨hxh, hxa, hg, fun _ _ h _ => h⟩
  have hl := lv_entry ([.ref qa, .int p0, .int p1, .ref qo]) (n := 5) (Nat.le_of_ble_eq_true rfl)
  rw [lg_entry_eq]
  generalize (lg_sl ([.ref qa, .int p0, .int p1, .ref qo]) ++ List.replicate (5 - (lg_sl ([.ref qa, .int p0, .int p1, .ref qo])).length) Slot.unset).toArray = ls at hl ⊢
  have hl : lv_has ls 5 [(0, .ref qa), (1, .int p0), (2, .int p1), (3, .ref qo)] := hl
  refine lv_aload_n hx hb d9_up_0 rfl (lv_at hl 3 rfl) ?_
  refine lv_iconst (v := 0) hx hb d9_up_1 (by decide) ?_
  refine lv_aload_n hx hb d9_up_2 rfl (lv_at hl 0 rfl) ?_
  refine lv_iload_n hx hb d9_up_3 rfl (lv_at hl 1 rfl) ?_
  refine lv_iload_n hx hb d9_up_4 rfl (lv_at hl 2 rfl) ?_
  refine sw_ret hlt (AsC := [.int p0, .int p1]) (K := [.int 0, .ref qo]) hev rfl hx hb hml hown hts (sw_good mt_48.2.2.1) (hall _ wx_364) mt_48 hall (Nat.le_refl _) (Nat.le_refl _) hw va_S.rf hA hR hk0 hqa ⟨rfl, rfl, trivial⟩ rfl hl.1 (Nat.le_of_ble_eq_true rfl) d9_up_5 (by show 0 + _ ≤ mc; omega) (by show 0 + _ ≤ ms; omega) (fun w z H1 locs1 hw1 hS1 hq1 hz1 hk1 hR1 => ?_)
  cases sw_z hw hw1 hkd
  rw [List.append_nil] at hw1 hq1
  have hc1 := sw_ck hc0 hk1
  have ec : 0 + (hp_c h2 - hp_c h) = mc := by omega
  have es : 0 + (hp_s h2 - hp_s h) = ms := by omega
  rw [ec, es]
  cases w with
  | none => exact False.elim hq1
  | some w =>
    have hq2 : w = .int v := hq1.1
    subst hq2
    refine W.eq (g2 := F0 m 8 ls [.int v, .int 0, .ref qo]) rfl ?_
    refine lv_if_eq (tgt := 15) hx hb d9_up_8 (by decide) (fun h9 => ?_) (fun h9 => ?_)
    · subst h9
      refine lv_lconst (v := 0) hx hb d9_up_15 (by decide) ?_
      refine sw_last hx hb hw1 hc1 hS1 d9_up_16 (fun H2 locs2 hw2 hc2 hS2 => ?_)
      refine lv_goto (tgt := 24) hx hb d9_up_17 (by decide) ?_
      refine lv_iconst (v := 0) hx hb d9_up_24 (by decide) ?_
      subst hAe
      exact W.iret hx hb hr (fun t ht hW => ⟨_, pk_uLs, rfl, by rw [ht]; exact sd_w_moved hW.alike hw2, by rw [ht]; exact sw_cmoved hW.alike hc2, hS2.F ht⟩) hS2.2.2 d9_up_25
    · have h8 : v = 1 := hv01.resolve_left h9
      subst h8
      refine lv_lconst (v := 1) hx hb d9_up_11 (by decide) ?_
      refine lv_goto (tgt := 16) hx hb d9_up_12 (by decide) ?_
      refine sw_last hx hb hw1 hc1 hS1 d9_up_16 (fun H2 locs2 hw2 hc2 hS2 => ?_)
      refine lv_goto (tgt := 24) hx hb d9_up_17 (by decide) ?_
      refine lv_iconst (v := 0) hx hb d9_up_24 (by decide) ?_
      subst hAe
      exact W.iret hx hb hr (fun t ht hW => ⟨_, pk_uLs, rfl, by rw [ht]; exact sd_w_moved hW.alike hw2, by rw [ht]; exact sw_cmoved hW.alike hc2, hS2.F ht⟩) hS2.2.2 d9_up_25
set_option maxHeartbeats 4000000 in
set_option maxRecDepth 100000 in
theorem wt_up_0 {l : Launch} (hlt : l.stackTraces = false) (D : va_G) {ad : List Nat} {h : hp_T} {qa qo sz d f0 : Nat} {p0 p1 : Int32} {f : Nat → Int64} {o : ev_O} (hev : ev_m d f0 48 [.ref 0, .int p0, .int p1] h = some o) (hk0 : hp_k h 0 = some (7, 0)) (hqa : ad[0]? = some qa) (hkd : o.2.1 = h.1) {mc ms : Nat} (hmc : mc + hp_c h = hp_c o.2) (hms : ms + hp_s h = hp_s o.2) (ho : o.1 = .inr 0) : Met l yw_up ww_up (sw_rm 48 mc ms) (sw_P D ad h qo f sz [.ref qa, .int p0, .int p1, .ref qo]) (sw_Q D ad o.2 qo sz 1 (fun _ => True)) mc ms (sd_fr (qo :: ad) sz) := by
  obtain ⟨r, h2⟩ := o
  cases ho
  have hmc : mc + hp_c h = hp_c h2 := hmc
  have hms : ms + hp_s h = hp_s h2 := hms
  refine va_MetW (cc := method_4_code) (maxL := 5) (ret := some .int) (hh := [(0, 17, 20, 13)]) (by decide +kernel) rfl ?_
  intro p e s m args below meth c s₁ B hml hv
  obtain ⟨rfl, hsz, hw, hc0, hxh, hxa, hg, hn⟩ := hv
  have hx := B.exec
  have hb := B.bytes
  have hr := B.returns
  have hts := atoms_spec (ws := ww_up) B.pre
  have hall : ∀ w ∈ tb_all, w.before _ s = true := fun w h => hts w (List.mem_cons_of_mem _ h)
  have hown : s.vm.findClass "RouteHouseLaw" = some m.cls := findClass_of_methodNamed B.named
  have hlocks := B.notSynchronized
  have htab := sw_tab B (hts _ List.mem_cons_self)
  subst hsz
  have hA : ∀ q, s.heap.size ≤ q → sd_fr (qo :: ad) s.heap.size q := fun q h => Or.inr h
  generalize hAe : sd_fr (qo :: ad) s.heap.size = A at hw hc0 hA
  have hR : sw_R s s.heap := ⟨hxh, hxa, hg, fun _ _ h _ => h⟩
  have hl := lv_entry ([.ref qa, .int p0, .int p1, .ref qo]) (n := 5) (Nat.le_of_ble_eq_true rfl)
  rw [lg_entry_eq]
  generalize (lg_sl ([.ref qa, .int p0, .int p1, .ref qo]) ++ List.replicate (5 - (lg_sl ([.ref qa, .int p0, .int p1, .ref qo])).length) Slot.unset).toArray = ls at hl ⊢
  have hl : lv_has ls 5 [(0, .ref qa), (1, .int p0), (2, .int p1), (3, .ref qo)] := hl
  refine lv_aload_n hx hb d9_up_0 rfl (lv_at hl 3 rfl) ?_
  refine lv_iconst (v := 0) hx hb d9_up_1 (by decide) ?_
  refine lv_aload_n hx hb d9_up_2 rfl (lv_at hl 0 rfl) ?_
  refine lv_iload_n hx hb d9_up_3 rfl (lv_at hl 1 rfl) ?_
  refine lv_iload_n hx hb d9_up_4 rfl (lv_at hl 2 rfl) ?_
  refine sw_thr hlt (AsC := [.int p0, .int p1]) (K := [.int 0, .ref qo]) hev rfl hx hb hml hown hts (sw_good mt_48.2.2.1) (hall _ wx_364) mt_48 hall (Nat.le_refl _) (Nat.le_refl _) hw va_S.rf hA hR hk0 hqa ⟨rfl, rfl, trivial⟩ rfl hl.1 (Nat.le_of_ble_eq_true rfl) d9_up_5 (by show 0 + _ ≤ mc; omega) (by show 0 + _ ≤ ms; omega) (fun ce q z H1 locs1 hw1 hS1 hz1 hk1 hR1 hce hcv hcl => ?_)
  cases sw_z hw hw1 hkd
  rw [List.append_nil] at hw1
  have hc1 := sw_ck hc0 hk1
  have ec : 0 + (hp_c h2 - hp_c h) = mc := by omega
  have es : 0 + (hp_s h2 - hp_s h) = ms := by omega
  rw [ec, es]
  refine sc_catch (own := "RouteHouseLaw") (E := "java/lang/IndexOutOfBoundsException") (nm := "java/lang/IndexOutOfBoundsException") hown [] ⟨0, 17, 20, 13⟩ [] htab (fun _ h => absurd h List.not_mem_nil) (by decide) (by decide) (hall _ wx_267) (sx_word (State.WarmedH.refl s) rfl rfl (hxa.1 _ wl_279 rfl rfl)) hce hcv hcl ?_
  refine lv_astore hx hb d9_up_20 hl (by decide) rfl (fun ls2 hl2 => ?_)
  refine lv_iconst (v := 1) hx hb d9_up_22 (by decide) ?_
  subst hAe
  exact W.iret hx hb hr (fun t ht hW => ⟨f, trivial, rfl, by rw [ht]; exact sd_w_moved hW.alike hw1, by rw [ht]; exact sw_cmoved hW.alike hc1, hS1.F ht⟩) hS1.2.2 d9_up_23
theorem wx_372 : (Jvm.Cond.methodLink "RouteHouseLaw" (21 : Nat) ({ cls := "RouteHouse", name := "route", desc := "(IIII)I" } : Jvm.MethodName)) ∈ tb_all := wd_o2 (i := 132) rfl rfl
theorem wx_370 : (Jvm.Cond.codeWith ({ cls := "RouteHouseLaw", name := "route", desc := "(LRouteHouse;IIII[J)I" } : Jvm.MethodName) method_5_code (7 : Nat) (Option.some Jvm.ClassFile.FieldType.int) [((0 : Nat), (14 : Nat), (17 : Nat), (15 : Nat)), ((0 : Nat), (14 : Nat), (21 : Nat), (13 : Nat)), ((0 : Nat), (14 : Nat), (25 : Nat), (25 : Nat))]) ∈ tb_all := wd_o2 (i := 130) rfl rfl
theorem wx_371 : (Jvm.Cond.classLink "RouteHouseLaw" (25 : Nat) "java/lang/UnsupportedOperationException") ∈ tb_all := wd_o2 (i := 131) rfl rfl
theorem d9_route_0 : decode method_5_code 0 = .ok (.aload 5, 2) := by decide +kernel
theorem d9_route_2 : decode method_5_code 2 = .ok (.iconst 0, 1) := by decide +kernel
theorem d9_route_3 : decode method_5_code 3 = .ok (.aload_n 0, 1) := by decide +kernel
theorem d9_route_4 : decode method_5_code 4 = .ok (.iload_n 1, 1) := by decide +kernel
theorem d9_route_5 : decode method_5_code 5 = .ok (.iload_n 2, 1) := by decide +kernel
theorem d9_route_6 : decode method_5_code 6 = .ok (.iload_n 3, 1) := by decide +kernel
theorem d9_route_7 : decode method_5_code 7 = .ok (.iload 4, 2) := by decide +kernel
theorem d9_route_9 : decode method_5_code 9 = .ok (.invokevirtual 21, 3) := by decide +kernel
theorem d9_route_12 : decode method_5_code 12 = .ok (.i2l, 1) := by decide +kernel
theorem d9_route_13 : decode method_5_code 13 = .ok (.lastore, 1) := by decide +kernel
theorem d9_route_14 : decode method_5_code 14 = .ok (.goto 15, 3) := by decide +kernel
theorem d9_route_17 : decode method_5_code 17 = .ok (.astore 6, 2) := by decide +kernel
theorem d9_route_19 : decode method_5_code 19 = .ok (.iconst 1, 1) := by decide +kernel
theorem d9_route_20 : decode method_5_code 20 = .ok (.ireturn, 1) := by decide +kernel
theorem d9_route_21 : decode method_5_code 21 = .ok (.astore 6, 2) := by decide +kernel
theorem d9_route_23 : decode method_5_code 23 = .ok (.iconst 2, 1) := by decide +kernel
theorem d9_route_24 : decode method_5_code 24 = .ok (.ireturn, 1) := by decide +kernel
theorem d9_route_25 : decode method_5_code 25 = .ok (.astore 6, 2) := by decide +kernel
theorem d9_route_27 : decode method_5_code 27 = .ok (.iconst 3, 1) := by decide +kernel
theorem d9_route_28 : decode method_5_code 28 = .ok (.ireturn, 1) := by decide +kernel
theorem d9_route_29 : decode method_5_code 29 = .ok (.iconst 0, 1) := by decide +kernel
theorem d9_route_30 : decode method_5_code 30 = .ok (.ireturn, 1) := by decide +kernel
def yw_route : MethodName := ⟨"RouteHouseLaw", "route", "(LRouteHouse;IIII[J)I"⟩
def ww_route : List Jvm.Cond := .codeWith yw_route method_5_code 7 (some .int) [(0, 14, 17, 15), (0, 14, 21, 13), (0, 14, 25, 25)] :: tb_all
set_option maxHeartbeats 4000000 in
set_option maxRecDepth 100000 in
theorem wr_route {l : Launch} (hlt : l.stackTraces = false) (D : va_G) {ad : List Nat} {h : hp_T} {qa qo sz d f0 : Nat} {p0 p1 p2 p3 : Int32} {f : Nat → Int64} {o : ev_O} (hev : ev_m d f0 49 [.ref 0, .int p0, .int p1, .int p2, .int p3] h = some o) (hk0 : hp_k h 0 = some (7, 0)) (hqa : ad[0]? = some qa) (hkd : o.2.1 = h.1) {mc ms : Nat} (hmc : mc + hp_c h = hp_c o.2) (hms : ms + hp_s h = hp_s o.2) {v : Int32} (ho : o.1 = .inl (some (.int v))) : Met l yw_route ww_route (sw_rm 49 mc ms) (sw_P D ad h qo f sz [.ref qa, .int p0, .int p1, .int p2, .int p3, .ref qo]) (sw_Q D ad o.2 qo sz 0 (fun f2 => f2 0 = v.toInt64)) mc ms (sd_fr (qo :: ad) sz) := by
  obtain ⟨r, h2⟩ := o
  cases ho
  have hmc : mc + hp_c h = hp_c h2 := hmc
  have hms : ms + hp_s h = hp_s h2 := hms
  refine va_MetW (cc := method_5_code) (maxL := 7) (ret := some .int) (hh := [(0, 14, 17, 15), (0, 14, 21, 13), (0, 14, 25, 25)]) (by decide +kernel) rfl ?_
  intro p e s m args below meth c s₁ B hml hv
  obtain ⟨rfl, hsz, hw, hc0, hxh, hxa, hg, hn⟩ := hv
  have hx := B.exec
  have hb := B.bytes
  have hr := B.returns
  have hts := atoms_spec (ws := ww_route) B.pre
  have hall : ∀ w ∈ tb_all, w.before _ s = true := fun w h => hts w (List.mem_cons_of_mem _ h)
  have hown : s.vm.findClass "RouteHouseLaw" = some m.cls := findClass_of_methodNamed B.named
  have hlocks := B.notSynchronized
  have htab := sw_tab B (hts _ List.mem_cons_self)
  subst hsz
  have hA : ∀ q, s.heap.size ≤ q → sd_fr (qo :: ad) s.heap.size q := fun q h => Or.inr h
  generalize hAe : sd_fr (qo :: ad) s.heap.size = A at hw hc0 hA
  have hR : sw_R s s.heap := ⟨hxh, hxa, hg, fun _ _ h _ => h⟩
  have hl := lv_entry ([.ref qa, .int p0, .int p1, .int p2, .int p3, .ref qo]) (n := 7) (Nat.le_of_ble_eq_true rfl)
  rw [lg_entry_eq]
  generalize (lg_sl ([.ref qa, .int p0, .int p1, .int p2, .int p3, .ref qo]) ++ List.replicate (7 - (lg_sl ([.ref qa, .int p0, .int p1, .int p2, .int p3, .ref qo])).length) Slot.unset).toArray = ls at hl ⊢
  have hl : lv_has ls 7 [(0, .ref qa), (1, .int p0), (2, .int p1), (3, .int p2), (4, .int p3), (5, .ref qo)] := hl
  refine lv_aload hx hb d9_route_0 (lv_at hl 5 rfl) ?_
  refine lv_iconst (v := 0) hx hb d9_route_2 (by decide) ?_
  refine lv_aload_n hx hb d9_route_3 rfl (lv_at hl 0 rfl) ?_
  refine lv_iload_n hx hb d9_route_4 rfl (lv_at hl 1 rfl) ?_
  refine lv_iload_n hx hb d9_route_5 rfl (lv_at hl 2 rfl) ?_
  refine lv_iload_n hx hb d9_route_6 rfl (lv_at hl 3 rfl) ?_
  refine lv_iload hx hb d9_route_7 (lv_at hl 4 rfl) ?_
  refine sw_ret hlt (AsC := [.int p0, .int p1, .int p2, .int p3]) (K := [.int 0, .ref qo]) hev rfl hx hb hml hown hts (sw_good mt_49.2.2.1) (hall _ wx_372) mt_49 hall (Nat.le_refl _) (Nat.le_refl _) hw va_S.rf hA hR hk0 hqa ⟨rfl, rfl, rfl, rfl, trivial⟩ rfl hl.1 (Nat.le_of_ble_eq_true rfl) d9_route_9 (by show 0 + _ ≤ mc; omega) (by show 0 + _ ≤ ms; omega) (fun w z H1 locs1 hw1 hS1 hq1 hz1 hk1 hR1 => ?_)
  cases sw_z hw hw1 hkd
  rw [List.append_nil] at hw1 hq1
  have hc1 := sw_ck hc0 hk1
  have ec : 0 + (hp_c h2 - hp_c h) = mc := by omega
  have es : 0 + (hp_s h2 - hp_s h) = ms := by omega
  rw [ec, es]
  cases w with
  | none => exact False.elim hq1
  | some w =>
    have hq2 : w = .int v := hq1.1
    subst hq2
    refine W.eq (g2 := F0 m 12 ls [.int v, .int 0, .ref qo]) rfl ?_
    refine lv_i2l hx hb d9_route_12 rfl ?_
    refine sw_last hx hb hw1 hc1 hS1 d9_route_13 (fun H2 locs2 hw2 hc2 hS2 => ?_)
    refine lv_goto (tgt := 29) hx hb d9_route_14 (by decide) ?_
    refine lv_iconst (v := 0) hx hb d9_route_29 (by decide) ?_
    subst hAe
    exact W.iret hx hb hr (fun t ht hW => ⟨_, pk_uLs, rfl, by rw [ht]; exact sd_w_moved hW.alike hw2, by rw [ht]; exact sw_cmoved hW.alike hc2, hS2.F ht⟩) hS2.2.2 d9_route_30
set_option maxHeartbeats 4000000 in
set_option maxRecDepth 100000 in
theorem wt_route_1 {l : Launch} (hlt : l.stackTraces = false) (D : va_G) {ad : List Nat} {h : hp_T} {qa qo sz d f0 : Nat} {p0 p1 p2 p3 : Int32} {f : Nat → Int64} {o : ev_O} (hev : ev_m d f0 49 [.ref 0, .int p0, .int p1, .int p2, .int p3] h = some o) (hk0 : hp_k h 0 = some (7, 0)) (hqa : ad[0]? = some qa) (hkd : o.2.1 = h.1) {mc ms : Nat} (hmc : mc + hp_c h = hp_c o.2) (hms : ms + hp_s h = hp_s o.2) (ho : o.1 = .inr 1) : Met l yw_route ww_route (sw_rm 49 mc ms) (sw_P D ad h qo f sz [.ref qa, .int p0, .int p1, .int p2, .int p3, .ref qo]) (sw_Q D ad o.2 qo sz 1 (fun _ => True)) mc ms (sd_fr (qo :: ad) sz) := by
  obtain ⟨r, h2⟩ := o
  cases ho
  have hmc : mc + hp_c h = hp_c h2 := hmc
  have hms : ms + hp_s h = hp_s h2 := hms
  refine va_MetW (cc := method_5_code) (maxL := 7) (ret := some .int) (hh := [(0, 14, 17, 15), (0, 14, 21, 13), (0, 14, 25, 25)]) (by decide +kernel) rfl ?_
  intro p e s m args below meth c s₁ B hml hv
  obtain ⟨rfl, hsz, hw, hc0, hxh, hxa, hg, hn⟩ := hv
  have hx := B.exec
  have hb := B.bytes
  have hr := B.returns
  have hts := atoms_spec (ws := ww_route) B.pre
  have hall : ∀ w ∈ tb_all, w.before _ s = true := fun w h => hts w (List.mem_cons_of_mem _ h)
  have hown : s.vm.findClass "RouteHouseLaw" = some m.cls := findClass_of_methodNamed B.named
  have hlocks := B.notSynchronized
  have htab := sw_tab B (hts _ List.mem_cons_self)
  subst hsz
  have hA : ∀ q, s.heap.size ≤ q → sd_fr (qo :: ad) s.heap.size q := fun q h => Or.inr h
  generalize hAe : sd_fr (qo :: ad) s.heap.size = A at hw hc0 hA
  have hR : sw_R s s.heap := ⟨hxh, hxa, hg, fun _ _ h _ => h⟩
  have hl := lv_entry ([.ref qa, .int p0, .int p1, .int p2, .int p3, .ref qo]) (n := 7) (Nat.le_of_ble_eq_true rfl)
  rw [lg_entry_eq]
  generalize (lg_sl ([.ref qa, .int p0, .int p1, .int p2, .int p3, .ref qo]) ++ List.replicate (7 - (lg_sl ([.ref qa, .int p0, .int p1, .int p2, .int p3, .ref qo])).length) Slot.unset).toArray = ls at hl ⊢
  have hl : lv_has ls 7 [(0, .ref qa), (1, .int p0), (2, .int p1), (3, .int p2), (4, .int p3), (5, .ref qo)] := hl
  refine lv_aload hx hb d9_route_0 (lv_at hl 5 rfl) ?_
  refine lv_iconst (v := 0) hx hb d9_route_2 (by decide) ?_
  refine lv_aload_n hx hb d9_route_3 rfl (lv_at hl 0 rfl) ?_
  refine lv_iload_n hx hb d9_route_4 rfl (lv_at hl 1 rfl) ?_
  refine lv_iload_n hx hb d9_route_5 rfl (lv_at hl 2 rfl) ?_
  refine lv_iload_n hx hb d9_route_6 rfl (lv_at hl 3 rfl) ?_
  refine lv_iload hx hb d9_route_7 (lv_at hl 4 rfl) ?_
  refine sw_thr hlt (AsC := [.int p0, .int p1, .int p2, .int p3]) (K := [.int 0, .ref qo]) hev rfl hx hb hml hown hts (sw_good mt_49.2.2.1) (hall _ wx_372) mt_49 hall (Nat.le_refl _) (Nat.le_refl _) hw va_S.rf hA hR hk0 hqa ⟨rfl, rfl, rfl, rfl, trivial⟩ rfl hl.1 (Nat.le_of_ble_eq_true rfl) d9_route_9 (by show 0 + _ ≤ mc; omega) (by show 0 + _ ≤ ms; omega) (fun ce q z H1 locs1 hw1 hS1 hz1 hk1 hR1 hce hcv hcl => ?_)
  cases sw_z hw hw1 hkd
  rw [List.append_nil] at hw1
  have hc1 := sw_ck hc0 hk1
  have ec : 0 + (hp_c h2 - hp_c h) = mc := by omega
  have es : 0 + (hp_s h2 - hp_s h) = ms := by omega
  rw [ec, es]
  refine sc_catch (own := "RouteHouseLaw") (E := "java/lang/IllegalArgumentException") (nm := "java/lang/IllegalArgumentException") hown [] ⟨0, 14, 17, 15⟩ [⟨0, 14, 21, 13⟩, ⟨0, 14, 25, 25⟩] htab (fun _ h => absurd h List.not_mem_nil) (by decide) (by decide) (hall _ wx_268) (sx_word (State.WarmedH.refl s) rfl rfl (hxa.1 _ wl_347 rfl rfl)) hce hcv hcl ?_
  refine lv_astore hx hb d9_route_17 hl (by decide) rfl (fun ls2 hl2 => ?_)
  refine lv_iconst (v := 1) hx hb d9_route_19 (by decide) ?_
  subst hAe
  exact W.iret hx hb hr (fun t ht hW => ⟨f, trivial, rfl, by rw [ht]; exact sd_w_moved hW.alike hw1, by rw [ht]; exact sw_cmoved hW.alike hc1, hS1.F ht⟩) hS1.2.2 d9_route_20
set_option maxHeartbeats 4000000 in
set_option maxRecDepth 100000 in
theorem wt_route_0 {l : Launch} (hlt : l.stackTraces = false) (D : va_G) {ad : List Nat} {h : hp_T} {qa qo sz d f0 : Nat} {p0 p1 p2 p3 : Int32} {f : Nat → Int64} {o : ev_O} (hev : ev_m d f0 49 [.ref 0, .int p0, .int p1, .int p2, .int p3] h = some o) (hk0 : hp_k h 0 = some (7, 0)) (hqa : ad[0]? = some qa) (hkd : o.2.1 = h.1) {mc ms : Nat} (hmc : mc + hp_c h = hp_c o.2) (hms : ms + hp_s h = hp_s o.2) (ho : o.1 = .inr 0) : Met l yw_route ww_route (sw_rm 49 mc ms) (sw_P D ad h qo f sz [.ref qa, .int p0, .int p1, .int p2, .int p3, .ref qo]) (sw_Q D ad o.2 qo sz 2 (fun _ => True)) mc ms (sd_fr (qo :: ad) sz) := by
  obtain ⟨r, h2⟩ := o
  cases ho
  have hmc : mc + hp_c h = hp_c h2 := hmc
  have hms : ms + hp_s h = hp_s h2 := hms
  refine va_MetW (cc := method_5_code) (maxL := 7) (ret := some .int) (hh := [(0, 14, 17, 15), (0, 14, 21, 13), (0, 14, 25, 25)]) (by decide +kernel) rfl ?_
  intro p e s m args below meth c s₁ B hml hv
  obtain ⟨rfl, hsz, hw, hc0, hxh, hxa, hg, hn⟩ := hv
  have hx := B.exec
  have hb := B.bytes
  have hr := B.returns
  have hts := atoms_spec (ws := ww_route) B.pre
  have hall : ∀ w ∈ tb_all, w.before _ s = true := fun w h => hts w (List.mem_cons_of_mem _ h)
  have hown : s.vm.findClass "RouteHouseLaw" = some m.cls := findClass_of_methodNamed B.named
  have hlocks := B.notSynchronized
  have htab := sw_tab B (hts _ List.mem_cons_self)
  subst hsz
  have hA : ∀ q, s.heap.size ≤ q → sd_fr (qo :: ad) s.heap.size q := fun q h => Or.inr h
  generalize hAe : sd_fr (qo :: ad) s.heap.size = A at hw hc0 hA
  have hR : sw_R s s.heap := ⟨hxh, hxa, hg, fun _ _ h _ => h⟩
  have hl := lv_entry ([.ref qa, .int p0, .int p1, .int p2, .int p3, .ref qo]) (n := 7) (Nat.le_of_ble_eq_true rfl)
  rw [lg_entry_eq]
  generalize (lg_sl ([.ref qa, .int p0, .int p1, .int p2, .int p3, .ref qo]) ++ List.replicate (7 - (lg_sl ([.ref qa, .int p0, .int p1, .int p2, .int p3, .ref qo])).length) Slot.unset).toArray = ls at hl ⊢
  have hl : lv_has ls 7 [(0, .ref qa), (1, .int p0), (2, .int p1), (3, .int p2), (4, .int p3), (5, .ref qo)] := hl
  refine lv_aload hx hb d9_route_0 (lv_at hl 5 rfl) ?_
  refine lv_iconst (v := 0) hx hb d9_route_2 (by decide) ?_
  refine lv_aload_n hx hb d9_route_3 rfl (lv_at hl 0 rfl) ?_
  refine lv_iload_n hx hb d9_route_4 rfl (lv_at hl 1 rfl) ?_
  refine lv_iload_n hx hb d9_route_5 rfl (lv_at hl 2 rfl) ?_
  refine lv_iload_n hx hb d9_route_6 rfl (lv_at hl 3 rfl) ?_
  refine lv_iload hx hb d9_route_7 (lv_at hl 4 rfl) ?_
  refine sw_thr hlt (AsC := [.int p0, .int p1, .int p2, .int p3]) (K := [.int 0, .ref qo]) hev rfl hx hb hml hown hts (sw_good mt_49.2.2.1) (hall _ wx_372) mt_49 hall (Nat.le_refl _) (Nat.le_refl _) hw va_S.rf hA hR hk0 hqa ⟨rfl, rfl, rfl, rfl, trivial⟩ rfl hl.1 (Nat.le_of_ble_eq_true rfl) d9_route_9 (by show 0 + _ ≤ mc; omega) (by show 0 + _ ≤ ms; omega) (fun ce q z H1 locs1 hw1 hS1 hz1 hk1 hR1 hce hcv hcl => ?_)
  cases sw_z hw hw1 hkd
  rw [List.append_nil] at hw1
  have hc1 := sw_ck hc0 hk1
  have ec : 0 + (hp_c h2 - hp_c h) = mc := by omega
  have es : 0 + (hp_s h2 - hp_s h) = ms := by omega
  rw [ec, es]
  refine sc_catch (own := "RouteHouseLaw") (E := "java/lang/IndexOutOfBoundsException") (nm := "java/lang/IndexOutOfBoundsException") hown [⟨0, 14, 17, 15⟩] ⟨0, 14, 21, 13⟩ [⟨0, 14, 25, 25⟩] htab (List.forall_mem_cons.mpr ⟨⟨by decide, by decide, "java/lang/IllegalArgumentException", hall _ wx_268, hn.1⟩, fun _ h => absurd h List.not_mem_nil⟩) (by decide) (by decide) (hall _ wx_267) (sx_word (State.WarmedH.refl s) rfl rfl (hxa.1 _ wl_279 rfl rfl)) hce hcv hcl ?_
  refine lv_astore hx hb d9_route_21 hl (by decide) rfl (fun ls2 hl2 => ?_)
  refine lv_iconst (v := 2) hx hb d9_route_23 (by decide) ?_
  subst hAe
  exact W.iret hx hb hr (fun t ht hW => ⟨f, trivial, rfl, by rw [ht]; exact sd_w_moved hW.alike hw1, by rw [ht]; exact sw_cmoved hW.alike hc1, hS1.F ht⟩) hS1.2.2 d9_route_24
set_option maxHeartbeats 4000000 in
set_option maxRecDepth 100000 in
theorem wt_route_2 {l : Launch} (hlt : l.stackTraces = false) (D : va_G) {ad : List Nat} {h : hp_T} {qa qo sz d f0 : Nat} {p0 p1 p2 p3 : Int32} {f : Nat → Int64} {o : ev_O} (hev : ev_m d f0 49 [.ref 0, .int p0, .int p1, .int p2, .int p3] h = some o) (hk0 : hp_k h 0 = some (7, 0)) (hqa : ad[0]? = some qa) (hkd : o.2.1 = h.1) {mc ms : Nat} (hmc : mc + hp_c h = hp_c o.2) (hms : ms + hp_s h = hp_s o.2) (ho : o.1 = .inr 2) : Met l yw_route ww_route (sw_rm 49 mc ms) (sw_P D ad h qo f sz [.ref qa, .int p0, .int p1, .int p2, .int p3, .ref qo]) (sw_Q D ad o.2 qo sz 3 (fun _ => True)) mc ms (sd_fr (qo :: ad) sz) := by
  obtain ⟨r, h2⟩ := o
  cases ho
  have hmc : mc + hp_c h = hp_c h2 := hmc
  have hms : ms + hp_s h = hp_s h2 := hms
  refine va_MetW (cc := method_5_code) (maxL := 7) (ret := some .int) (hh := [(0, 14, 17, 15), (0, 14, 21, 13), (0, 14, 25, 25)]) (by decide +kernel) rfl ?_
  intro p e s m args below meth c s₁ B hml hv
  obtain ⟨rfl, hsz, hw, hc0, hxh, hxa, hg, hn⟩ := hv
  have hx := B.exec
  have hb := B.bytes
  have hr := B.returns
  have hts := atoms_spec (ws := ww_route) B.pre
  have hall : ∀ w ∈ tb_all, w.before _ s = true := fun w h => hts w (List.mem_cons_of_mem _ h)
  have hown : s.vm.findClass "RouteHouseLaw" = some m.cls := findClass_of_methodNamed B.named
  have hlocks := B.notSynchronized
  have htab := sw_tab B (hts _ List.mem_cons_self)
  subst hsz
  have hA : ∀ q, s.heap.size ≤ q → sd_fr (qo :: ad) s.heap.size q := fun q h => Or.inr h
  generalize hAe : sd_fr (qo :: ad) s.heap.size = A at hw hc0 hA
  have hR : sw_R s s.heap := ⟨hxh, hxa, hg, fun _ _ h _ => h⟩
  have hl := lv_entry ([.ref qa, .int p0, .int p1, .int p2, .int p3, .ref qo]) (n := 7) (Nat.le_of_ble_eq_true rfl)
  rw [lg_entry_eq]
  generalize (lg_sl ([.ref qa, .int p0, .int p1, .int p2, .int p3, .ref qo]) ++ List.replicate (7 - (lg_sl ([.ref qa, .int p0, .int p1, .int p2, .int p3, .ref qo])).length) Slot.unset).toArray = ls at hl ⊢
  have hl : lv_has ls 7 [(0, .ref qa), (1, .int p0), (2, .int p1), (3, .int p2), (4, .int p3), (5, .ref qo)] := hl
  refine lv_aload hx hb d9_route_0 (lv_at hl 5 rfl) ?_
  refine lv_iconst (v := 0) hx hb d9_route_2 (by decide) ?_
  refine lv_aload_n hx hb d9_route_3 rfl (lv_at hl 0 rfl) ?_
  refine lv_iload_n hx hb d9_route_4 rfl (lv_at hl 1 rfl) ?_
  refine lv_iload_n hx hb d9_route_5 rfl (lv_at hl 2 rfl) ?_
  refine lv_iload_n hx hb d9_route_6 rfl (lv_at hl 3 rfl) ?_
  refine lv_iload hx hb d9_route_7 (lv_at hl 4 rfl) ?_
  refine sw_thr hlt (AsC := [.int p0, .int p1, .int p2, .int p3]) (K := [.int 0, .ref qo]) hev rfl hx hb hml hown hts (sw_good mt_49.2.2.1) (hall _ wx_372) mt_49 hall (Nat.le_refl _) (Nat.le_refl _) hw va_S.rf hA hR hk0 hqa ⟨rfl, rfl, rfl, rfl, trivial⟩ rfl hl.1 (Nat.le_of_ble_eq_true rfl) d9_route_9 (by show 0 + _ ≤ mc; omega) (by show 0 + _ ≤ ms; omega) (fun ce q z H1 locs1 hw1 hS1 hz1 hk1 hR1 hce hcv hcl => ?_)
  cases sw_z hw hw1 hkd
  rw [List.append_nil] at hw1
  have hc1 := sw_ck hc0 hk1
  have ec : 0 + (hp_c h2 - hp_c h) = mc := by omega
  have es : 0 + (hp_s h2 - hp_s h) = ms := by omega
  rw [ec, es]
  refine sc_catch (own := "RouteHouseLaw") (E := "java/lang/UnsupportedOperationException") (nm := "java/lang/UnsupportedOperationException") hown [⟨0, 14, 17, 15⟩, ⟨0, 14, 21, 13⟩] ⟨0, 14, 25, 25⟩ [] htab (List.forall_mem_cons.mpr ⟨⟨by decide, by decide, "java/lang/IllegalArgumentException", hall _ wx_268, hn.2.2.1⟩, List.forall_mem_cons.mpr ⟨⟨by decide, by decide, "java/lang/IndexOutOfBoundsException", hall _ wx_267, hn.2.2.2⟩, fun _ h => absurd h List.not_mem_nil⟩⟩) (by decide) (by decide) (hall _ wx_371) (sx_word (State.WarmedH.refl s) rfl rfl (hxa.1 _ wl_390 rfl rfl)) hce hcv hcl ?_
  refine lv_astore hx hb d9_route_25 hl (by decide) rfl (fun ls2 hl2 => ?_)
  refine lv_iconst (v := 3) hx hb d9_route_27 (by decide) ?_
  subst hAe
  exact W.iret hx hb hr (fun t ht hW => ⟨f, trivial, rfl, by rw [ht]; exact sd_w_moved hW.alike hw1, by rw [ht]; exact sw_cmoved hW.alike hc1, hS1.F ht⟩) hS1.2.2 d9_route_28
theorem wx_411 : (Jvm.Cond.methodLink "RouteHouseLaw" (27 : Nat) ({ cls := "RouteHouse", name := "unroute", desc := "(II)Z" } : Jvm.MethodName)) ∈ tb_all := wd_o2 (i := 171) rfl rfl
theorem wx_410 : (Jvm.Cond.codeWith ({ cls := "RouteHouseLaw", name := "unroute", desc := "(LRouteHouse;II[J)I" } : Jvm.MethodName) method_6_code (5 : Nat) (Option.some Jvm.ClassFile.FieldType.int) [((0 : Nat), (17 : Nat), (20 : Nat), (15 : Nat))]) ∈ tb_all := wd_o2 (i := 170) rfl rfl
theorem d9_unroute_0 : decode method_6_code 0 = .ok (.aload_n 3, 1) := by decide +kernel
theorem d9_unroute_1 : decode method_6_code 1 = .ok (.iconst 0, 1) := by decide +kernel
theorem d9_unroute_2 : decode method_6_code 2 = .ok (.aload_n 0, 1) := by decide +kernel
theorem d9_unroute_3 : decode method_6_code 3 = .ok (.iload_n 1, 1) := by decide +kernel
theorem d9_unroute_4 : decode method_6_code 4 = .ok (.iload_n 2, 1) := by decide +kernel
theorem d9_unroute_5 : decode method_6_code 5 = .ok (.invokevirtual 27, 3) := by decide +kernel
theorem d9_unroute_8 : decode method_6_code 8 = .ok (.ifCond .eq 7, 3) := by decide +kernel
theorem d9_unroute_11 : decode method_6_code 11 = .ok (.lconst 1, 1) := by decide +kernel
theorem d9_unroute_12 : decode method_6_code 12 = .ok (.goto 4, 3) := by decide +kernel
theorem d9_unroute_15 : decode method_6_code 15 = .ok (.lconst 0, 1) := by decide +kernel
theorem d9_unroute_16 : decode method_6_code 16 = .ok (.lastore, 1) := by decide +kernel
theorem d9_unroute_17 : decode method_6_code 17 = .ok (.goto 7, 3) := by decide +kernel
theorem d9_unroute_20 : decode method_6_code 20 = .ok (.astore 4, 2) := by decide +kernel
theorem d9_unroute_22 : decode method_6_code 22 = .ok (.iconst 1, 1) := by decide +kernel
theorem d9_unroute_23 : decode method_6_code 23 = .ok (.ireturn, 1) := by decide +kernel
theorem d9_unroute_24 : decode method_6_code 24 = .ok (.iconst 0, 1) := by decide +kernel
theorem d9_unroute_25 : decode method_6_code 25 = .ok (.ireturn, 1) := by decide +kernel
def yw_unroute : MethodName := ⟨"RouteHouseLaw", "unroute", "(LRouteHouse;II[J)I"⟩
def ww_unroute : List Jvm.Cond := .codeWith yw_unroute method_6_code 5 (some .int) [(0, 17, 20, 15)] :: tb_all
set_option maxHeartbeats 4000000 in
set_option maxRecDepth 100000 in
theorem wr_unroute {l : Launch} (hlt : l.stackTraces = false) (D : va_G) {ad : List Nat} {h : hp_T} {qa qo sz d f0 : Nat} {p0 p1 : Int32} {f : Nat → Int64} {o : ev_O} (hev : ev_m d f0 50 [.ref 0, .int p0, .int p1] h = some o) (hk0 : hp_k h 0 = some (7, 0)) (hqa : ad[0]? = some qa) (hkd : o.2.1 = h.1) {mc ms : Nat} (hmc : mc + hp_c h = hp_c o.2) (hms : ms + hp_s h = hp_s o.2) {v : Int32} (hv01 : v = 0 ∨ v = 1) (ho : o.1 = .inl (some (.int v))) : Met l yw_unroute ww_unroute (sw_rm 50 mc ms) (sw_P D ad h qo f sz [.ref qa, .int p0, .int p1, .ref qo]) (sw_Q D ad o.2 qo sz 0 (fun f2 => f2 0 = v.toInt64)) mc ms (sd_fr (qo :: ad) sz) := by
  obtain ⟨r, h2⟩ := o
  cases ho
  have hmc : mc + hp_c h = hp_c h2 := hmc
  have hms : ms + hp_s h = hp_s h2 := hms
  refine va_MetW (cc := method_6_code) (maxL := 5) (ret := some .int) (hh := [(0, 17, 20, 15)]) (by decide +kernel) rfl ?_
  intro p e s m args below meth c s₁ B hml hv
  obtain ⟨rfl, hsz, hw, hc0, hxh, hxa, hg, hn⟩ := hv
  have hx := B.exec
  have hb := B.bytes
  have hr := B.returns
  have hts := atoms_spec (ws := ww_unroute) B.pre
  have hall : ∀ w ∈ tb_all, w.before _ s = true := fun w h => hts w (List.mem_cons_of_mem _ h)
  have hown : s.vm.findClass "RouteHouseLaw" = some m.cls := findClass_of_methodNamed B.named
  have hlocks := B.notSynchronized
  have htab := sw_tab B (hts _ List.mem_cons_self)
  subst hsz
  have hA : ∀ q, s.heap.size ≤ q → sd_fr (qo :: ad) s.heap.size q := fun q h => Or.inr h
  generalize hAe : sd_fr (qo :: ad) s.heap.size = A at hw hc0 hA
  have hR : sw_R s s.heap := ⟨hxh, hxa, hg, fun _ _ h _ => h⟩
  have hl := lv_entry ([.ref qa, .int p0, .int p1, .ref qo]) (n := 5) (Nat.le_of_ble_eq_true rfl)
  rw [lg_entry_eq]
  generalize (lg_sl ([.ref qa, .int p0, .int p1, .ref qo]) ++ List.replicate (5 - (lg_sl ([.ref qa, .int p0, .int p1, .ref qo])).length) Slot.unset).toArray = ls at hl ⊢
  have hl : lv_has ls 5 [(0, .ref qa), (1, .int p0), (2, .int p1), (3, .ref qo)] := hl
  refine lv_aload_n hx hb d9_unroute_0 rfl (lv_at hl 3 rfl) ?_
  refine lv_iconst (v := 0) hx hb d9_unroute_1 (by decide) ?_
  refine lv_aload_n hx hb d9_unroute_2 rfl (lv_at hl 0 rfl) ?_
  refine lv_iload_n hx hb d9_unroute_3 rfl (lv_at hl 1 rfl) ?_
  refine lv_iload_n hx hb d9_unroute_4 rfl (lv_at hl 2 rfl) ?_
  refine sw_ret hlt (AsC := [.int p0, .int p1]) (K := [.int 0, .ref qo]) hev rfl hx hb hml hown hts (sw_good mt_50.2.2.1) (hall _ wx_411) mt_50 hall (Nat.le_refl _) (Nat.le_refl _) hw va_S.rf hA hR hk0 hqa ⟨rfl, rfl, trivial⟩ rfl hl.1 (Nat.le_of_ble_eq_true rfl) d9_unroute_5 (by show 0 + _ ≤ mc; omega) (by show 0 + _ ≤ ms; omega) (fun w z H1 locs1 hw1 hS1 hq1 hz1 hk1 hR1 => ?_)
  cases sw_z hw hw1 hkd
  rw [List.append_nil] at hw1 hq1
  have hc1 := sw_ck hc0 hk1
  have ec : 0 + (hp_c h2 - hp_c h) = mc := by omega
  have es : 0 + (hp_s h2 - hp_s h) = ms := by omega
  rw [ec, es]
  cases w with
  | none => exact False.elim hq1
  | some w =>
    have hq2 : w = .int v := hq1.1
    subst hq2
    refine W.eq (g2 := F0 m 8 ls [.int v, .int 0, .ref qo]) rfl ?_
    refine lv_if_eq (tgt := 15) hx hb d9_unroute_8 (by decide) (fun h9 => ?_) (fun h9 => ?_)
    · subst h9
      refine lv_lconst (v := 0) hx hb d9_unroute_15 (by decide) ?_
      refine sw_last hx hb hw1 hc1 hS1 d9_unroute_16 (fun H2 locs2 hw2 hc2 hS2 => ?_)
      refine lv_goto (tgt := 24) hx hb d9_unroute_17 (by decide) ?_
      refine lv_iconst (v := 0) hx hb d9_unroute_24 (by decide) ?_
      subst hAe
      exact W.iret hx hb hr (fun t ht hW => ⟨_, pk_uLs, rfl, by rw [ht]; exact sd_w_moved hW.alike hw2, by rw [ht]; exact sw_cmoved hW.alike hc2, hS2.F ht⟩) hS2.2.2 d9_unroute_25
    · have h8 : v = 1 := hv01.resolve_left h9
      subst h8
      refine lv_lconst (v := 1) hx hb d9_unroute_11 (by decide) ?_
      refine lv_goto (tgt := 16) hx hb d9_unroute_12 (by decide) ?_
      refine sw_last hx hb hw1 hc1 hS1 d9_unroute_16 (fun H2 locs2 hw2 hc2 hS2 => ?_)
      refine lv_goto (tgt := 24) hx hb d9_unroute_17 (by decide) ?_
      refine lv_iconst (v := 0) hx hb d9_unroute_24 (by decide) ?_
      subst hAe
      exact W.iret hx hb hr (fun t ht hW => ⟨_, pk_uLs, rfl, by rw [ht]; exact sd_w_moved hW.alike hw2, by rw [ht]; exact sw_cmoved hW.alike hc2, hS2.F ht⟩) hS2.2.2 d9_unroute_25
set_option maxHeartbeats 4000000 in
set_option maxRecDepth 100000 in
theorem wt_unroute_1 {l : Launch} (hlt : l.stackTraces = false) (D : va_G) {ad : List Nat} {h : hp_T} {qa qo sz d f0 : Nat} {p0 p1 : Int32} {f : Nat → Int64} {o : ev_O} (hev : ev_m d f0 50 [.ref 0, .int p0, .int p1] h = some o) (hk0 : hp_k h 0 = some (7, 0)) (hqa : ad[0]? = some qa) (hkd : o.2.1 = h.1) {mc ms : Nat} (hmc : mc + hp_c h = hp_c o.2) (hms : ms + hp_s h = hp_s o.2) (ho : o.1 = .inr 1) : Met l yw_unroute ww_unroute (sw_rm 50 mc ms) (sw_P D ad h qo f sz [.ref qa, .int p0, .int p1, .ref qo]) (sw_Q D ad o.2 qo sz 1 (fun _ => True)) mc ms (sd_fr (qo :: ad) sz) := by
  obtain ⟨r, h2⟩ := o
  cases ho
  have hmc : mc + hp_c h = hp_c h2 := hmc
  have hms : ms + hp_s h = hp_s h2 := hms
  refine va_MetW (cc := method_6_code) (maxL := 5) (ret := some .int) (hh := [(0, 17, 20, 15)]) (by decide +kernel) rfl ?_
  intro p e s m args below meth c s₁ B hml hv
  obtain ⟨rfl, hsz, hw, hc0, hxh, hxa, hg, hn⟩ := hv
  have hx := B.exec
  have hb := B.bytes
  have hr := B.returns
  have hts := atoms_spec (ws := ww_unroute) B.pre
  have hall : ∀ w ∈ tb_all, w.before _ s = true := fun w h => hts w (List.mem_cons_of_mem _ h)
  have hown : s.vm.findClass "RouteHouseLaw" = some m.cls := findClass_of_methodNamed B.named
  have hlocks := B.notSynchronized
  have htab := sw_tab B (hts _ List.mem_cons_self)
  subst hsz
  have hA : ∀ q, s.heap.size ≤ q → sd_fr (qo :: ad) s.heap.size q := fun q h => Or.inr h
  generalize hAe : sd_fr (qo :: ad) s.heap.size = A at hw hc0 hA
  have hR : sw_R s s.heap := ⟨hxh, hxa, hg, fun _ _ h _ => h⟩
  have hl := lv_entry ([.ref qa, .int p0, .int p1, .ref qo]) (n := 5) (Nat.le_of_ble_eq_true rfl)
  rw [lg_entry_eq]
  generalize (lg_sl ([.ref qa, .int p0, .int p1, .ref qo]) ++ List.replicate (5 - (lg_sl ([.ref qa, .int p0, .int p1, .ref qo])).length) Slot.unset).toArray = ls at hl ⊢
  have hl : lv_has ls 5 [(0, .ref qa), (1, .int p0), (2, .int p1), (3, .ref qo)] := hl
  refine lv_aload_n hx hb d9_unroute_0 rfl (lv_at hl 3 rfl) ?_
  refine lv_iconst (v := 0) hx hb d9_unroute_1 (by decide) ?_
  refine lv_aload_n hx hb d9_unroute_2 rfl (lv_at hl 0 rfl) ?_
  refine lv_iload_n hx hb d9_unroute_3 rfl (lv_at hl 1 rfl) ?_
  refine lv_iload_n hx hb d9_unroute_4 rfl (lv_at hl 2 rfl) ?_
  refine sw_thr hlt (AsC := [.int p0, .int p1]) (K := [.int 0, .ref qo]) hev rfl hx hb hml hown hts (sw_good mt_50.2.2.1) (hall _ wx_411) mt_50 hall (Nat.le_refl _) (Nat.le_refl _) hw va_S.rf hA hR hk0 hqa ⟨rfl, rfl, trivial⟩ rfl hl.1 (Nat.le_of_ble_eq_true rfl) d9_unroute_5 (by show 0 + _ ≤ mc; omega) (by show 0 + _ ≤ ms; omega) (fun ce q z H1 locs1 hw1 hS1 hz1 hk1 hR1 hce hcv hcl => ?_)
  cases sw_z hw hw1 hkd
  rw [List.append_nil] at hw1
  have hc1 := sw_ck hc0 hk1
  have ec : 0 + (hp_c h2 - hp_c h) = mc := by omega
  have es : 0 + (hp_s h2 - hp_s h) = ms := by omega
  rw [ec, es]
  refine sc_catch (own := "RouteHouseLaw") (E := "java/lang/IllegalArgumentException") (nm := "java/lang/IllegalArgumentException") hown [] ⟨0, 17, 20, 15⟩ [] htab (fun _ h => absurd h List.not_mem_nil) (by decide) (by decide) (hall _ wx_268) (sx_word (State.WarmedH.refl s) rfl rfl (hxa.1 _ wl_347 rfl rfl)) hce hcv hcl ?_
  refine lv_astore hx hb d9_unroute_20 hl (by decide) rfl (fun ls2 hl2 => ?_)
  refine lv_iconst (v := 1) hx hb d9_unroute_22 (by decide) ?_
  subst hAe
  exact W.iret hx hb hr (fun t ht hW => ⟨f, trivial, rfl, by rw [ht]; exact sd_w_moved hW.alike hw1, by rw [ht]; exact sw_cmoved hW.alike hc1, hS1.F ht⟩) hS1.2.2 d9_unroute_23
theorem wx_422 : (Jvm.Cond.methodLink "RouteHouseLaw" (31 : Nat) ({ cls := "RouteHouse", name := "lookup", desc := "(II)I" } : Jvm.MethodName)) ∈ tb_all := wd_o2 (i := 182) rfl rfl
theorem wx_421 : (Jvm.Cond.codeWith ({ cls := "RouteHouseLaw", name := "lookup", desc := "(LRouteHouse;II[J)I" } : Jvm.MethodName) method_7_code (5 : Nat) (Option.some Jvm.ClassFile.FieldType.int) [((0 : Nat), (10 : Nat), (13 : Nat), (15 : Nat))]) ∈ tb_all := wd_o2 (i := 181) rfl rfl
theorem d9_lookup_0 : decode method_7_code 0 = .ok (.aload_n 3, 1) := by decide +kernel
theorem d9_lookup_1 : decode method_7_code 1 = .ok (.iconst 0, 1) := by decide +kernel
theorem d9_lookup_2 : decode method_7_code 2 = .ok (.aload_n 0, 1) := by decide +kernel
theorem d9_lookup_3 : decode method_7_code 3 = .ok (.iload_n 1, 1) := by decide +kernel
theorem d9_lookup_4 : decode method_7_code 4 = .ok (.iload_n 2, 1) := by decide +kernel
theorem d9_lookup_5 : decode method_7_code 5 = .ok (.invokevirtual 31, 3) := by decide +kernel
theorem d9_lookup_8 : decode method_7_code 8 = .ok (.i2l, 1) := by decide +kernel
theorem d9_lookup_9 : decode method_7_code 9 = .ok (.lastore, 1) := by decide +kernel
theorem d9_lookup_10 : decode method_7_code 10 = .ok (.goto 7, 3) := by decide +kernel
theorem d9_lookup_13 : decode method_7_code 13 = .ok (.astore 4, 2) := by decide +kernel
theorem d9_lookup_15 : decode method_7_code 15 = .ok (.iconst 1, 1) := by decide +kernel
theorem d9_lookup_16 : decode method_7_code 16 = .ok (.ireturn, 1) := by decide +kernel
theorem d9_lookup_17 : decode method_7_code 17 = .ok (.iconst 0, 1) := by decide +kernel
theorem d9_lookup_18 : decode method_7_code 18 = .ok (.ireturn, 1) := by decide +kernel
def yw_lookup : MethodName := ⟨"RouteHouseLaw", "lookup", "(LRouteHouse;II[J)I"⟩
def ww_lookup : List Jvm.Cond := .codeWith yw_lookup method_7_code 5 (some .int) [(0, 10, 13, 15)] :: tb_all
set_option maxHeartbeats 4000000 in
set_option maxRecDepth 100000 in
theorem wr_lookup {l : Launch} (hlt : l.stackTraces = false) (D : va_G) {ad : List Nat} {h : hp_T} {qa qo sz d f0 : Nat} {p0 p1 : Int32} {f : Nat → Int64} {o : ev_O} (hev : ev_m d f0 51 [.ref 0, .int p0, .int p1] h = some o) (hk0 : hp_k h 0 = some (7, 0)) (hqa : ad[0]? = some qa) (hkd : o.2.1 = h.1) {mc ms : Nat} (hmc : mc + hp_c h = hp_c o.2) (hms : ms + hp_s h = hp_s o.2) {v : Int32} (ho : o.1 = .inl (some (.int v))) : Met l yw_lookup ww_lookup (sw_rm 51 mc ms) (sw_P D ad h qo f sz [.ref qa, .int p0, .int p1, .ref qo]) (sw_Q D ad o.2 qo sz 0 (fun f2 => f2 0 = v.toInt64)) mc ms (sd_fr (qo :: ad) sz) := by
  obtain ⟨r, h2⟩ := o
  cases ho
  have hmc : mc + hp_c h = hp_c h2 := hmc
  have hms : ms + hp_s h = hp_s h2 := hms
  refine va_MetW (cc := method_7_code) (maxL := 5) (ret := some .int) (hh := [(0, 10, 13, 15)]) (by decide +kernel) rfl ?_
  intro p e s m args below meth c s₁ B hml hv
  obtain ⟨rfl, hsz, hw, hc0, hxh, hxa, hg, hn⟩ := hv
  have hx := B.exec
  have hb := B.bytes
  have hr := B.returns
  have hts := atoms_spec (ws := ww_lookup) B.pre
  have hall : ∀ w ∈ tb_all, w.before _ s = true := fun w h => hts w (List.mem_cons_of_mem _ h)
  have hown : s.vm.findClass "RouteHouseLaw" = some m.cls := findClass_of_methodNamed B.named
  have hlocks := B.notSynchronized
  have htab := sw_tab B (hts _ List.mem_cons_self)
  subst hsz
  have hA : ∀ q, s.heap.size ≤ q → sd_fr (qo :: ad) s.heap.size q := fun q h => Or.inr h
  generalize hAe : sd_fr (qo :: ad) s.heap.size = A at hw hc0 hA
  have hR : sw_R s s.heap := ⟨hxh, hxa, hg, fun _ _ h _ => h⟩
  have hl := lv_entry ([.ref qa, .int p0, .int p1, .ref qo]) (n := 5) (Nat.le_of_ble_eq_true rfl)
  rw [lg_entry_eq]
  generalize (lg_sl ([.ref qa, .int p0, .int p1, .ref qo]) ++ List.replicate (5 - (lg_sl ([.ref qa, .int p0, .int p1, .ref qo])).length) Slot.unset).toArray = ls at hl ⊢
  have hl : lv_has ls 5 [(0, .ref qa), (1, .int p0), (2, .int p1), (3, .ref qo)] := hl
  refine lv_aload_n hx hb d9_lookup_0 rfl (lv_at hl 3 rfl) ?_
  refine lv_iconst (v := 0) hx hb d9_lookup_1 (by decide) ?_
  refine lv_aload_n hx hb d9_lookup_2 rfl (lv_at hl 0 rfl) ?_
  refine lv_iload_n hx hb d9_lookup_3 rfl (lv_at hl 1 rfl) ?_
  refine lv_iload_n hx hb d9_lookup_4 rfl (lv_at hl 2 rfl) ?_
  refine sw_ret hlt (AsC := [.int p0, .int p1]) (K := [.int 0, .ref qo]) hev rfl hx hb hml hown hts (sw_good mt_51.2.2.1) (hall _ wx_422) mt_51 hall (Nat.le_refl _) (Nat.le_refl _) hw va_S.rf hA hR hk0 hqa ⟨rfl, rfl, trivial⟩ rfl hl.1 (Nat.le_of_ble_eq_true rfl) d9_lookup_5 (by show 0 + _ ≤ mc; omega) (by show 0 + _ ≤ ms; omega) (fun w z H1 locs1 hw1 hS1 hq1 hz1 hk1 hR1 => ?_)
  cases sw_z hw hw1 hkd
  rw [List.append_nil] at hw1 hq1
  have hc1 := sw_ck hc0 hk1
  have ec : 0 + (hp_c h2 - hp_c h) = mc := by omega
  have es : 0 + (hp_s h2 - hp_s h) = ms := by omega
  rw [ec, es]
  cases w with
  | none => exact False.elim hq1
  | some w =>
    have hq2 : w = .int v := hq1.1
    subst hq2
    refine W.eq (g2 := F0 m 8 ls [.int v, .int 0, .ref qo]) rfl ?_
    refine lv_i2l hx hb d9_lookup_8 rfl ?_
    refine sw_last hx hb hw1 hc1 hS1 d9_lookup_9 (fun H2 locs2 hw2 hc2 hS2 => ?_)
    refine lv_goto (tgt := 17) hx hb d9_lookup_10 (by decide) ?_
    refine lv_iconst (v := 0) hx hb d9_lookup_17 (by decide) ?_
    subst hAe
    exact W.iret hx hb hr (fun t ht hW => ⟨_, pk_uLs, rfl, by rw [ht]; exact sd_w_moved hW.alike hw2, by rw [ht]; exact sw_cmoved hW.alike hc2, hS2.F ht⟩) hS2.2.2 d9_lookup_18
set_option maxHeartbeats 4000000 in
set_option maxRecDepth 100000 in
theorem wt_lookup_1 {l : Launch} (hlt : l.stackTraces = false) (D : va_G) {ad : List Nat} {h : hp_T} {qa qo sz d f0 : Nat} {p0 p1 : Int32} {f : Nat → Int64} {o : ev_O} (hev : ev_m d f0 51 [.ref 0, .int p0, .int p1] h = some o) (hk0 : hp_k h 0 = some (7, 0)) (hqa : ad[0]? = some qa) (hkd : o.2.1 = h.1) {mc ms : Nat} (hmc : mc + hp_c h = hp_c o.2) (hms : ms + hp_s h = hp_s o.2) (ho : o.1 = .inr 1) : Met l yw_lookup ww_lookup (sw_rm 51 mc ms) (sw_P D ad h qo f sz [.ref qa, .int p0, .int p1, .ref qo]) (sw_Q D ad o.2 qo sz 1 (fun _ => True)) mc ms (sd_fr (qo :: ad) sz) := by
  obtain ⟨r, h2⟩ := o
  cases ho
  have hmc : mc + hp_c h = hp_c h2 := hmc
  have hms : ms + hp_s h = hp_s h2 := hms
  refine va_MetW (cc := method_7_code) (maxL := 5) (ret := some .int) (hh := [(0, 10, 13, 15)]) (by decide +kernel) rfl ?_
  intro p e s m args below meth c s₁ B hml hv
  obtain ⟨rfl, hsz, hw, hc0, hxh, hxa, hg, hn⟩ := hv
  have hx := B.exec
  have hb := B.bytes
  have hr := B.returns
  have hts := atoms_spec (ws := ww_lookup) B.pre
  have hall : ∀ w ∈ tb_all, w.before _ s = true := fun w h => hts w (List.mem_cons_of_mem _ h)
  have hown : s.vm.findClass "RouteHouseLaw" = some m.cls := findClass_of_methodNamed B.named
  have hlocks := B.notSynchronized
  have htab := sw_tab B (hts _ List.mem_cons_self)
  subst hsz
  have hA : ∀ q, s.heap.size ≤ q → sd_fr (qo :: ad) s.heap.size q := fun q h => Or.inr h
  generalize hAe : sd_fr (qo :: ad) s.heap.size = A at hw hc0 hA
  have hR : sw_R s s.heap := ⟨hxh, hxa, hg, fun _ _ h _ => h⟩
  have hl := lv_entry ([.ref qa, .int p0, .int p1, .ref qo]) (n := 5) (Nat.le_of_ble_eq_true rfl)
  rw [lg_entry_eq]
  generalize (lg_sl ([.ref qa, .int p0, .int p1, .ref qo]) ++ List.replicate (5 - (lg_sl ([.ref qa, .int p0, .int p1, .ref qo])).length) Slot.unset).toArray = ls at hl ⊢
  have hl : lv_has ls 5 [(0, .ref qa), (1, .int p0), (2, .int p1), (3, .ref qo)] := hl
  refine lv_aload_n hx hb d9_lookup_0 rfl (lv_at hl 3 rfl) ?_
  refine lv_iconst (v := 0) hx hb d9_lookup_1 (by decide) ?_
  refine lv_aload_n hx hb d9_lookup_2 rfl (lv_at hl 0 rfl) ?_
  refine lv_iload_n hx hb d9_lookup_3 rfl (lv_at hl 1 rfl) ?_
  refine lv_iload_n hx hb d9_lookup_4 rfl (lv_at hl 2 rfl) ?_
  refine sw_thr hlt (AsC := [.int p0, .int p1]) (K := [.int 0, .ref qo]) hev rfl hx hb hml hown hts (sw_good mt_51.2.2.1) (hall _ wx_422) mt_51 hall (Nat.le_refl _) (Nat.le_refl _) hw va_S.rf hA hR hk0 hqa ⟨rfl, rfl, trivial⟩ rfl hl.1 (Nat.le_of_ble_eq_true rfl) d9_lookup_5 (by show 0 + _ ≤ mc; omega) (by show 0 + _ ≤ ms; omega) (fun ce q z H1 locs1 hw1 hS1 hz1 hk1 hR1 hce hcv hcl => ?_)
  cases sw_z hw hw1 hkd
  rw [List.append_nil] at hw1
  have hc1 := sw_ck hc0 hk1
  have ec : 0 + (hp_c h2 - hp_c h) = mc := by omega
  have es : 0 + (hp_s h2 - hp_s h) = ms := by omega
  rw [ec, es]
  refine sc_catch (own := "RouteHouseLaw") (E := "java/lang/IllegalArgumentException") (nm := "java/lang/IllegalArgumentException") hown [] ⟨0, 10, 13, 15⟩ [] htab (fun _ h => absurd h List.not_mem_nil) (by decide) (by decide) (hall _ wx_268) (sx_word (State.WarmedH.refl s) rfl rfl (hxa.1 _ wl_347 rfl rfl)) hce hcv hcl ?_
  refine lv_astore hx hb d9_lookup_13 hl (by decide) rfl (fun ls2 hl2 => ?_)
  refine lv_iconst (v := 1) hx hb d9_lookup_15 (by decide) ?_
  subst hAe
  exact W.iret hx hb hr (fun t ht hW => ⟨f, trivial, rfl, by rw [ht]; exact sd_w_moved hW.alike hw1, by rw [ht]; exact sw_cmoved hW.alike hc1, hS1.F ht⟩) hS1.2.2 d9_lookup_16
theorem wx_435 : (Jvm.Cond.methodLink "RouteHouseLaw" (35 : Nat) ({ cls := "RouteHouse", name := "feed", desc := "(IIIII)I" } : Jvm.MethodName)) ∈ tb_all := wd_o2 (i := 195) rfl rfl
theorem wx_433 : (Jvm.Cond.codeWith ({ cls := "RouteHouseLaw", name := "feed", desc := "(LRouteHouse;IIIII[J)I" } : Jvm.MethodName) method_8_code (8 : Nat) (Option.some Jvm.ClassFile.FieldType.int) [((0 : Nat), (16 : Nat), (19 : Nat), (39 : Nat))]) ∈ tb_all := wd_o2 (i := 193) rfl rfl
theorem wx_434 : (Jvm.Cond.classLink "RouteHouseLaw" (39 : Nat) "java/lang/IllegalStateException") ∈ tb_all := wd_o2 (i := 194) rfl rfl
theorem d9_feed_0 : decode method_8_code 0 = .ok (.aload 6, 2) := by decide +kernel
theorem d9_feed_2 : decode method_8_code 2 = .ok (.iconst 0, 1) := by decide +kernel
theorem d9_feed_3 : decode method_8_code 3 = .ok (.aload_n 0, 1) := by decide +kernel
theorem d9_feed_4 : decode method_8_code 4 = .ok (.iload_n 1, 1) := by decide +kernel
theorem d9_feed_5 : decode method_8_code 5 = .ok (.iload_n 2, 1) := by decide +kernel
theorem d9_feed_6 : decode method_8_code 6 = .ok (.iload_n 3, 1) := by decide +kernel
theorem d9_feed_7 : decode method_8_code 7 = .ok (.iload 4, 2) := by decide +kernel
theorem d9_feed_9 : decode method_8_code 9 = .ok (.iload 5, 2) := by decide +kernel
theorem d9_feed_11 : decode method_8_code 11 = .ok (.invokevirtual 35, 3) := by decide +kernel
theorem d9_feed_14 : decode method_8_code 14 = .ok (.i2l, 1) := by decide +kernel
theorem d9_feed_15 : decode method_8_code 15 = .ok (.lastore, 1) := by decide +kernel
theorem d9_feed_16 : decode method_8_code 16 = .ok (.goto 7, 3) := by decide +kernel
theorem d9_feed_19 : decode method_8_code 19 = .ok (.astore 7, 2) := by decide +kernel
theorem d9_feed_21 : decode method_8_code 21 = .ok (.iconst 1, 1) := by decide +kernel
theorem d9_feed_22 : decode method_8_code 22 = .ok (.ireturn, 1) := by decide +kernel
theorem d9_feed_23 : decode method_8_code 23 = .ok (.iconst 0, 1) := by decide +kernel
theorem d9_feed_24 : decode method_8_code 24 = .ok (.ireturn, 1) := by decide +kernel
def yw_feed : MethodName := ⟨"RouteHouseLaw", "feed", "(LRouteHouse;IIIII[J)I"⟩
def ww_feed : List Jvm.Cond := .codeWith yw_feed method_8_code 8 (some .int) [(0, 16, 19, 39)] :: tb_all
set_option maxHeartbeats 4000000 in
set_option maxRecDepth 100000 in
theorem wr_feed {l : Launch} (hlt : l.stackTraces = false) (D : va_G) {ad : List Nat} {h : hp_T} {qa qo sz d f0 : Nat} {p0 p1 p2 p3 p4 : Int32} {f : Nat → Int64} {o : ev_O} (hev : ev_m d f0 52 [.ref 0, .int p0, .int p1, .int p2, .int p3, .int p4] h = some o) (hk0 : hp_k h 0 = some (7, 0)) (hqa : ad[0]? = some qa) (hkd : o.2.1 = h.1) {mc ms : Nat} (hmc : mc + hp_c h = hp_c o.2) (hms : ms + hp_s h = hp_s o.2) {v : Int32} (ho : o.1 = .inl (some (.int v))) : Met l yw_feed ww_feed (sw_rm 52 mc ms) (sw_P D ad h qo f sz [.ref qa, .int p0, .int p1, .int p2, .int p3, .int p4, .ref qo]) (sw_Q D ad o.2 qo sz 0 (fun f2 => f2 0 = v.toInt64)) mc ms (sd_fr (qo :: ad) sz) := by
  obtain ⟨r, h2⟩ := o
  cases ho
  have hmc : mc + hp_c h = hp_c h2 := hmc
  have hms : ms + hp_s h = hp_s h2 := hms
  refine va_MetW (cc := method_8_code) (maxL := 8) (ret := some .int) (hh := [(0, 16, 19, 39)]) (by decide +kernel) rfl ?_
  intro p e s m args below meth c s₁ B hml hv
  obtain ⟨rfl, hsz, hw, hc0, hxh, hxa, hg, hn⟩ := hv
  have hx := B.exec
  have hb := B.bytes
  have hr := B.returns
  have hts := atoms_spec (ws := ww_feed) B.pre
  have hall : ∀ w ∈ tb_all, w.before _ s = true := fun w h => hts w (List.mem_cons_of_mem _ h)
  have hown : s.vm.findClass "RouteHouseLaw" = some m.cls := findClass_of_methodNamed B.named
  have hlocks := B.notSynchronized
  have htab := sw_tab B (hts _ List.mem_cons_self)
  subst hsz
  have hA : ∀ q, s.heap.size ≤ q → sd_fr (qo :: ad) s.heap.size q := fun q h => Or.inr h
  generalize hAe : sd_fr (qo :: ad) s.heap.size = A at hw hc0 hA
  have hR : sw_R s s.heap := ⟨hxh, hxa, hg, fun _ _ h _ => h⟩
  have hl := lv_entry ([.ref qa, .int p0, .int p1, .int p2, .int p3, .int p4, .ref qo]) (n := 8) (Nat.le_of_ble_eq_true rfl)
  rw [lg_entry_eq]
  generalize (lg_sl ([.ref qa, .int p0, .int p1, .int p2, .int p3, .int p4, .ref qo]) ++ List.replicate (8 - (lg_sl ([.ref qa, .int p0, .int p1, .int p2, .int p3, .int p4, .ref qo])).length) Slot.unset).toArray = ls at hl ⊢
  have hl : lv_has ls 8 [(0, .ref qa), (1, .int p0), (2, .int p1), (3, .int p2), (4, .int p3), (5, .int p4), (6, .ref qo)] := hl
  refine lv_aload hx hb d9_feed_0 (lv_at hl 6 rfl) ?_
  refine lv_iconst (v := 0) hx hb d9_feed_2 (by decide) ?_
  refine lv_aload_n hx hb d9_feed_3 rfl (lv_at hl 0 rfl) ?_
  refine lv_iload_n hx hb d9_feed_4 rfl (lv_at hl 1 rfl) ?_
  refine lv_iload_n hx hb d9_feed_5 rfl (lv_at hl 2 rfl) ?_
  refine lv_iload_n hx hb d9_feed_6 rfl (lv_at hl 3 rfl) ?_
  refine lv_iload hx hb d9_feed_7 (lv_at hl 4 rfl) ?_
  refine lv_iload hx hb d9_feed_9 (lv_at hl 5 rfl) ?_
  refine sw_ret hlt (AsC := [.int p0, .int p1, .int p2, .int p3, .int p4]) (K := [.int 0, .ref qo]) hev rfl hx hb hml hown hts (sw_good mt_52.2.2.1) (hall _ wx_435) mt_52 hall (Nat.le_refl _) (Nat.le_refl _) hw va_S.rf hA hR hk0 hqa ⟨rfl, rfl, rfl, rfl, rfl, trivial⟩ rfl hl.1 (Nat.le_of_ble_eq_true rfl) d9_feed_11 (by show 0 + _ ≤ mc; omega) (by show 0 + _ ≤ ms; omega) (fun w z H1 locs1 hw1 hS1 hq1 hz1 hk1 hR1 => ?_)
  cases sw_z hw hw1 hkd
  rw [List.append_nil] at hw1 hq1
  have hc1 := sw_ck hc0 hk1
  have ec : 0 + (hp_c h2 - hp_c h) = mc := by omega
  have es : 0 + (hp_s h2 - hp_s h) = ms := by omega
  rw [ec, es]
  cases w with
  | none => exact False.elim hq1
  | some w =>
    have hq2 : w = .int v := hq1.1
    subst hq2
    refine W.eq (g2 := F0 m 14 ls [.int v, .int 0, .ref qo]) rfl ?_
    refine lv_i2l hx hb d9_feed_14 rfl ?_
    refine sw_last hx hb hw1 hc1 hS1 d9_feed_15 (fun H2 locs2 hw2 hc2 hS2 => ?_)
    refine lv_goto (tgt := 23) hx hb d9_feed_16 (by decide) ?_
    refine lv_iconst (v := 0) hx hb d9_feed_23 (by decide) ?_
    subst hAe
    exact W.iret hx hb hr (fun t ht hW => ⟨_, pk_uLs, rfl, by rw [ht]; exact sd_w_moved hW.alike hw2, by rw [ht]; exact sw_cmoved hW.alike hc2, hS2.F ht⟩) hS2.2.2 d9_feed_24
set_option maxHeartbeats 4000000 in
set_option maxRecDepth 100000 in
theorem wt_feed_3 {l : Launch} (hlt : l.stackTraces = false) (D : va_G) {ad : List Nat} {h : hp_T} {qa qo sz d f0 : Nat} {p0 p1 p2 p3 p4 : Int32} {f : Nat → Int64} {o : ev_O} (hev : ev_m d f0 52 [.ref 0, .int p0, .int p1, .int p2, .int p3, .int p4] h = some o) (hk0 : hp_k h 0 = some (7, 0)) (hqa : ad[0]? = some qa) (hkd : o.2.1 = h.1) {mc ms : Nat} (hmc : mc + hp_c h = hp_c o.2) (hms : ms + hp_s h = hp_s o.2) (ho : o.1 = .inr 3) : Met l yw_feed ww_feed (sw_rm 52 mc ms) (sw_P D ad h qo f sz [.ref qa, .int p0, .int p1, .int p2, .int p3, .int p4, .ref qo]) (sw_Q D ad o.2 qo sz 1 (fun _ => True)) mc ms (sd_fr (qo :: ad) sz) := by
  obtain ⟨r, h2⟩ := o
  cases ho
  have hmc : mc + hp_c h = hp_c h2 := hmc
  have hms : ms + hp_s h = hp_s h2 := hms
  refine va_MetW (cc := method_8_code) (maxL := 8) (ret := some .int) (hh := [(0, 16, 19, 39)]) (by decide +kernel) rfl ?_
  intro p e s m args below meth c s₁ B hml hv
  obtain ⟨rfl, hsz, hw, hc0, hxh, hxa, hg, hn⟩ := hv
  have hx := B.exec
  have hb := B.bytes
  have hr := B.returns
  have hts := atoms_spec (ws := ww_feed) B.pre
  have hall : ∀ w ∈ tb_all, w.before _ s = true := fun w h => hts w (List.mem_cons_of_mem _ h)
  have hown : s.vm.findClass "RouteHouseLaw" = some m.cls := findClass_of_methodNamed B.named
  have hlocks := B.notSynchronized
  have htab := sw_tab B (hts _ List.mem_cons_self)
  subst hsz
  have hA : ∀ q, s.heap.size ≤ q → sd_fr (qo :: ad) s.heap.size q := fun q h => Or.inr h
  generalize hAe : sd_fr (qo :: ad) s.heap.size = A at hw hc0 hA
  have hR : sw_R s s.heap := ⟨hxh, hxa, hg, fun _ _ h _ => h⟩
  have hl := lv_entry ([.ref qa, .int p0, .int p1, .int p2, .int p3, .int p4, .ref qo]) (n := 8) (Nat.le_of_ble_eq_true rfl)
  rw [lg_entry_eq]
  generalize (lg_sl ([.ref qa, .int p0, .int p1, .int p2, .int p3, .int p4, .ref qo]) ++ List.replicate (8 - (lg_sl ([.ref qa, .int p0, .int p1, .int p2, .int p3, .int p4, .ref qo])).length) Slot.unset).toArray = ls at hl ⊢
  have hl : lv_has ls 8 [(0, .ref qa), (1, .int p0), (2, .int p1), (3, .int p2), (4, .int p3), (5, .int p4), (6, .ref qo)] := hl
  refine lv_aload hx hb d9_feed_0 (lv_at hl 6 rfl) ?_
  refine lv_iconst (v := 0) hx hb d9_feed_2 (by decide) ?_
  refine lv_aload_n hx hb d9_feed_3 rfl (lv_at hl 0 rfl) ?_
  refine lv_iload_n hx hb d9_feed_4 rfl (lv_at hl 1 rfl) ?_
  refine lv_iload_n hx hb d9_feed_5 rfl (lv_at hl 2 rfl) ?_
  refine lv_iload_n hx hb d9_feed_6 rfl (lv_at hl 3 rfl) ?_
  refine lv_iload hx hb d9_feed_7 (lv_at hl 4 rfl) ?_
  refine lv_iload hx hb d9_feed_9 (lv_at hl 5 rfl) ?_
  refine sw_thr hlt (AsC := [.int p0, .int p1, .int p2, .int p3, .int p4]) (K := [.int 0, .ref qo]) hev rfl hx hb hml hown hts (sw_good mt_52.2.2.1) (hall _ wx_435) mt_52 hall (Nat.le_refl _) (Nat.le_refl _) hw va_S.rf hA hR hk0 hqa ⟨rfl, rfl, rfl, rfl, rfl, trivial⟩ rfl hl.1 (Nat.le_of_ble_eq_true rfl) d9_feed_11 (by show 0 + _ ≤ mc; omega) (by show 0 + _ ≤ ms; omega) (fun ce q z H1 locs1 hw1 hS1 hz1 hk1 hR1 hce hcv hcl => ?_)
  cases sw_z hw hw1 hkd
  rw [List.append_nil] at hw1
  have hc1 := sw_ck hc0 hk1
  have ec : 0 + (hp_c h2 - hp_c h) = mc := by omega
  have es : 0 + (hp_s h2 - hp_s h) = ms := by omega
  rw [ec, es]
  refine sc_catch (own := "RouteHouseLaw") (E := "java/lang/IllegalStateException") (nm := "java/lang/IllegalStateException") hown [] ⟨0, 16, 19, 39⟩ [] htab (fun _ h => absurd h List.not_mem_nil) (by decide) (by decide) (hall _ wx_434) (sx_word (State.WarmedH.refl s) rfl rfl (hxa.1 _ wl_441 rfl rfl)) hce hcv hcl ?_
  refine lv_astore hx hb d9_feed_19 hl (by decide) rfl (fun ls2 hl2 => ?_)
  refine lv_iconst (v := 1) hx hb d9_feed_21 (by decide) ?_
  subst hAe
  exact W.iret hx hb hr (fun t ht hW => ⟨f, trivial, rfl, by rw [ht]; exact sd_w_moved hW.alike hw1, by rw [ht]; exact sw_cmoved hW.alike hc1, hS1.F ht⟩) hS1.2.2 d9_feed_22
theorem wx_461 : (Jvm.Cond.methodLink "RouteHouseLaw" (41 : Nat) ({ cls := "RouteHouse", name := "end", desc := "(I)V" } : Jvm.MethodName)) ∈ tb_all := wd_o2 (i := 221) rfl rfl
theorem wx_460 : (Jvm.Cond.codeWith ({ cls := "RouteHouseLaw", name := "end", desc := "(LRouteHouse;I)I" } : Jvm.MethodName) method_9_code (3 : Nat) (Option.some Jvm.ClassFile.FieldType.int) [((0 : Nat), (5 : Nat), (8 : Nat), (15 : Nat))]) ∈ tb_all := wd_o2 (i := 220) rfl rfl
theorem d9_end_0 : decode method_9_code 0 = .ok (.aload_n 0, 1) := by decide +kernel
theorem d9_end_1 : decode method_9_code 1 = .ok (.iload_n 1, 1) := by decide +kernel
theorem d9_end_2 : decode method_9_code 2 = .ok (.invokevirtual 41, 3) := by decide +kernel
theorem d9_end_5 : decode method_9_code 5 = .ok (.goto 6, 3) := by decide +kernel
theorem d9_end_8 : decode method_9_code 8 = .ok (.astore_n 2, 1) := by decide +kernel
theorem d9_end_9 : decode method_9_code 9 = .ok (.iconst 1, 1) := by decide +kernel
theorem d9_end_10 : decode method_9_code 10 = .ok (.ireturn, 1) := by decide +kernel
theorem d9_end_11 : decode method_9_code 11 = .ok (.iconst 0, 1) := by decide +kernel
theorem d9_end_12 : decode method_9_code 12 = .ok (.ireturn, 1) := by decide +kernel
def yw_end : MethodName := ⟨"RouteHouseLaw", "end", "(LRouteHouse;I)I"⟩
def ww_end : List Jvm.Cond := .codeWith yw_end method_9_code 3 (some .int) [(0, 5, 8, 15)] :: tb_all
set_option maxHeartbeats 4000000 in
set_option maxRecDepth 100000 in
theorem wr_end {l : Launch} (hlt : l.stackTraces = false) (D : va_G) {ad : List Nat} {h : hp_T} {qa qo sz d f0 : Nat} {p0 : Int32} {f : Nat → Int64} {o : ev_O} (hev : ev_m d f0 53 [.ref 0, .int p0] h = some o) (hk0 : hp_k h 0 = some (7, 0)) (hqa : ad[0]? = some qa) (hkd : o.2.1 = h.1) {mc ms : Nat} (hmc : mc + hp_c h = hp_c o.2) (hms : ms + hp_s h = hp_s o.2) (ho : o.1 = .inl none) : Met l yw_end ww_end (sw_rm 53 mc ms) (sw_P D ad h qo f sz [.ref qa, .int p0]) (sw_Q D ad o.2 qo sz 0 (fun f2 => True)) mc ms (sd_fr (qo :: ad) sz) := by
  obtain ⟨r, h2⟩ := o
  cases ho
  have hmc : mc + hp_c h = hp_c h2 := hmc
  have hms : ms + hp_s h = hp_s h2 := hms
  refine va_MetW (cc := method_9_code) (maxL := 3) (ret := some .int) (hh := [(0, 5, 8, 15)]) (by decide +kernel) rfl ?_
  intro p e s m args below meth c s₁ B hml hv
  obtain ⟨rfl, hsz, hw, hc0, hxh, hxa, hg, hn⟩ := hv
  have hx := B.exec
  have hb := B.bytes
  have hr := B.returns
  have hts := atoms_spec (ws := ww_end) B.pre
  have hall : ∀ w ∈ tb_all, w.before _ s = true := fun w h => hts w (List.mem_cons_of_mem _ h)
  have hown : s.vm.findClass "RouteHouseLaw" = some m.cls := findClass_of_methodNamed B.named
  have hlocks := B.notSynchronized
  have htab := sw_tab B (hts _ List.mem_cons_self)
  subst hsz
  have hA : ∀ q, s.heap.size ≤ q → sd_fr (qo :: ad) s.heap.size q := fun q h => Or.inr h
  generalize hAe : sd_fr (qo :: ad) s.heap.size = A at hw hc0 hA
  have hR : sw_R s s.heap := ⟨hxh, hxa, hg, fun _ _ h _ => h⟩
  have hl := lv_entry ([.ref qa, .int p0]) (n := 3) (Nat.le_of_ble_eq_true rfl)
  rw [lg_entry_eq]
  generalize (lg_sl ([.ref qa, .int p0]) ++ List.replicate (3 - (lg_sl ([.ref qa, .int p0])).length) Slot.unset).toArray = ls at hl ⊢
  have hl : lv_has ls 3 [(0, .ref qa), (1, .int p0)] := hl
  refine lv_aload_n hx hb d9_end_0 rfl (lv_at hl 0 rfl) ?_
  refine lv_iload_n hx hb d9_end_1 rfl (lv_at hl 1 rfl) ?_
  refine sw_ret hlt (AsC := [.int p0]) (K := []) hev rfl hx hb hml hown hts (sw_good mt_53.2.2.1) (hall _ wx_461) mt_53 hall (Nat.le_refl _) (Nat.le_refl _) hw va_S.rf hA hR hk0 hqa ⟨rfl, trivial⟩ rfl hl.1 (Nat.le_of_ble_eq_true rfl) d9_end_2 (by show 0 + _ ≤ mc; omega) (by show 0 + _ ≤ ms; omega) (fun w z H1 locs1 hw1 hS1 hq1 hz1 hk1 hR1 => ?_)
  cases sw_z hw hw1 hkd
  rw [List.append_nil] at hw1 hq1
  have hc1 := sw_ck hc0 hk1
  have ec : 0 + (hp_c h2 - hp_c h) = mc := by omega
  have es : 0 + (hp_s h2 - hp_s h) = ms := by omega
  rw [ec, es]
  cases w with
  | some w => exact False.elim hq1
  | none =>
    refine W.eq (g2 := F0 m 5 ls []) rfl ?_
    refine lv_goto (tgt := 11) hx hb d9_end_5 (by decide) ?_
    refine lv_iconst (v := 0) hx hb d9_end_11 (by decide) ?_
    subst hAe
    exact W.iret hx hb hr (fun t ht hW => ⟨_, trivial, rfl, by rw [ht]; exact sd_w_moved hW.alike hw1, by rw [ht]; exact sw_cmoved hW.alike hc1, hS1.F ht⟩) hS1.2.2 d9_end_12
set_option maxHeartbeats 4000000 in
set_option maxRecDepth 100000 in
theorem wt_end_1 {l : Launch} (hlt : l.stackTraces = false) (D : va_G) {ad : List Nat} {h : hp_T} {qa qo sz d f0 : Nat} {p0 : Int32} {f : Nat → Int64} {o : ev_O} (hev : ev_m d f0 53 [.ref 0, .int p0] h = some o) (hk0 : hp_k h 0 = some (7, 0)) (hqa : ad[0]? = some qa) (hkd : o.2.1 = h.1) {mc ms : Nat} (hmc : mc + hp_c h = hp_c o.2) (hms : ms + hp_s h = hp_s o.2) (ho : o.1 = .inr 1) : Met l yw_end ww_end (sw_rm 53 mc ms) (sw_P D ad h qo f sz [.ref qa, .int p0]) (sw_Q D ad o.2 qo sz 1 (fun _ => True)) mc ms (sd_fr (qo :: ad) sz) := by
  obtain ⟨r, h2⟩ := o
  cases ho
  have hmc : mc + hp_c h = hp_c h2 := hmc
  have hms : ms + hp_s h = hp_s h2 := hms
  refine va_MetW (cc := method_9_code) (maxL := 3) (ret := some .int) (hh := [(0, 5, 8, 15)]) (by decide +kernel) rfl ?_
  intro p e s m args below meth c s₁ B hml hv
  obtain ⟨rfl, hsz, hw, hc0, hxh, hxa, hg, hn⟩ := hv
  have hx := B.exec
  have hb := B.bytes
  have hr := B.returns
  have hts := atoms_spec (ws := ww_end) B.pre
  have hall : ∀ w ∈ tb_all, w.before _ s = true := fun w h => hts w (List.mem_cons_of_mem _ h)
  have hown : s.vm.findClass "RouteHouseLaw" = some m.cls := findClass_of_methodNamed B.named
  have hlocks := B.notSynchronized
  have htab := sw_tab B (hts _ List.mem_cons_self)
  subst hsz
  have hA : ∀ q, s.heap.size ≤ q → sd_fr (qo :: ad) s.heap.size q := fun q h => Or.inr h
  generalize hAe : sd_fr (qo :: ad) s.heap.size = A at hw hc0 hA
  have hR : sw_R s s.heap := ⟨hxh, hxa, hg, fun _ _ h _ => h⟩
  have hl := lv_entry ([.ref qa, .int p0]) (n := 3) (Nat.le_of_ble_eq_true rfl)
  rw [lg_entry_eq]
  generalize (lg_sl ([.ref qa, .int p0]) ++ List.replicate (3 - (lg_sl ([.ref qa, .int p0])).length) Slot.unset).toArray = ls at hl ⊢
  have hl : lv_has ls 3 [(0, .ref qa), (1, .int p0)] := hl
  refine lv_aload_n hx hb d9_end_0 rfl (lv_at hl 0 rfl) ?_
  refine lv_iload_n hx hb d9_end_1 rfl (lv_at hl 1 rfl) ?_
  refine sw_thr hlt (AsC := [.int p0]) (K := []) hev rfl hx hb hml hown hts (sw_good mt_53.2.2.1) (hall _ wx_461) mt_53 hall (Nat.le_refl _) (Nat.le_refl _) hw va_S.rf hA hR hk0 hqa ⟨rfl, trivial⟩ rfl hl.1 (Nat.le_of_ble_eq_true rfl) d9_end_2 (by show 0 + _ ≤ mc; omega) (by show 0 + _ ≤ ms; omega) (fun ce q z H1 locs1 hw1 hS1 hz1 hk1 hR1 hce hcv hcl => ?_)
  cases sw_z hw hw1 hkd
  rw [List.append_nil] at hw1
  have hc1 := sw_ck hc0 hk1
  have ec : 0 + (hp_c h2 - hp_c h) = mc := by omega
  have es : 0 + (hp_s h2 - hp_s h) = ms := by omega
  rw [ec, es]
  refine sc_catch (own := "RouteHouseLaw") (E := "java/lang/IllegalArgumentException") (nm := "java/lang/IllegalArgumentException") hown [] ⟨0, 5, 8, 15⟩ [] htab (fun _ h => absurd h List.not_mem_nil) (by decide) (by decide) (hall _ wx_268) (sx_word (State.WarmedH.refl s) rfl rfl (hxa.1 _ wl_347 rfl rfl)) hce hcv hcl ?_
  refine lv_astore_n hx hb d9_end_8 rfl hl (by decide) rfl (fun ls2 hl2 => ?_)
  refine lv_iconst (v := 1) hx hb d9_end_9 (by decide) ?_
  subst hAe
  exact W.iret hx hb hr (fun t ht hW => ⟨f, trivial, rfl, by rw [ht]; exact sd_w_moved hW.alike hw1, by rw [ht]; exact sw_cmoved hW.alike hc1, hS1.F ht⟩) hS1.2.2 d9_end_10
theorem wx_469 : (Jvm.Cond.methodLink "RouteHouseLaw" (45 : Nat) ({ cls := "RouteHouse", name := "sum", desc := "(I)V" } : Jvm.MethodName)) ∈ tb_all := wd_o2 (i := 229) rfl rfl
theorem wx_468 : (Jvm.Cond.codeWith ({ cls := "RouteHouseLaw", name := "sum", desc := "(LRouteHouse;I)I" } : Jvm.MethodName) method_10_code (3 : Nat) (Option.some Jvm.ClassFile.FieldType.int) [((0 : Nat), (5 : Nat), (8 : Nat), (15 : Nat))]) ∈ tb_all := wd_o2 (i := 228) rfl rfl
theorem d9_sum_0 : decode method_10_code 0 = .ok (.aload_n 0, 1) := by decide +kernel
theorem d9_sum_1 : decode method_10_code 1 = .ok (.iload_n 1, 1) := by decide +kernel
theorem d9_sum_2 : decode method_10_code 2 = .ok (.invokevirtual 45, 3) := by decide +kernel
theorem d9_sum_5 : decode method_10_code 5 = .ok (.goto 6, 3) := by decide +kernel
theorem d9_sum_8 : decode method_10_code 8 = .ok (.astore_n 2, 1) := by decide +kernel
theorem d9_sum_9 : decode method_10_code 9 = .ok (.iconst 1, 1) := by decide +kernel
theorem d9_sum_10 : decode method_10_code 10 = .ok (.ireturn, 1) := by decide +kernel
theorem d9_sum_11 : decode method_10_code 11 = .ok (.iconst 0, 1) := by decide +kernel
theorem d9_sum_12 : decode method_10_code 12 = .ok (.ireturn, 1) := by decide +kernel
def yw_sum : MethodName := ⟨"RouteHouseLaw", "sum", "(LRouteHouse;I)I"⟩
def ww_sum : List Jvm.Cond := .codeWith yw_sum method_10_code 3 (some .int) [(0, 5, 8, 15)] :: tb_all
set_option maxHeartbeats 4000000 in
set_option maxRecDepth 100000 in
theorem wr_sum {l : Launch} (hlt : l.stackTraces = false) (D : va_G) {ad : List Nat} {h : hp_T} {qa qo sz d f0 : Nat} {p0 : Int32} {f : Nat → Int64} {o : ev_O} (hev : ev_m d f0 54 [.ref 0, .int p0] h = some o) (hk0 : hp_k h 0 = some (7, 0)) (hqa : ad[0]? = some qa) (hkd : o.2.1 = h.1) {mc ms : Nat} (hmc : mc + hp_c h = hp_c o.2) (hms : ms + hp_s h = hp_s o.2) (ho : o.1 = .inl none) : Met l yw_sum ww_sum (sw_rm 54 mc ms) (sw_P D ad h qo f sz [.ref qa, .int p0]) (sw_Q D ad o.2 qo sz 0 (fun f2 => True)) mc ms (sd_fr (qo :: ad) sz) := by
  obtain ⟨r, h2⟩ := o
  cases ho
  have hmc : mc + hp_c h = hp_c h2 := hmc
  have hms : ms + hp_s h = hp_s h2 := hms
  refine va_MetW (cc := method_10_code) (maxL := 3) (ret := some .int) (hh := [(0, 5, 8, 15)]) (by decide +kernel) rfl ?_
  intro p e s m args below meth c s₁ B hml hv
  obtain ⟨rfl, hsz, hw, hc0, hxh, hxa, hg, hn⟩ := hv
  have hx := B.exec
  have hb := B.bytes
  have hr := B.returns
  have hts := atoms_spec (ws := ww_sum) B.pre
  have hall : ∀ w ∈ tb_all, w.before _ s = true := fun w h => hts w (List.mem_cons_of_mem _ h)
  have hown : s.vm.findClass "RouteHouseLaw" = some m.cls := findClass_of_methodNamed B.named
  have hlocks := B.notSynchronized
  have htab := sw_tab B (hts _ List.mem_cons_self)
  subst hsz
  have hA : ∀ q, s.heap.size ≤ q → sd_fr (qo :: ad) s.heap.size q := fun q h => Or.inr h
  generalize hAe : sd_fr (qo :: ad) s.heap.size = A at hw hc0 hA
  have hR : sw_R s s.heap := ⟨hxh, hxa, hg, fun _ _ h _ => h⟩
  have hl := lv_entry ([.ref qa, .int p0]) (n := 3) (Nat.le_of_ble_eq_true rfl)
  rw [lg_entry_eq]
  generalize (lg_sl ([.ref qa, .int p0]) ++ List.replicate (3 - (lg_sl ([.ref qa, .int p0])).length) Slot.unset).toArray = ls at hl ⊢
  have hl : lv_has ls 3 [(0, .ref qa), (1, .int p0)] := hl
  refine lv_aload_n hx hb d9_sum_0 rfl (lv_at hl 0 rfl) ?_
  refine lv_iload_n hx hb d9_sum_1 rfl (lv_at hl 1 rfl) ?_
  refine sw_ret hlt (AsC := [.int p0]) (K := []) hev rfl hx hb hml hown hts (sw_good mt_54.2.2.1) (hall _ wx_469) mt_54 hall (Nat.le_refl _) (Nat.le_refl _) hw va_S.rf hA hR hk0 hqa ⟨rfl, trivial⟩ rfl hl.1 (Nat.le_of_ble_eq_true rfl) d9_sum_2 (by show 0 + _ ≤ mc; omega) (by show 0 + _ ≤ ms; omega) (fun w z H1 locs1 hw1 hS1 hq1 hz1 hk1 hR1 => ?_)
  cases sw_z hw hw1 hkd
  rw [List.append_nil] at hw1 hq1
  have hc1 := sw_ck hc0 hk1
  have ec : 0 + (hp_c h2 - hp_c h) = mc := by omega
  have es : 0 + (hp_s h2 - hp_s h) = ms := by omega
  rw [ec, es]
  cases w with
  | some w => exact False.elim hq1
  | none =>
    refine W.eq (g2 := F0 m 5 ls []) rfl ?_
    refine lv_goto (tgt := 11) hx hb d9_sum_5 (by decide) ?_
    refine lv_iconst (v := 0) hx hb d9_sum_11 (by decide) ?_
    subst hAe
    exact W.iret hx hb hr (fun t ht hW => ⟨_, trivial, rfl, by rw [ht]; exact sd_w_moved hW.alike hw1, by rw [ht]; exact sw_cmoved hW.alike hc1, hS1.F ht⟩) hS1.2.2 d9_sum_12
set_option maxHeartbeats 4000000 in
set_option maxRecDepth 100000 in
theorem wt_sum_1 {l : Launch} (hlt : l.stackTraces = false) (D : va_G) {ad : List Nat} {h : hp_T} {qa qo sz d f0 : Nat} {p0 : Int32} {f : Nat → Int64} {o : ev_O} (hev : ev_m d f0 54 [.ref 0, .int p0] h = some o) (hk0 : hp_k h 0 = some (7, 0)) (hqa : ad[0]? = some qa) (hkd : o.2.1 = h.1) {mc ms : Nat} (hmc : mc + hp_c h = hp_c o.2) (hms : ms + hp_s h = hp_s o.2) (ho : o.1 = .inr 1) : Met l yw_sum ww_sum (sw_rm 54 mc ms) (sw_P D ad h qo f sz [.ref qa, .int p0]) (sw_Q D ad o.2 qo sz 1 (fun _ => True)) mc ms (sd_fr (qo :: ad) sz) := by
  obtain ⟨r, h2⟩ := o
  cases ho
  have hmc : mc + hp_c h = hp_c h2 := hmc
  have hms : ms + hp_s h = hp_s h2 := hms
  refine va_MetW (cc := method_10_code) (maxL := 3) (ret := some .int) (hh := [(0, 5, 8, 15)]) (by decide +kernel) rfl ?_
  intro p e s m args below meth c s₁ B hml hv
  obtain ⟨rfl, hsz, hw, hc0, hxh, hxa, hg, hn⟩ := hv
  have hx := B.exec
  have hb := B.bytes
  have hr := B.returns
  have hts := atoms_spec (ws := ww_sum) B.pre
  have hall : ∀ w ∈ tb_all, w.before _ s = true := fun w h => hts w (List.mem_cons_of_mem _ h)
  have hown : s.vm.findClass "RouteHouseLaw" = some m.cls := findClass_of_methodNamed B.named
  have hlocks := B.notSynchronized
  have htab := sw_tab B (hts _ List.mem_cons_self)
  subst hsz
  have hA : ∀ q, s.heap.size ≤ q → sd_fr (qo :: ad) s.heap.size q := fun q h => Or.inr h
  generalize hAe : sd_fr (qo :: ad) s.heap.size = A at hw hc0 hA
  have hR : sw_R s s.heap := ⟨hxh, hxa, hg, fun _ _ h _ => h⟩
  have hl := lv_entry ([.ref qa, .int p0]) (n := 3) (Nat.le_of_ble_eq_true rfl)
  rw [lg_entry_eq]
  generalize (lg_sl ([.ref qa, .int p0]) ++ List.replicate (3 - (lg_sl ([.ref qa, .int p0])).length) Slot.unset).toArray = ls at hl ⊢
  have hl : lv_has ls 3 [(0, .ref qa), (1, .int p0)] := hl
  refine lv_aload_n hx hb d9_sum_0 rfl (lv_at hl 0 rfl) ?_
  refine lv_iload_n hx hb d9_sum_1 rfl (lv_at hl 1 rfl) ?_
  refine sw_thr hlt (AsC := [.int p0]) (K := []) hev rfl hx hb hml hown hts (sw_good mt_54.2.2.1) (hall _ wx_469) mt_54 hall (Nat.le_refl _) (Nat.le_refl _) hw va_S.rf hA hR hk0 hqa ⟨rfl, trivial⟩ rfl hl.1 (Nat.le_of_ble_eq_true rfl) d9_sum_2 (by show 0 + _ ≤ mc; omega) (by show 0 + _ ≤ ms; omega) (fun ce q z H1 locs1 hw1 hS1 hz1 hk1 hR1 hce hcv hcl => ?_)
  cases sw_z hw hw1 hkd
  rw [List.append_nil] at hw1
  have hc1 := sw_ck hc0 hk1
  have ec : 0 + (hp_c h2 - hp_c h) = mc := by omega
  have es : 0 + (hp_s h2 - hp_s h) = ms := by omega
  rw [ec, es]
  refine sc_catch (own := "RouteHouseLaw") (E := "java/lang/IllegalArgumentException") (nm := "java/lang/IllegalArgumentException") hown [] ⟨0, 5, 8, 15⟩ [] htab (fun _ h => absurd h List.not_mem_nil) (by decide) (by decide) (hall _ wx_268) (sx_word (State.WarmedH.refl s) rfl rfl (hxa.1 _ wl_347 rfl rfl)) hce hcv hcl ?_
  refine lv_astore_n hx hb d9_sum_8 rfl hl (by decide) rfl (fun ls2 hl2 => ?_)
  refine lv_iconst (v := 1) hx hb d9_sum_9 (by decide) ?_
  subst hAe
  exact W.iret hx hb hr (fun t ht hW => ⟨f, trivial, rfl, by rw [ht]; exact sd_w_moved hW.alike hw1, by rw [ht]; exact sw_cmoved hW.alike hc1, hS1.F ht⟩) hS1.2.2 d9_sum_10
theorem wx_484 : (Jvm.Cond.methodLink "RouteHouseLaw" (48 : Nat) ({ cls := "RouteHouse", name := "copy", desc := "(I)I" } : Jvm.MethodName)) ∈ tb_all := wd_o3 (i := 4) rfl rfl
theorem wx_483 : (Jvm.Cond.codeWith ({ cls := "RouteHouseLaw", name := "copy", desc := "(LRouteHouse;I[J)I" } : Jvm.MethodName) method_11_code (4 : Nat) (Option.some Jvm.ClassFile.FieldType.int) [((0 : Nat), (9 : Nat), (12 : Nat), (13 : Nat))]) ∈ tb_all := wd_o3 (i := 3) rfl rfl
theorem d9_copy_0 : decode method_11_code 0 = .ok (.aload_n 2, 1) := by decide +kernel
theorem d9_copy_1 : decode method_11_code 1 = .ok (.iconst 0, 1) := by decide +kernel
theorem d9_copy_2 : decode method_11_code 2 = .ok (.aload_n 0, 1) := by decide +kernel
theorem d9_copy_3 : decode method_11_code 3 = .ok (.iload_n 1, 1) := by decide +kernel
theorem d9_copy_4 : decode method_11_code 4 = .ok (.invokevirtual 48, 3) := by decide +kernel
theorem d9_copy_7 : decode method_11_code 7 = .ok (.i2l, 1) := by decide +kernel
theorem d9_copy_8 : decode method_11_code 8 = .ok (.lastore, 1) := by decide +kernel
theorem d9_copy_9 : decode method_11_code 9 = .ok (.goto 6, 3) := by decide +kernel
theorem d9_copy_12 : decode method_11_code 12 = .ok (.astore_n 3, 1) := by decide +kernel
theorem d9_copy_13 : decode method_11_code 13 = .ok (.iconst 1, 1) := by decide +kernel
theorem d9_copy_14 : decode method_11_code 14 = .ok (.ireturn, 1) := by decide +kernel
theorem d9_copy_15 : decode method_11_code 15 = .ok (.iconst 0, 1) := by decide +kernel
theorem d9_copy_16 : decode method_11_code 16 = .ok (.ireturn, 1) := by decide +kernel
def yw_copy : MethodName := ⟨"RouteHouseLaw", "copy", "(LRouteHouse;I[J)I"⟩
def ww_copy : List Jvm.Cond := .codeWith yw_copy method_11_code 4 (some .int) [(0, 9, 12, 13)] :: tb_all
set_option maxHeartbeats 4000000 in
set_option maxRecDepth 100000 in
theorem wr_copy {l : Launch} (hlt : l.stackTraces = false) (D : va_G) {ad : List Nat} {h : hp_T} {qa qo sz d f0 : Nat} {p0 : Int32} {f : Nat → Int64} {o : ev_O} (hev : ev_m d f0 55 [.ref 0, .int p0] h = some o) (hk0 : hp_k h 0 = some (7, 0)) (hqa : ad[0]? = some qa) (hkd : o.2.1 = h.1) {mc ms : Nat} (hmc : mc + hp_c h = hp_c o.2) (hms : ms + hp_s h = hp_s o.2) {v : Int32} (ho : o.1 = .inl (some (.int v))) : Met l yw_copy ww_copy (sw_rm 55 mc ms) (sw_P D ad h qo f sz [.ref qa, .int p0, .ref qo]) (sw_Q D ad o.2 qo sz 0 (fun f2 => f2 0 = v.toInt64)) mc ms (sd_fr (qo :: ad) sz) := by
  obtain ⟨r, h2⟩ := o
  cases ho
  have hmc : mc + hp_c h = hp_c h2 := hmc
  have hms : ms + hp_s h = hp_s h2 := hms
  refine va_MetW (cc := method_11_code) (maxL := 4) (ret := some .int) (hh := [(0, 9, 12, 13)]) (by decide +kernel) rfl ?_
  intro p e s m args below meth c s₁ B hml hv
  obtain ⟨rfl, hsz, hw, hc0, hxh, hxa, hg, hn⟩ := hv
  have hx := B.exec
  have hb := B.bytes
  have hr := B.returns
  have hts := atoms_spec (ws := ww_copy) B.pre
  have hall : ∀ w ∈ tb_all, w.before _ s = true := fun w h => hts w (List.mem_cons_of_mem _ h)
  have hown : s.vm.findClass "RouteHouseLaw" = some m.cls := findClass_of_methodNamed B.named
  have hlocks := B.notSynchronized
  have htab := sw_tab B (hts _ List.mem_cons_self)
  subst hsz
  have hA : ∀ q, s.heap.size ≤ q → sd_fr (qo :: ad) s.heap.size q := fun q h => Or.inr h
  generalize hAe : sd_fr (qo :: ad) s.heap.size = A at hw hc0 hA
  have hR : sw_R s s.heap := ⟨hxh, hxa, hg, fun _ _ h _ => h⟩
  have hl := lv_entry ([.ref qa, .int p0, .ref qo]) (n := 4) (Nat.le_of_ble_eq_true rfl)
  rw [lg_entry_eq]
  generalize (lg_sl ([.ref qa, .int p0, .ref qo]) ++ List.replicate (4 - (lg_sl ([.ref qa, .int p0, .ref qo])).length) Slot.unset).toArray = ls at hl ⊢
  have hl : lv_has ls 4 [(0, .ref qa), (1, .int p0), (2, .ref qo)] := hl
  refine lv_aload_n hx hb d9_copy_0 rfl (lv_at hl 2 rfl) ?_
  refine lv_iconst (v := 0) hx hb d9_copy_1 (by decide) ?_
  refine lv_aload_n hx hb d9_copy_2 rfl (lv_at hl 0 rfl) ?_
  refine lv_iload_n hx hb d9_copy_3 rfl (lv_at hl 1 rfl) ?_
  refine sw_ret hlt (AsC := [.int p0]) (K := [.int 0, .ref qo]) hev rfl hx hb hml hown hts (sw_good mt_55.2.2.1) (hall _ wx_484) mt_55 hall (Nat.le_refl _) (Nat.le_refl _) hw va_S.rf hA hR hk0 hqa ⟨rfl, trivial⟩ rfl hl.1 (Nat.le_of_ble_eq_true rfl) d9_copy_4 (by show 0 + _ ≤ mc; omega) (by show 0 + _ ≤ ms; omega) (fun w z H1 locs1 hw1 hS1 hq1 hz1 hk1 hR1 => ?_)
  cases sw_z hw hw1 hkd
  rw [List.append_nil] at hw1 hq1
  have hc1 := sw_ck hc0 hk1
  have ec : 0 + (hp_c h2 - hp_c h) = mc := by omega
  have es : 0 + (hp_s h2 - hp_s h) = ms := by omega
  rw [ec, es]
  cases w with
  | none => exact False.elim hq1
  | some w =>
    have hq2 : w = .int v := hq1.1
    subst hq2
    refine W.eq (g2 := F0 m 7 ls [.int v, .int 0, .ref qo]) rfl ?_
    refine lv_i2l hx hb d9_copy_7 rfl ?_
    refine sw_last hx hb hw1 hc1 hS1 d9_copy_8 (fun H2 locs2 hw2 hc2 hS2 => ?_)
    refine lv_goto (tgt := 15) hx hb d9_copy_9 (by decide) ?_
    refine lv_iconst (v := 0) hx hb d9_copy_15 (by decide) ?_
    subst hAe
    exact W.iret hx hb hr (fun t ht hW => ⟨_, pk_uLs, rfl, by rw [ht]; exact sd_w_moved hW.alike hw2, by rw [ht]; exact sw_cmoved hW.alike hc2, hS2.F ht⟩) hS2.2.2 d9_copy_16
set_option maxHeartbeats 4000000 in
set_option maxRecDepth 100000 in
theorem wt_copy_0 {l : Launch} (hlt : l.stackTraces = false) (D : va_G) {ad : List Nat} {h : hp_T} {qa qo sz d f0 : Nat} {p0 : Int32} {f : Nat → Int64} {o : ev_O} (hev : ev_m d f0 55 [.ref 0, .int p0] h = some o) (hk0 : hp_k h 0 = some (7, 0)) (hqa : ad[0]? = some qa) (hkd : o.2.1 = h.1) {mc ms : Nat} (hmc : mc + hp_c h = hp_c o.2) (hms : ms + hp_s h = hp_s o.2) (ho : o.1 = .inr 0) : Met l yw_copy ww_copy (sw_rm 55 mc ms) (sw_P D ad h qo f sz [.ref qa, .int p0, .ref qo]) (sw_Q D ad o.2 qo sz 1 (fun _ => True)) mc ms (sd_fr (qo :: ad) sz) := by
  obtain ⟨r, h2⟩ := o
  cases ho
  have hmc : mc + hp_c h = hp_c h2 := hmc
  have hms : ms + hp_s h = hp_s h2 := hms
  refine va_MetW (cc := method_11_code) (maxL := 4) (ret := some .int) (hh := [(0, 9, 12, 13)]) (by decide +kernel) rfl ?_
  intro p e s m args below meth c s₁ B hml hv
  obtain ⟨rfl, hsz, hw, hc0, hxh, hxa, hg, hn⟩ := hv
  have hx := B.exec
  have hb := B.bytes
  have hr := B.returns
  have hts := atoms_spec (ws := ww_copy) B.pre
  have hall : ∀ w ∈ tb_all, w.before _ s = true := fun w h => hts w (List.mem_cons_of_mem _ h)
  have hown : s.vm.findClass "RouteHouseLaw" = some m.cls := findClass_of_methodNamed B.named
  have hlocks := B.notSynchronized
  have htab := sw_tab B (hts _ List.mem_cons_self)
  subst hsz
  have hA : ∀ q, s.heap.size ≤ q → sd_fr (qo :: ad) s.heap.size q := fun q h => Or.inr h
  generalize hAe : sd_fr (qo :: ad) s.heap.size = A at hw hc0 hA
  have hR : sw_R s s.heap := ⟨hxh, hxa, hg, fun _ _ h _ => h⟩
  have hl := lv_entry ([.ref qa, .int p0, .ref qo]) (n := 4) (Nat.le_of_ble_eq_true rfl)
  rw [lg_entry_eq]
  generalize (lg_sl ([.ref qa, .int p0, .ref qo]) ++ List.replicate (4 - (lg_sl ([.ref qa, .int p0, .ref qo])).length) Slot.unset).toArray = ls at hl ⊢
  have hl : lv_has ls 4 [(0, .ref qa), (1, .int p0), (2, .ref qo)] := hl
  refine lv_aload_n hx hb d9_copy_0 rfl (lv_at hl 2 rfl) ?_
  refine lv_iconst (v := 0) hx hb d9_copy_1 (by decide) ?_
  refine lv_aload_n hx hb d9_copy_2 rfl (lv_at hl 0 rfl) ?_
  refine lv_iload_n hx hb d9_copy_3 rfl (lv_at hl 1 rfl) ?_
  refine sw_thr hlt (AsC := [.int p0]) (K := [.int 0, .ref qo]) hev rfl hx hb hml hown hts (sw_good mt_55.2.2.1) (hall _ wx_484) mt_55 hall (Nat.le_refl _) (Nat.le_refl _) hw va_S.rf hA hR hk0 hqa ⟨rfl, trivial⟩ rfl hl.1 (Nat.le_of_ble_eq_true rfl) d9_copy_4 (by show 0 + _ ≤ mc; omega) (by show 0 + _ ≤ ms; omega) (fun ce q z H1 locs1 hw1 hS1 hz1 hk1 hR1 hce hcv hcl => ?_)
  cases sw_z hw hw1 hkd
  rw [List.append_nil] at hw1
  have hc1 := sw_ck hc0 hk1
  have ec : 0 + (hp_c h2 - hp_c h) = mc := by omega
  have es : 0 + (hp_s h2 - hp_s h) = ms := by omega
  rw [ec, es]
  refine sc_catch (own := "RouteHouseLaw") (E := "java/lang/IndexOutOfBoundsException") (nm := "java/lang/IndexOutOfBoundsException") hown [] ⟨0, 9, 12, 13⟩ [] htab (fun _ h => absurd h List.not_mem_nil) (by decide) (by decide) (hall _ wx_267) (sx_word (State.WarmedH.refl s) rfl rfl (hxa.1 _ wl_279 rfl rfl)) hce hcv hcl ?_
  refine lv_astore_n hx hb d9_copy_12 rfl hl (by decide) rfl (fun ls2 hl2 => ?_)
  refine lv_iconst (v := 1) hx hb d9_copy_13 (by decide) ?_
  subst hAe
  exact W.iret hx hb hr (fun t ht hW => ⟨f, trivial, rfl, by rw [ht]; exact sd_w_moved hW.alike hw1, by rw [ht]; exact sw_cmoved hW.alike hc1, hS1.F ht⟩) hS1.2.2 d9_copy_14
theorem wx_499 : (Jvm.Cond.methodLink "RouteHouseLaw" (52 : Nat) ({ cls := "RouteHouse", name := "receive", desc := "(I)I" } : Jvm.MethodName)) ∈ tb_all := wd_o3 (i := 19) rfl rfl
theorem wx_498 : (Jvm.Cond.codeWith ({ cls := "RouteHouseLaw", name := "receive", desc := "(LRouteHouse;I[J)I" } : Jvm.MethodName) method_12_code (4 : Nat) (Option.some Jvm.ClassFile.FieldType.int) [((0 : Nat), (9 : Nat), (12 : Nat), (13 : Nat))]) ∈ tb_all := wd_o3 (i := 18) rfl rfl
theorem d9_receive_0 : decode method_12_code 0 = .ok (.aload_n 2, 1) := by decide +kernel
theorem d9_receive_1 : decode method_12_code 1 = .ok (.iconst 0, 1) := by decide +kernel
theorem d9_receive_2 : decode method_12_code 2 = .ok (.aload_n 0, 1) := by decide +kernel
theorem d9_receive_3 : decode method_12_code 3 = .ok (.iload_n 1, 1) := by decide +kernel
theorem d9_receive_4 : decode method_12_code 4 = .ok (.invokevirtual 52, 3) := by decide +kernel
theorem d9_receive_7 : decode method_12_code 7 = .ok (.i2l, 1) := by decide +kernel
theorem d9_receive_8 : decode method_12_code 8 = .ok (.lastore, 1) := by decide +kernel
theorem d9_receive_9 : decode method_12_code 9 = .ok (.goto 6, 3) := by decide +kernel
theorem d9_receive_12 : decode method_12_code 12 = .ok (.astore_n 3, 1) := by decide +kernel
theorem d9_receive_13 : decode method_12_code 13 = .ok (.iconst 1, 1) := by decide +kernel
theorem d9_receive_14 : decode method_12_code 14 = .ok (.ireturn, 1) := by decide +kernel
theorem d9_receive_15 : decode method_12_code 15 = .ok (.iconst 0, 1) := by decide +kernel
theorem d9_receive_16 : decode method_12_code 16 = .ok (.ireturn, 1) := by decide +kernel
def yw_receive : MethodName := ⟨"RouteHouseLaw", "receive", "(LRouteHouse;I[J)I"⟩
def ww_receive : List Jvm.Cond := .codeWith yw_receive method_12_code 4 (some .int) [(0, 9, 12, 13)] :: tb_all
set_option maxHeartbeats 4000000 in
set_option maxRecDepth 100000 in
theorem wr_receive {l : Launch} (hlt : l.stackTraces = false) (D : va_G) {ad : List Nat} {h : hp_T} {qa qo sz d f0 : Nat} {p0 : Int32} {f : Nat → Int64} {o : ev_O} (hev : ev_m d f0 56 [.ref 0, .int p0] h = some o) (hk0 : hp_k h 0 = some (7, 0)) (hqa : ad[0]? = some qa) (hkd : o.2.1 = h.1) {mc ms : Nat} (hmc : mc + hp_c h = hp_c o.2) (hms : ms + hp_s h = hp_s o.2) {v : Int32} (ho : o.1 = .inl (some (.int v))) : Met l yw_receive ww_receive (sw_rm 56 mc ms) (sw_P D ad h qo f sz [.ref qa, .int p0, .ref qo]) (sw_Q D ad o.2 qo sz 0 (fun f2 => f2 0 = v.toInt64)) mc ms (sd_fr (qo :: ad) sz) := by
  obtain ⟨r, h2⟩ := o
  cases ho
  have hmc : mc + hp_c h = hp_c h2 := hmc
  have hms : ms + hp_s h = hp_s h2 := hms
  refine va_MetW (cc := method_12_code) (maxL := 4) (ret := some .int) (hh := [(0, 9, 12, 13)]) (by decide +kernel) rfl ?_
  intro p e s m args below meth c s₁ B hml hv
  obtain ⟨rfl, hsz, hw, hc0, hxh, hxa, hg, hn⟩ := hv
  have hx := B.exec
  have hb := B.bytes
  have hr := B.returns
  have hts := atoms_spec (ws := ww_receive) B.pre
  have hall : ∀ w ∈ tb_all, w.before _ s = true := fun w h => hts w (List.mem_cons_of_mem _ h)
  have hown : s.vm.findClass "RouteHouseLaw" = some m.cls := findClass_of_methodNamed B.named
  have hlocks := B.notSynchronized
  have htab := sw_tab B (hts _ List.mem_cons_self)
  subst hsz
  have hA : ∀ q, s.heap.size ≤ q → sd_fr (qo :: ad) s.heap.size q := fun q h => Or.inr h
  generalize hAe : sd_fr (qo :: ad) s.heap.size = A at hw hc0 hA
  have hR : sw_R s s.heap := ⟨hxh, hxa, hg, fun _ _ h _ => h⟩
  have hl := lv_entry ([.ref qa, .int p0, .ref qo]) (n := 4) (Nat.le_of_ble_eq_true rfl)
  rw [lg_entry_eq]
  generalize (lg_sl ([.ref qa, .int p0, .ref qo]) ++ List.replicate (4 - (lg_sl ([.ref qa, .int p0, .ref qo])).length) Slot.unset).toArray = ls at hl ⊢
  have hl : lv_has ls 4 [(0, .ref qa), (1, .int p0), (2, .ref qo)] := hl
  refine lv_aload_n hx hb d9_receive_0 rfl (lv_at hl 2 rfl) ?_
  refine lv_iconst (v := 0) hx hb d9_receive_1 (by decide) ?_
  refine lv_aload_n hx hb d9_receive_2 rfl (lv_at hl 0 rfl) ?_
  refine lv_iload_n hx hb d9_receive_3 rfl (lv_at hl 1 rfl) ?_
  refine sw_ret hlt (AsC := [.int p0]) (K := [.int 0, .ref qo]) hev rfl hx hb hml hown hts (sw_good mt_56.2.2.1) (hall _ wx_499) mt_56 hall (Nat.le_refl _) (Nat.le_refl _) hw va_S.rf hA hR hk0 hqa ⟨rfl, trivial⟩ rfl hl.1 (Nat.le_of_ble_eq_true rfl) d9_receive_4 (by show 0 + _ ≤ mc; omega) (by show 0 + _ ≤ ms; omega) (fun w z H1 locs1 hw1 hS1 hq1 hz1 hk1 hR1 => ?_)
  cases sw_z hw hw1 hkd
  rw [List.append_nil] at hw1 hq1
  have hc1 := sw_ck hc0 hk1
  have ec : 0 + (hp_c h2 - hp_c h) = mc := by omega
  have es : 0 + (hp_s h2 - hp_s h) = ms := by omega
  rw [ec, es]
  cases w with
  | none => exact False.elim hq1
  | some w =>
    have hq2 : w = .int v := hq1.1
    subst hq2
    refine W.eq (g2 := F0 m 7 ls [.int v, .int 0, .ref qo]) rfl ?_
    refine lv_i2l hx hb d9_receive_7 rfl ?_
    refine sw_last hx hb hw1 hc1 hS1 d9_receive_8 (fun H2 locs2 hw2 hc2 hS2 => ?_)
    refine lv_goto (tgt := 15) hx hb d9_receive_9 (by decide) ?_
    refine lv_iconst (v := 0) hx hb d9_receive_15 (by decide) ?_
    subst hAe
    exact W.iret hx hb hr (fun t ht hW => ⟨_, pk_uLs, rfl, by rw [ht]; exact sd_w_moved hW.alike hw2, by rw [ht]; exact sw_cmoved hW.alike hc2, hS2.F ht⟩) hS2.2.2 d9_receive_16
set_option maxHeartbeats 4000000 in
set_option maxRecDepth 100000 in
theorem wt_receive_0 {l : Launch} (hlt : l.stackTraces = false) (D : va_G) {ad : List Nat} {h : hp_T} {qa qo sz d f0 : Nat} {p0 : Int32} {f : Nat → Int64} {o : ev_O} (hev : ev_m d f0 56 [.ref 0, .int p0] h = some o) (hk0 : hp_k h 0 = some (7, 0)) (hqa : ad[0]? = some qa) (hkd : o.2.1 = h.1) {mc ms : Nat} (hmc : mc + hp_c h = hp_c o.2) (hms : ms + hp_s h = hp_s o.2) (ho : o.1 = .inr 0) : Met l yw_receive ww_receive (sw_rm 56 mc ms) (sw_P D ad h qo f sz [.ref qa, .int p0, .ref qo]) (sw_Q D ad o.2 qo sz 1 (fun _ => True)) mc ms (sd_fr (qo :: ad) sz) := by
  obtain ⟨r, h2⟩ := o
  cases ho
  have hmc : mc + hp_c h = hp_c h2 := hmc
  have hms : ms + hp_s h = hp_s h2 := hms
  refine va_MetW (cc := method_12_code) (maxL := 4) (ret := some .int) (hh := [(0, 9, 12, 13)]) (by decide +kernel) rfl ?_
  intro p e s m args below meth c s₁ B hml hv
  obtain ⟨rfl, hsz, hw, hc0, hxh, hxa, hg, hn⟩ := hv
  have hx := B.exec
  have hb := B.bytes
  have hr := B.returns
  have hts := atoms_spec (ws := ww_receive) B.pre
  have hall : ∀ w ∈ tb_all, w.before _ s = true := fun w h => hts w (List.mem_cons_of_mem _ h)
  have hown : s.vm.findClass "RouteHouseLaw" = some m.cls := findClass_of_methodNamed B.named
  have hlocks := B.notSynchronized
  have htab := sw_tab B (hts _ List.mem_cons_self)
  subst hsz
  have hA : ∀ q, s.heap.size ≤ q → sd_fr (qo :: ad) s.heap.size q := fun q h => Or.inr h
  generalize hAe : sd_fr (qo :: ad) s.heap.size = A at hw hc0 hA
  have hR : sw_R s s.heap := ⟨hxh, hxa, hg, fun _ _ h _ => h⟩
  have hl := lv_entry ([.ref qa, .int p0, .ref qo]) (n := 4) (Nat.le_of_ble_eq_true rfl)
  rw [lg_entry_eq]
  generalize (lg_sl ([.ref qa, .int p0, .ref qo]) ++ List.replicate (4 - (lg_sl ([.ref qa, .int p0, .ref qo])).length) Slot.unset).toArray = ls at hl ⊢
  have hl : lv_has ls 4 [(0, .ref qa), (1, .int p0), (2, .ref qo)] := hl
  refine lv_aload_n hx hb d9_receive_0 rfl (lv_at hl 2 rfl) ?_
  refine lv_iconst (v := 0) hx hb d9_receive_1 (by decide) ?_
  refine lv_aload_n hx hb d9_receive_2 rfl (lv_at hl 0 rfl) ?_
  refine lv_iload_n hx hb d9_receive_3 rfl (lv_at hl 1 rfl) ?_
  refine sw_thr hlt (AsC := [.int p0]) (K := [.int 0, .ref qo]) hev rfl hx hb hml hown hts (sw_good mt_56.2.2.1) (hall _ wx_499) mt_56 hall (Nat.le_refl _) (Nat.le_refl _) hw va_S.rf hA hR hk0 hqa ⟨rfl, trivial⟩ rfl hl.1 (Nat.le_of_ble_eq_true rfl) d9_receive_4 (by show 0 + _ ≤ mc; omega) (by show 0 + _ ≤ ms; omega) (fun ce q z H1 locs1 hw1 hS1 hz1 hk1 hR1 hce hcv hcl => ?_)
  cases sw_z hw hw1 hkd
  rw [List.append_nil] at hw1
  have hc1 := sw_ck hc0 hk1
  have ec : 0 + (hp_c h2 - hp_c h) = mc := by omega
  have es : 0 + (hp_s h2 - hp_s h) = ms := by omega
  rw [ec, es]
  refine sc_catch (own := "RouteHouseLaw") (E := "java/lang/IndexOutOfBoundsException") (nm := "java/lang/IndexOutOfBoundsException") hown [] ⟨0, 9, 12, 13⟩ [] htab (fun _ h => absurd h List.not_mem_nil) (by decide) (by decide) (hall _ wx_267) (sx_word (State.WarmedH.refl s) rfl rfl (hxa.1 _ wl_279 rfl rfl)) hce hcv hcl ?_
  refine lv_astore_n hx hb d9_receive_12 rfl hl (by decide) rfl (fun ls2 hl2 => ?_)
  refine lv_iconst (v := 1) hx hb d9_receive_13 (by decide) ?_
  subst hAe
  exact W.iret hx hb hr (fun t ht hW => ⟨f, trivial, rfl, by rw [ht]; exact sd_w_moved hW.alike hw1, by rw [ht]; exact sw_cmoved hW.alike hc1, hS1.F ht⟩) hS1.2.2 d9_receive_14
theorem wx_712 : (Jvm.Cond.methodLink "RouteHouseLaw" (55 : Nat) ({ cls := "RouteHouse", name := "pass", desc := "(I)I" } : Jvm.MethodName)) ∈ tb_all := wd_o3 (i := 232) rfl rfl
theorem wx_711 : (Jvm.Cond.codeWith ({ cls := "RouteHouseLaw", name := "pass", desc := "(LRouteHouse;I[J)I" } : Jvm.MethodName) method_13_code (4 : Nat) (Option.some Jvm.ClassFile.FieldType.int) [((0 : Nat), (9 : Nat), (12 : Nat), (15 : Nat))]) ∈ tb_all := wd_o3 (i := 231) rfl rfl
theorem d9_pass_0 : decode method_13_code 0 = .ok (.aload_n 2, 1) := by decide +kernel
theorem d9_pass_1 : decode method_13_code 1 = .ok (.iconst 0, 1) := by decide +kernel
theorem d9_pass_2 : decode method_13_code 2 = .ok (.aload_n 0, 1) := by decide +kernel
theorem d9_pass_3 : decode method_13_code 3 = .ok (.iload_n 1, 1) := by decide +kernel
theorem d9_pass_4 : decode method_13_code 4 = .ok (.invokevirtual 55, 3) := by decide +kernel
theorem d9_pass_7 : decode method_13_code 7 = .ok (.i2l, 1) := by decide +kernel
theorem d9_pass_8 : decode method_13_code 8 = .ok (.lastore, 1) := by decide +kernel
theorem d9_pass_9 : decode method_13_code 9 = .ok (.goto 6, 3) := by decide +kernel
theorem d9_pass_12 : decode method_13_code 12 = .ok (.astore_n 3, 1) := by decide +kernel
theorem d9_pass_13 : decode method_13_code 13 = .ok (.iconst 1, 1) := by decide +kernel
theorem d9_pass_14 : decode method_13_code 14 = .ok (.ireturn, 1) := by decide +kernel
theorem d9_pass_15 : decode method_13_code 15 = .ok (.iconst 0, 1) := by decide +kernel
theorem d9_pass_16 : decode method_13_code 16 = .ok (.ireturn, 1) := by decide +kernel
def yw_pass : MethodName := ⟨"RouteHouseLaw", "pass", "(LRouteHouse;I[J)I"⟩
def ww_pass : List Jvm.Cond := .codeWith yw_pass method_13_code 4 (some .int) [(0, 9, 12, 15)] :: tb_all
set_option maxHeartbeats 4000000 in
set_option maxRecDepth 100000 in
theorem wr_pass {l : Launch} (hlt : l.stackTraces = false) (D : va_G) {ad : List Nat} {h : hp_T} {qa qo sz d f0 : Nat} {p0 : Int32} {f : Nat → Int64} {o : ev_O} (hev : ev_m d f0 57 [.ref 0, .int p0] h = some o) (hk0 : hp_k h 0 = some (7, 0)) (hqa : ad[0]? = some qa) (hkd : o.2.1 = h.1) {mc ms : Nat} (hmc : mc + hp_c h = hp_c o.2) (hms : ms + hp_s h = hp_s o.2) {v : Int32} (ho : o.1 = .inl (some (.int v))) : Met l yw_pass ww_pass (sw_rm 57 mc ms) (sw_P D ad h qo f sz [.ref qa, .int p0, .ref qo]) (sw_Q D ad o.2 qo sz 0 (fun f2 => f2 0 = v.toInt64)) mc ms (sd_fr (qo :: ad) sz) := by
  obtain ⟨r, h2⟩ := o
  cases ho
  have hmc : mc + hp_c h = hp_c h2 := hmc
  have hms : ms + hp_s h = hp_s h2 := hms
  refine va_MetW (cc := method_13_code) (maxL := 4) (ret := some .int) (hh := [(0, 9, 12, 15)]) (by decide +kernel) rfl ?_
  intro p e s m args below meth c s₁ B hml hv
  obtain ⟨rfl, hsz, hw, hc0, hxh, hxa, hg, hn⟩ := hv
  have hx := B.exec
  have hb := B.bytes
  have hr := B.returns
  have hts := atoms_spec (ws := ww_pass) B.pre
  have hall : ∀ w ∈ tb_all, w.before _ s = true := fun w h => hts w (List.mem_cons_of_mem _ h)
  have hown : s.vm.findClass "RouteHouseLaw" = some m.cls := findClass_of_methodNamed B.named
  have hlocks := B.notSynchronized
  have htab := sw_tab B (hts _ List.mem_cons_self)
  subst hsz
  have hA : ∀ q, s.heap.size ≤ q → sd_fr (qo :: ad) s.heap.size q := fun q h => Or.inr h
  generalize hAe : sd_fr (qo :: ad) s.heap.size = A at hw hc0 hA
  have hR : sw_R s s.heap := ⟨hxh, hxa, hg, fun _ _ h _ => h⟩
  have hl := lv_entry ([.ref qa, .int p0, .ref qo]) (n := 4) (Nat.le_of_ble_eq_true rfl)
  rw [lg_entry_eq]
  generalize (lg_sl ([.ref qa, .int p0, .ref qo]) ++ List.replicate (4 - (lg_sl ([.ref qa, .int p0, .ref qo])).length) Slot.unset).toArray = ls at hl ⊢
  have hl : lv_has ls 4 [(0, .ref qa), (1, .int p0), (2, .ref qo)] := hl
  refine lv_aload_n hx hb d9_pass_0 rfl (lv_at hl 2 rfl) ?_
  refine lv_iconst (v := 0) hx hb d9_pass_1 (by decide) ?_
  refine lv_aload_n hx hb d9_pass_2 rfl (lv_at hl 0 rfl) ?_
  refine lv_iload_n hx hb d9_pass_3 rfl (lv_at hl 1 rfl) ?_
  refine sw_ret hlt (AsC := [.int p0]) (K := [.int 0, .ref qo]) hev rfl hx hb hml hown hts (sw_good mt_57.2.2.1) (hall _ wx_712) mt_57 hall (Nat.le_refl _) (Nat.le_refl _) hw va_S.rf hA hR hk0 hqa ⟨rfl, trivial⟩ rfl hl.1 (Nat.le_of_ble_eq_true rfl) d9_pass_4 (by show 0 + _ ≤ mc; omega) (by show 0 + _ ≤ ms; omega) (fun w z H1 locs1 hw1 hS1 hq1 hz1 hk1 hR1 => ?_)
  cases sw_z hw hw1 hkd
  rw [List.append_nil] at hw1 hq1
  have hc1 := sw_ck hc0 hk1
  have ec : 0 + (hp_c h2 - hp_c h) = mc := by omega
  have es : 0 + (hp_s h2 - hp_s h) = ms := by omega
  rw [ec, es]
  cases w with
  | none => exact False.elim hq1
  | some w =>
    have hq2 : w = .int v := hq1.1
    subst hq2
    refine W.eq (g2 := F0 m 7 ls [.int v, .int 0, .ref qo]) rfl ?_
    refine lv_i2l hx hb d9_pass_7 rfl ?_
    refine sw_last hx hb hw1 hc1 hS1 d9_pass_8 (fun H2 locs2 hw2 hc2 hS2 => ?_)
    refine lv_goto (tgt := 15) hx hb d9_pass_9 (by decide) ?_
    refine lv_iconst (v := 0) hx hb d9_pass_15 (by decide) ?_
    subst hAe
    exact W.iret hx hb hr (fun t ht hW => ⟨_, pk_uLs, rfl, by rw [ht]; exact sd_w_moved hW.alike hw2, by rw [ht]; exact sw_cmoved hW.alike hc2, hS2.F ht⟩) hS2.2.2 d9_pass_16
set_option maxHeartbeats 4000000 in
set_option maxRecDepth 100000 in
theorem wt_pass_1 {l : Launch} (hlt : l.stackTraces = false) (D : va_G) {ad : List Nat} {h : hp_T} {qa qo sz d f0 : Nat} {p0 : Int32} {f : Nat → Int64} {o : ev_O} (hev : ev_m d f0 57 [.ref 0, .int p0] h = some o) (hk0 : hp_k h 0 = some (7, 0)) (hqa : ad[0]? = some qa) (hkd : o.2.1 = h.1) {mc ms : Nat} (hmc : mc + hp_c h = hp_c o.2) (hms : ms + hp_s h = hp_s o.2) (ho : o.1 = .inr 1) : Met l yw_pass ww_pass (sw_rm 57 mc ms) (sw_P D ad h qo f sz [.ref qa, .int p0, .ref qo]) (sw_Q D ad o.2 qo sz 1 (fun _ => True)) mc ms (sd_fr (qo :: ad) sz) := by
  obtain ⟨r, h2⟩ := o
  cases ho
  have hmc : mc + hp_c h = hp_c h2 := hmc
  have hms : ms + hp_s h = hp_s h2 := hms
  refine va_MetW (cc := method_13_code) (maxL := 4) (ret := some .int) (hh := [(0, 9, 12, 15)]) (by decide +kernel) rfl ?_
  intro p e s m args below meth c s₁ B hml hv
  obtain ⟨rfl, hsz, hw, hc0, hxh, hxa, hg, hn⟩ := hv
  have hx := B.exec
  have hb := B.bytes
  have hr := B.returns
  have hts := atoms_spec (ws := ww_pass) B.pre
  have hall : ∀ w ∈ tb_all, w.before _ s = true := fun w h => hts w (List.mem_cons_of_mem _ h)
  have hown : s.vm.findClass "RouteHouseLaw" = some m.cls := findClass_of_methodNamed B.named
  have hlocks := B.notSynchronized
  have htab := sw_tab B (hts _ List.mem_cons_self)
  subst hsz
  have hA : ∀ q, s.heap.size ≤ q → sd_fr (qo :: ad) s.heap.size q := fun q h => Or.inr h
  generalize hAe : sd_fr (qo :: ad) s.heap.size = A at hw hc0 hA
  have hR : sw_R s s.heap := ⟨hxh, hxa, hg, fun _ _ h _ => h⟩
  have hl := lv_entry ([.ref qa, .int p0, .ref qo]) (n := 4) (Nat.le_of_ble_eq_true rfl)
  rw [lg_entry_eq]
  generalize (lg_sl ([.ref qa, .int p0, .ref qo]) ++ List.replicate (4 - (lg_sl ([.ref qa, .int p0, .ref qo])).length) Slot.unset).toArray = ls at hl ⊢
  have hl : lv_has ls 4 [(0, .ref qa), (1, .int p0), (2, .ref qo)] := hl
  refine lv_aload_n hx hb d9_pass_0 rfl (lv_at hl 2 rfl) ?_
  refine lv_iconst (v := 0) hx hb d9_pass_1 (by decide) ?_
  refine lv_aload_n hx hb d9_pass_2 rfl (lv_at hl 0 rfl) ?_
  refine lv_iload_n hx hb d9_pass_3 rfl (lv_at hl 1 rfl) ?_
  refine sw_thr hlt (AsC := [.int p0]) (K := [.int 0, .ref qo]) hev rfl hx hb hml hown hts (sw_good mt_57.2.2.1) (hall _ wx_712) mt_57 hall (Nat.le_refl _) (Nat.le_refl _) hw va_S.rf hA hR hk0 hqa ⟨rfl, trivial⟩ rfl hl.1 (Nat.le_of_ble_eq_true rfl) d9_pass_4 (by show 0 + _ ≤ mc; omega) (by show 0 + _ ≤ ms; omega) (fun ce q z H1 locs1 hw1 hS1 hz1 hk1 hR1 hce hcv hcl => ?_)
  cases sw_z hw hw1 hkd
  rw [List.append_nil] at hw1
  have hc1 := sw_ck hc0 hk1
  have ec : 0 + (hp_c h2 - hp_c h) = mc := by omega
  have es : 0 + (hp_s h2 - hp_s h) = ms := by omega
  rw [ec, es]
  refine sc_catch (own := "RouteHouseLaw") (E := "java/lang/IllegalArgumentException") (nm := "java/lang/IllegalArgumentException") hown [] ⟨0, 9, 12, 15⟩ [] htab (fun _ h => absurd h List.not_mem_nil) (by decide) (by decide) (hall _ wx_268) (sx_word (State.WarmedH.refl s) rfl rfl (hxa.1 _ wl_347 rfl rfl)) hce hcv hcl ?_
  refine lv_astore_n hx hb d9_pass_12 rfl hl (by decide) rfl (fun ls2 hl2 => ?_)
  refine lv_iconst (v := 1) hx hb d9_pass_13 (by decide) ?_
  subst hAe
  exact W.iret hx hb hr (fun t ht hW => ⟨f, trivial, rfl, by rw [ht]; exact sd_w_moved hW.alike hw1, by rw [ht]; exact sw_cmoved hW.alike hc1, hS1.F ht⟩) hS1.2.2 d9_pass_14
theorem wx_729 : (Jvm.Cond.methodLink "RouteHouseLaw" (58 : Nat) ({ cls := "RouteHouse", name := "sent", desc := "(II)I" } : Jvm.MethodName)) ∈ tb_all := wd_o4 (i := 9) rfl rfl
theorem wx_728 : (Jvm.Cond.codeWith ({ cls := "RouteHouseLaw", name := "sent", desc := "(LRouteHouse;II[J)I" } : Jvm.MethodName) method_14_code (5 : Nat) (Option.some Jvm.ClassFile.FieldType.int) [((0 : Nat), (10 : Nat), (13 : Nat), (13 : Nat)), ((0 : Nat), (10 : Nat), (17 : Nat), (15 : Nat))]) ∈ tb_all := wd_o4 (i := 8) rfl rfl
theorem d9_sent_0 : decode method_14_code 0 = .ok (.aload_n 3, 1) := by decide +kernel
theorem d9_sent_1 : decode method_14_code 1 = .ok (.iconst 0, 1) := by decide +kernel
theorem d9_sent_2 : decode method_14_code 2 = .ok (.aload_n 0, 1) := by decide +kernel
theorem d9_sent_3 : decode method_14_code 3 = .ok (.iload_n 1, 1) := by decide +kernel
theorem d9_sent_4 : decode method_14_code 4 = .ok (.iload_n 2, 1) := by decide +kernel
theorem d9_sent_5 : decode method_14_code 5 = .ok (.invokevirtual 58, 3) := by decide +kernel
theorem d9_sent_8 : decode method_14_code 8 = .ok (.i2l, 1) := by decide +kernel
theorem d9_sent_9 : decode method_14_code 9 = .ok (.lastore, 1) := by decide +kernel
theorem d9_sent_10 : decode method_14_code 10 = .ok (.goto 11, 3) := by decide +kernel
theorem d9_sent_13 : decode method_14_code 13 = .ok (.astore 4, 2) := by decide +kernel
theorem d9_sent_15 : decode method_14_code 15 = .ok (.iconst 1, 1) := by decide +kernel
theorem d9_sent_16 : decode method_14_code 16 = .ok (.ireturn, 1) := by decide +kernel
theorem d9_sent_17 : decode method_14_code 17 = .ok (.astore 4, 2) := by decide +kernel
theorem d9_sent_19 : decode method_14_code 19 = .ok (.iconst 2, 1) := by decide +kernel
theorem d9_sent_20 : decode method_14_code 20 = .ok (.ireturn, 1) := by decide +kernel
theorem d9_sent_21 : decode method_14_code 21 = .ok (.iconst 0, 1) := by decide +kernel
theorem d9_sent_22 : decode method_14_code 22 = .ok (.ireturn, 1) := by decide +kernel
def yw_sent : MethodName := ⟨"RouteHouseLaw", "sent", "(LRouteHouse;II[J)I"⟩
def ww_sent : List Jvm.Cond := .codeWith yw_sent method_14_code 5 (some .int) [(0, 10, 13, 13), (0, 10, 17, 15)] :: tb_all
set_option maxHeartbeats 4000000 in
set_option maxRecDepth 100000 in
theorem wr_sent {l : Launch} (hlt : l.stackTraces = false) (D : va_G) {ad : List Nat} {h : hp_T} {qa qo sz d f0 : Nat} {p0 p1 : Int32} {f : Nat → Int64} {o : ev_O} (hev : ev_m d f0 58 [.ref 0, .int p0, .int p1] h = some o) (hk0 : hp_k h 0 = some (7, 0)) (hqa : ad[0]? = some qa) (hkd : o.2.1 = h.1) {mc ms : Nat} (hmc : mc + hp_c h = hp_c o.2) (hms : ms + hp_s h = hp_s o.2) {v : Int32} (ho : o.1 = .inl (some (.int v))) : Met l yw_sent ww_sent (sw_rm 58 mc ms) (sw_P D ad h qo f sz [.ref qa, .int p0, .int p1, .ref qo]) (sw_Q D ad o.2 qo sz 0 (fun f2 => f2 0 = v.toInt64)) mc ms (sd_fr (qo :: ad) sz) := by
  obtain ⟨r, h2⟩ := o
  cases ho
  have hmc : mc + hp_c h = hp_c h2 := hmc
  have hms : ms + hp_s h = hp_s h2 := hms
  refine va_MetW (cc := method_14_code) (maxL := 5) (ret := some .int) (hh := [(0, 10, 13, 13), (0, 10, 17, 15)]) (by decide +kernel) rfl ?_
  intro p e s m args below meth c s₁ B hml hv
  obtain ⟨rfl, hsz, hw, hc0, hxh, hxa, hg, hn⟩ := hv
  have hx := B.exec
  have hb := B.bytes
  have hr := B.returns
  have hts := atoms_spec (ws := ww_sent) B.pre
  have hall : ∀ w ∈ tb_all, w.before _ s = true := fun w h => hts w (List.mem_cons_of_mem _ h)
  have hown : s.vm.findClass "RouteHouseLaw" = some m.cls := findClass_of_methodNamed B.named
  have hlocks := B.notSynchronized
  have htab := sw_tab B (hts _ List.mem_cons_self)
  subst hsz
  have hA : ∀ q, s.heap.size ≤ q → sd_fr (qo :: ad) s.heap.size q := fun q h => Or.inr h
  generalize hAe : sd_fr (qo :: ad) s.heap.size = A at hw hc0 hA
  have hR : sw_R s s.heap := ⟨hxh, hxa, hg, fun _ _ h _ => h⟩
  have hl := lv_entry ([.ref qa, .int p0, .int p1, .ref qo]) (n := 5) (Nat.le_of_ble_eq_true rfl)
  rw [lg_entry_eq]
  generalize (lg_sl ([.ref qa, .int p0, .int p1, .ref qo]) ++ List.replicate (5 - (lg_sl ([.ref qa, .int p0, .int p1, .ref qo])).length) Slot.unset).toArray = ls at hl ⊢
  have hl : lv_has ls 5 [(0, .ref qa), (1, .int p0), (2, .int p1), (3, .ref qo)] := hl
  refine lv_aload_n hx hb d9_sent_0 rfl (lv_at hl 3 rfl) ?_
  refine lv_iconst (v := 0) hx hb d9_sent_1 (by decide) ?_
  refine lv_aload_n hx hb d9_sent_2 rfl (lv_at hl 0 rfl) ?_
  refine lv_iload_n hx hb d9_sent_3 rfl (lv_at hl 1 rfl) ?_
  refine lv_iload_n hx hb d9_sent_4 rfl (lv_at hl 2 rfl) ?_
  refine sw_ret hlt (AsC := [.int p0, .int p1]) (K := [.int 0, .ref qo]) hev rfl hx hb hml hown hts (sw_good mt_58.2.2.1) (hall _ wx_729) mt_58 hall (Nat.le_refl _) (Nat.le_refl _) hw va_S.rf hA hR hk0 hqa ⟨rfl, rfl, trivial⟩ rfl hl.1 (Nat.le_of_ble_eq_true rfl) d9_sent_5 (by show 0 + _ ≤ mc; omega) (by show 0 + _ ≤ ms; omega) (fun w z H1 locs1 hw1 hS1 hq1 hz1 hk1 hR1 => ?_)
  cases sw_z hw hw1 hkd
  rw [List.append_nil] at hw1 hq1
  have hc1 := sw_ck hc0 hk1
  have ec : 0 + (hp_c h2 - hp_c h) = mc := by omega
  have es : 0 + (hp_s h2 - hp_s h) = ms := by omega
  rw [ec, es]
  cases w with
  | none => exact False.elim hq1
  | some w =>
    have hq2 : w = .int v := hq1.1
    subst hq2
    refine W.eq (g2 := F0 m 8 ls [.int v, .int 0, .ref qo]) rfl ?_
    refine lv_i2l hx hb d9_sent_8 rfl ?_
    refine sw_last hx hb hw1 hc1 hS1 d9_sent_9 (fun H2 locs2 hw2 hc2 hS2 => ?_)
    refine lv_goto (tgt := 21) hx hb d9_sent_10 (by decide) ?_
    refine lv_iconst (v := 0) hx hb d9_sent_21 (by decide) ?_
    subst hAe
    exact W.iret hx hb hr (fun t ht hW => ⟨_, pk_uLs, rfl, by rw [ht]; exact sd_w_moved hW.alike hw2, by rw [ht]; exact sw_cmoved hW.alike hc2, hS2.F ht⟩) hS2.2.2 d9_sent_22
set_option maxHeartbeats 4000000 in
set_option maxRecDepth 100000 in
theorem wt_sent_0 {l : Launch} (hlt : l.stackTraces = false) (D : va_G) {ad : List Nat} {h : hp_T} {qa qo sz d f0 : Nat} {p0 p1 : Int32} {f : Nat → Int64} {o : ev_O} (hev : ev_m d f0 58 [.ref 0, .int p0, .int p1] h = some o) (hk0 : hp_k h 0 = some (7, 0)) (hqa : ad[0]? = some qa) (hkd : o.2.1 = h.1) {mc ms : Nat} (hmc : mc + hp_c h = hp_c o.2) (hms : ms + hp_s h = hp_s o.2) (ho : o.1 = .inr 0) : Met l yw_sent ww_sent (sw_rm 58 mc ms) (sw_P D ad h qo f sz [.ref qa, .int p0, .int p1, .ref qo]) (sw_Q D ad o.2 qo sz 1 (fun _ => True)) mc ms (sd_fr (qo :: ad) sz) := by
  obtain ⟨r, h2⟩ := o
  cases ho
  have hmc : mc + hp_c h = hp_c h2 := hmc
  have hms : ms + hp_s h = hp_s h2 := hms
  refine va_MetW (cc := method_14_code) (maxL := 5) (ret := some .int) (hh := [(0, 10, 13, 13), (0, 10, 17, 15)]) (by decide +kernel) rfl ?_
  intro p e s m args below meth c s₁ B hml hv
  obtain ⟨rfl, hsz, hw, hc0, hxh, hxa, hg, hn⟩ := hv
  have hx := B.exec
  have hb := B.bytes
  have hr := B.returns
  have hts := atoms_spec (ws := ww_sent) B.pre
  have hall : ∀ w ∈ tb_all, w.before _ s = true := fun w h => hts w (List.mem_cons_of_mem _ h)
  have hown : s.vm.findClass "RouteHouseLaw" = some m.cls := findClass_of_methodNamed B.named
  have hlocks := B.notSynchronized
  have htab := sw_tab B (hts _ List.mem_cons_self)
  subst hsz
  have hA : ∀ q, s.heap.size ≤ q → sd_fr (qo :: ad) s.heap.size q := fun q h => Or.inr h
  generalize hAe : sd_fr (qo :: ad) s.heap.size = A at hw hc0 hA
  have hR : sw_R s s.heap := ⟨hxh, hxa, hg, fun _ _ h _ => h⟩
  have hl := lv_entry ([.ref qa, .int p0, .int p1, .ref qo]) (n := 5) (Nat.le_of_ble_eq_true rfl)
  rw [lg_entry_eq]
  generalize (lg_sl ([.ref qa, .int p0, .int p1, .ref qo]) ++ List.replicate (5 - (lg_sl ([.ref qa, .int p0, .int p1, .ref qo])).length) Slot.unset).toArray = ls at hl ⊢
  have hl : lv_has ls 5 [(0, .ref qa), (1, .int p0), (2, .int p1), (3, .ref qo)] := hl
  refine lv_aload_n hx hb d9_sent_0 rfl (lv_at hl 3 rfl) ?_
  refine lv_iconst (v := 0) hx hb d9_sent_1 (by decide) ?_
  refine lv_aload_n hx hb d9_sent_2 rfl (lv_at hl 0 rfl) ?_
  refine lv_iload_n hx hb d9_sent_3 rfl (lv_at hl 1 rfl) ?_
  refine lv_iload_n hx hb d9_sent_4 rfl (lv_at hl 2 rfl) ?_
  refine sw_thr hlt (AsC := [.int p0, .int p1]) (K := [.int 0, .ref qo]) hev rfl hx hb hml hown hts (sw_good mt_58.2.2.1) (hall _ wx_729) mt_58 hall (Nat.le_refl _) (Nat.le_refl _) hw va_S.rf hA hR hk0 hqa ⟨rfl, rfl, trivial⟩ rfl hl.1 (Nat.le_of_ble_eq_true rfl) d9_sent_5 (by show 0 + _ ≤ mc; omega) (by show 0 + _ ≤ ms; omega) (fun ce q z H1 locs1 hw1 hS1 hz1 hk1 hR1 hce hcv hcl => ?_)
  cases sw_z hw hw1 hkd
  rw [List.append_nil] at hw1
  have hc1 := sw_ck hc0 hk1
  have ec : 0 + (hp_c h2 - hp_c h) = mc := by omega
  have es : 0 + (hp_s h2 - hp_s h) = ms := by omega
  rw [ec, es]
  refine sc_catch (own := "RouteHouseLaw") (E := "java/lang/IndexOutOfBoundsException") (nm := "java/lang/IndexOutOfBoundsException") hown [] ⟨0, 10, 13, 13⟩ [⟨0, 10, 17, 15⟩] htab (fun _ h => absurd h List.not_mem_nil) (by decide) (by decide) (hall _ wx_267) (sx_word (State.WarmedH.refl s) rfl rfl (hxa.1 _ wl_279 rfl rfl)) hce hcv hcl ?_
  refine lv_astore hx hb d9_sent_13 hl (by decide) rfl (fun ls2 hl2 => ?_)
  refine lv_iconst (v := 1) hx hb d9_sent_15 (by decide) ?_
  subst hAe
  exact W.iret hx hb hr (fun t ht hW => ⟨f, trivial, rfl, by rw [ht]; exact sd_w_moved hW.alike hw1, by rw [ht]; exact sw_cmoved hW.alike hc1, hS1.F ht⟩) hS1.2.2 d9_sent_16
set_option maxHeartbeats 4000000 in
set_option maxRecDepth 100000 in
theorem wt_sent_1 {l : Launch} (hlt : l.stackTraces = false) (D : va_G) {ad : List Nat} {h : hp_T} {qa qo sz d f0 : Nat} {p0 p1 : Int32} {f : Nat → Int64} {o : ev_O} (hev : ev_m d f0 58 [.ref 0, .int p0, .int p1] h = some o) (hk0 : hp_k h 0 = some (7, 0)) (hqa : ad[0]? = some qa) (hkd : o.2.1 = h.1) {mc ms : Nat} (hmc : mc + hp_c h = hp_c o.2) (hms : ms + hp_s h = hp_s o.2) (ho : o.1 = .inr 1) : Met l yw_sent ww_sent (sw_rm 58 mc ms) (sw_P D ad h qo f sz [.ref qa, .int p0, .int p1, .ref qo]) (sw_Q D ad o.2 qo sz 2 (fun _ => True)) mc ms (sd_fr (qo :: ad) sz) := by
  obtain ⟨r, h2⟩ := o
  cases ho
  have hmc : mc + hp_c h = hp_c h2 := hmc
  have hms : ms + hp_s h = hp_s h2 := hms
  refine va_MetW (cc := method_14_code) (maxL := 5) (ret := some .int) (hh := [(0, 10, 13, 13), (0, 10, 17, 15)]) (by decide +kernel) rfl ?_
  intro p e s m args below meth c s₁ B hml hv
  obtain ⟨rfl, hsz, hw, hc0, hxh, hxa, hg, hn⟩ := hv
  have hx := B.exec
  have hb := B.bytes
  have hr := B.returns
  have hts := atoms_spec (ws := ww_sent) B.pre
  have hall : ∀ w ∈ tb_all, w.before _ s = true := fun w h => hts w (List.mem_cons_of_mem _ h)
  have hown : s.vm.findClass "RouteHouseLaw" = some m.cls := findClass_of_methodNamed B.named
  have hlocks := B.notSynchronized
  have htab := sw_tab B (hts _ List.mem_cons_self)
  subst hsz
  have hA : ∀ q, s.heap.size ≤ q → sd_fr (qo :: ad) s.heap.size q := fun q h => Or.inr h
  generalize hAe : sd_fr (qo :: ad) s.heap.size = A at hw hc0 hA
  have hR : sw_R s s.heap := ⟨hxh, hxa, hg, fun _ _ h _ => h⟩
  have hl := lv_entry ([.ref qa, .int p0, .int p1, .ref qo]) (n := 5) (Nat.le_of_ble_eq_true rfl)
  rw [lg_entry_eq]
  generalize (lg_sl ([.ref qa, .int p0, .int p1, .ref qo]) ++ List.replicate (5 - (lg_sl ([.ref qa, .int p0, .int p1, .ref qo])).length) Slot.unset).toArray = ls at hl ⊢
  have hl : lv_has ls 5 [(0, .ref qa), (1, .int p0), (2, .int p1), (3, .ref qo)] := hl
  refine lv_aload_n hx hb d9_sent_0 rfl (lv_at hl 3 rfl) ?_
  refine lv_iconst (v := 0) hx hb d9_sent_1 (by decide) ?_
  refine lv_aload_n hx hb d9_sent_2 rfl (lv_at hl 0 rfl) ?_
  refine lv_iload_n hx hb d9_sent_3 rfl (lv_at hl 1 rfl) ?_
  refine lv_iload_n hx hb d9_sent_4 rfl (lv_at hl 2 rfl) ?_
  refine sw_thr hlt (AsC := [.int p0, .int p1]) (K := [.int 0, .ref qo]) hev rfl hx hb hml hown hts (sw_good mt_58.2.2.1) (hall _ wx_729) mt_58 hall (Nat.le_refl _) (Nat.le_refl _) hw va_S.rf hA hR hk0 hqa ⟨rfl, rfl, trivial⟩ rfl hl.1 (Nat.le_of_ble_eq_true rfl) d9_sent_5 (by show 0 + _ ≤ mc; omega) (by show 0 + _ ≤ ms; omega) (fun ce q z H1 locs1 hw1 hS1 hz1 hk1 hR1 hce hcv hcl => ?_)
  cases sw_z hw hw1 hkd
  rw [List.append_nil] at hw1
  have hc1 := sw_ck hc0 hk1
  have ec : 0 + (hp_c h2 - hp_c h) = mc := by omega
  have es : 0 + (hp_s h2 - hp_s h) = ms := by omega
  rw [ec, es]
  refine sc_catch (own := "RouteHouseLaw") (E := "java/lang/IllegalArgumentException") (nm := "java/lang/IllegalArgumentException") hown [⟨0, 10, 13, 13⟩] ⟨0, 10, 17, 15⟩ [] htab (List.forall_mem_cons.mpr ⟨⟨by decide, by decide, "java/lang/IndexOutOfBoundsException", hall _ wx_267, hn.2.1⟩, fun _ h => absurd h List.not_mem_nil⟩) (by decide) (by decide) (hall _ wx_268) (sx_word (State.WarmedH.refl s) rfl rfl (hxa.1 _ wl_347 rfl rfl)) hce hcv hcl ?_
  refine lv_astore hx hb d9_sent_17 hl (by decide) rfl (fun ls2 hl2 => ?_)
  refine lv_iconst (v := 2) hx hb d9_sent_19 (by decide) ?_
  subst hAe
  exact W.iret hx hb hr (fun t ht hW => ⟨f, trivial, rfl, by rw [ht]; exact sd_w_moved hW.alike hw1, by rw [ht]; exact sw_cmoved hW.alike hc1, hS1.F ht⟩) hS1.2.2 d9_sent_20
theorem wx_737 : (Jvm.Cond.methodLink "RouteHouseLaw" (61 : Nat) ({ cls := "RouteHouse", name := "out", desc := "(II)I" } : Jvm.MethodName)) ∈ tb_all := wd_o4 (i := 17) rfl rfl
theorem wx_736 : (Jvm.Cond.codeWith ({ cls := "RouteHouseLaw", name := "out", desc := "(LRouteHouse;II[J)I" } : Jvm.MethodName) method_15_code (5 : Nat) (Option.some Jvm.ClassFile.FieldType.int) [((0 : Nat), (10 : Nat), (13 : Nat), (13 : Nat))]) ∈ tb_all := wd_o4 (i := 16) rfl rfl
theorem d9_out_0 : decode method_15_code 0 = .ok (.aload_n 3, 1) := by decide +kernel
theorem d9_out_1 : decode method_15_code 1 = .ok (.iconst 0, 1) := by decide +kernel
theorem d9_out_2 : decode method_15_code 2 = .ok (.aload_n 0, 1) := by decide +kernel
theorem d9_out_3 : decode method_15_code 3 = .ok (.iload_n 1, 1) := by decide +kernel
theorem d9_out_4 : decode method_15_code 4 = .ok (.iload_n 2, 1) := by decide +kernel
theorem d9_out_5 : decode method_15_code 5 = .ok (.invokevirtual 61, 3) := by decide +kernel
theorem d9_out_8 : decode method_15_code 8 = .ok (.i2l, 1) := by decide +kernel
theorem d9_out_9 : decode method_15_code 9 = .ok (.lastore, 1) := by decide +kernel
theorem d9_out_10 : decode method_15_code 10 = .ok (.goto 7, 3) := by decide +kernel
theorem d9_out_13 : decode method_15_code 13 = .ok (.astore 4, 2) := by decide +kernel
theorem d9_out_15 : decode method_15_code 15 = .ok (.iconst 1, 1) := by decide +kernel
theorem d9_out_16 : decode method_15_code 16 = .ok (.ireturn, 1) := by decide +kernel
theorem d9_out_17 : decode method_15_code 17 = .ok (.iconst 0, 1) := by decide +kernel
theorem d9_out_18 : decode method_15_code 18 = .ok (.ireturn, 1) := by decide +kernel
def yw_out : MethodName := ⟨"RouteHouseLaw", "out", "(LRouteHouse;II[J)I"⟩
def ww_out : List Jvm.Cond := .codeWith yw_out method_15_code 5 (some .int) [(0, 10, 13, 13)] :: tb_all
set_option maxHeartbeats 4000000 in
set_option maxRecDepth 100000 in
theorem wr_out {l : Launch} (hlt : l.stackTraces = false) (D : va_G) {ad : List Nat} {h : hp_T} {qa qo sz d f0 : Nat} {p0 p1 : Int32} {f : Nat → Int64} {o : ev_O} (hev : ev_m d f0 59 [.ref 0, .int p0, .int p1] h = some o) (hk0 : hp_k h 0 = some (7, 0)) (hqa : ad[0]? = some qa) (hkd : o.2.1 = h.1) {mc ms : Nat} (hmc : mc + hp_c h = hp_c o.2) (hms : ms + hp_s h = hp_s o.2) {v : Int32} (ho : o.1 = .inl (some (.int v))) : Met l yw_out ww_out (sw_rm 59 mc ms) (sw_P D ad h qo f sz [.ref qa, .int p0, .int p1, .ref qo]) (sw_Q D ad o.2 qo sz 0 (fun f2 => f2 0 = v.toInt64)) mc ms (sd_fr (qo :: ad) sz) := by
  obtain ⟨r, h2⟩ := o
  cases ho
  have hmc : mc + hp_c h = hp_c h2 := hmc
  have hms : ms + hp_s h = hp_s h2 := hms
  refine va_MetW (cc := method_15_code) (maxL := 5) (ret := some .int) (hh := [(0, 10, 13, 13)]) (by decide +kernel) rfl ?_
  intro p e s m args below meth c s₁ B hml hv
  obtain ⟨rfl, hsz, hw, hc0, hxh, hxa, hg, hn⟩ := hv
  have hx := B.exec
  have hb := B.bytes
  have hr := B.returns
  have hts := atoms_spec (ws := ww_out) B.pre
  have hall : ∀ w ∈ tb_all, w.before _ s = true := fun w h => hts w (List.mem_cons_of_mem _ h)
  have hown : s.vm.findClass "RouteHouseLaw" = some m.cls := findClass_of_methodNamed B.named
  have hlocks := B.notSynchronized
  have htab := sw_tab B (hts _ List.mem_cons_self)
  subst hsz
  have hA : ∀ q, s.heap.size ≤ q → sd_fr (qo :: ad) s.heap.size q := fun q h => Or.inr h
  generalize hAe : sd_fr (qo :: ad) s.heap.size = A at hw hc0 hA
  have hR : sw_R s s.heap := ⟨hxh, hxa, hg, fun _ _ h _ => h⟩
  have hl := lv_entry ([.ref qa, .int p0, .int p1, .ref qo]) (n := 5) (Nat.le_of_ble_eq_true rfl)
  rw [lg_entry_eq]
  generalize (lg_sl ([.ref qa, .int p0, .int p1, .ref qo]) ++ List.replicate (5 - (lg_sl ([.ref qa, .int p0, .int p1, .ref qo])).length) Slot.unset).toArray = ls at hl ⊢
  have hl : lv_has ls 5 [(0, .ref qa), (1, .int p0), (2, .int p1), (3, .ref qo)] := hl
  refine lv_aload_n hx hb d9_out_0 rfl (lv_at hl 3 rfl) ?_
  refine lv_iconst (v := 0) hx hb d9_out_1 (by decide) ?_
  refine lv_aload_n hx hb d9_out_2 rfl (lv_at hl 0 rfl) ?_
  refine lv_iload_n hx hb d9_out_3 rfl (lv_at hl 1 rfl) ?_
  refine lv_iload_n hx hb d9_out_4 rfl (lv_at hl 2 rfl) ?_
  refine sw_ret hlt (AsC := [.int p0, .int p1]) (K := [.int 0, .ref qo]) hev rfl hx hb hml hown hts (sw_good mt_59.2.2.1) (hall _ wx_737) mt_59 hall (Nat.le_refl _) (Nat.le_refl _) hw va_S.rf hA hR hk0 hqa ⟨rfl, rfl, trivial⟩ rfl hl.1 (Nat.le_of_ble_eq_true rfl) d9_out_5 (by show 0 + _ ≤ mc; omega) (by show 0 + _ ≤ ms; omega) (fun w z H1 locs1 hw1 hS1 hq1 hz1 hk1 hR1 => ?_)
  cases sw_z hw hw1 hkd
  rw [List.append_nil] at hw1 hq1
  have hc1 := sw_ck hc0 hk1
  have ec : 0 + (hp_c h2 - hp_c h) = mc := by omega
  have es : 0 + (hp_s h2 - hp_s h) = ms := by omega
  rw [ec, es]
  cases w with
  | none => exact False.elim hq1
  | some w =>
    have hq2 : w = .int v := hq1.1
    subst hq2
    refine W.eq (g2 := F0 m 8 ls [.int v, .int 0, .ref qo]) rfl ?_
    refine lv_i2l hx hb d9_out_8 rfl ?_
    refine sw_last hx hb hw1 hc1 hS1 d9_out_9 (fun H2 locs2 hw2 hc2 hS2 => ?_)
    refine lv_goto (tgt := 17) hx hb d9_out_10 (by decide) ?_
    refine lv_iconst (v := 0) hx hb d9_out_17 (by decide) ?_
    subst hAe
    exact W.iret hx hb hr (fun t ht hW => ⟨_, pk_uLs, rfl, by rw [ht]; exact sd_w_moved hW.alike hw2, by rw [ht]; exact sw_cmoved hW.alike hc2, hS2.F ht⟩) hS2.2.2 d9_out_18
set_option maxHeartbeats 4000000 in
set_option maxRecDepth 100000 in
theorem wt_out_0 {l : Launch} (hlt : l.stackTraces = false) (D : va_G) {ad : List Nat} {h : hp_T} {qa qo sz d f0 : Nat} {p0 p1 : Int32} {f : Nat → Int64} {o : ev_O} (hev : ev_m d f0 59 [.ref 0, .int p0, .int p1] h = some o) (hk0 : hp_k h 0 = some (7, 0)) (hqa : ad[0]? = some qa) (hkd : o.2.1 = h.1) {mc ms : Nat} (hmc : mc + hp_c h = hp_c o.2) (hms : ms + hp_s h = hp_s o.2) (ho : o.1 = .inr 0) : Met l yw_out ww_out (sw_rm 59 mc ms) (sw_P D ad h qo f sz [.ref qa, .int p0, .int p1, .ref qo]) (sw_Q D ad o.2 qo sz 1 (fun _ => True)) mc ms (sd_fr (qo :: ad) sz) := by
  obtain ⟨r, h2⟩ := o
  cases ho
  have hmc : mc + hp_c h = hp_c h2 := hmc
  have hms : ms + hp_s h = hp_s h2 := hms
  refine va_MetW (cc := method_15_code) (maxL := 5) (ret := some .int) (hh := [(0, 10, 13, 13)]) (by decide +kernel) rfl ?_
  intro p e s m args below meth c s₁ B hml hv
  obtain ⟨rfl, hsz, hw, hc0, hxh, hxa, hg, hn⟩ := hv
  have hx := B.exec
  have hb := B.bytes
  have hr := B.returns
  have hts := atoms_spec (ws := ww_out) B.pre
  have hall : ∀ w ∈ tb_all, w.before _ s = true := fun w h => hts w (List.mem_cons_of_mem _ h)
  have hown : s.vm.findClass "RouteHouseLaw" = some m.cls := findClass_of_methodNamed B.named
  have hlocks := B.notSynchronized
  have htab := sw_tab B (hts _ List.mem_cons_self)
  subst hsz
  have hA : ∀ q, s.heap.size ≤ q → sd_fr (qo :: ad) s.heap.size q := fun q h => Or.inr h
  generalize hAe : sd_fr (qo :: ad) s.heap.size = A at hw hc0 hA
  have hR : sw_R s s.heap := ⟨hxh, hxa, hg, fun _ _ h _ => h⟩
  have hl := lv_entry ([.ref qa, .int p0, .int p1, .ref qo]) (n := 5) (Nat.le_of_ble_eq_true rfl)
  rw [lg_entry_eq]
  generalize (lg_sl ([.ref qa, .int p0, .int p1, .ref qo]) ++ List.replicate (5 - (lg_sl ([.ref qa, .int p0, .int p1, .ref qo])).length) Slot.unset).toArray = ls at hl ⊢
  have hl : lv_has ls 5 [(0, .ref qa), (1, .int p0), (2, .int p1), (3, .ref qo)] := hl
  refine lv_aload_n hx hb d9_out_0 rfl (lv_at hl 3 rfl) ?_
  refine lv_iconst (v := 0) hx hb d9_out_1 (by decide) ?_
  refine lv_aload_n hx hb d9_out_2 rfl (lv_at hl 0 rfl) ?_
  refine lv_iload_n hx hb d9_out_3 rfl (lv_at hl 1 rfl) ?_
  refine lv_iload_n hx hb d9_out_4 rfl (lv_at hl 2 rfl) ?_
  refine sw_thr hlt (AsC := [.int p0, .int p1]) (K := [.int 0, .ref qo]) hev rfl hx hb hml hown hts (sw_good mt_59.2.2.1) (hall _ wx_737) mt_59 hall (Nat.le_refl _) (Nat.le_refl _) hw va_S.rf hA hR hk0 hqa ⟨rfl, rfl, trivial⟩ rfl hl.1 (Nat.le_of_ble_eq_true rfl) d9_out_5 (by show 0 + _ ≤ mc; omega) (by show 0 + _ ≤ ms; omega) (fun ce q z H1 locs1 hw1 hS1 hz1 hk1 hR1 hce hcv hcl => ?_)
  cases sw_z hw hw1 hkd
  rw [List.append_nil] at hw1
  have hc1 := sw_ck hc0 hk1
  have ec : 0 + (hp_c h2 - hp_c h) = mc := by omega
  have es : 0 + (hp_s h2 - hp_s h) = ms := by omega
  rw [ec, es]
  refine sc_catch (own := "RouteHouseLaw") (E := "java/lang/IndexOutOfBoundsException") (nm := "java/lang/IndexOutOfBoundsException") hown [] ⟨0, 10, 13, 13⟩ [] htab (fun _ h => absurd h List.not_mem_nil) (by decide) (by decide) (hall _ wx_267) (sx_word (State.WarmedH.refl s) rfl rfl (hxa.1 _ wl_279 rfl rfl)) hce hcv hcl ?_
  refine lv_astore hx hb d9_out_13 hl (by decide) rfl (fun ls2 hl2 => ?_)
  refine lv_iconst (v := 1) hx hb d9_out_15 (by decide) ?_
  subst hAe
  exact W.iret hx hb hr (fun t ht hW => ⟨f, trivial, rfl, by rw [ht]; exact sd_w_moved hW.alike hw1, by rw [ht]; exact sw_cmoved hW.alike hc1, hS1.F ht⟩) hS1.2.2 d9_out_16
theorem wx_745 : (Jvm.Cond.methodLink "RouteHouseLaw" (64 : Nat) ({ cls := "RouteHouse", name := "about", desc := "(I)I" } : Jvm.MethodName)) ∈ tb_all := wd_o4 (i := 25) rfl rfl
theorem wx_744 : (Jvm.Cond.codeWith ({ cls := "RouteHouseLaw", name := "about", desc := "(LRouteHouse;I[J)I" } : Jvm.MethodName) method_16_code (4 : Nat) (Option.some Jvm.ClassFile.FieldType.int) [((0 : Nat), (9 : Nat), (12 : Nat), (15 : Nat))]) ∈ tb_all := wd_o4 (i := 24) rfl rfl
theorem d9_about_0 : decode method_16_code 0 = .ok (.aload_n 2, 1) := by decide +kernel
theorem d9_about_1 : decode method_16_code 1 = .ok (.iconst 0, 1) := by decide +kernel
theorem d9_about_2 : decode method_16_code 2 = .ok (.aload_n 0, 1) := by decide +kernel
theorem d9_about_3 : decode method_16_code 3 = .ok (.iload_n 1, 1) := by decide +kernel
theorem d9_about_4 : decode method_16_code 4 = .ok (.invokevirtual 64, 3) := by decide +kernel
theorem d9_about_7 : decode method_16_code 7 = .ok (.i2l, 1) := by decide +kernel
theorem d9_about_8 : decode method_16_code 8 = .ok (.lastore, 1) := by decide +kernel
theorem d9_about_9 : decode method_16_code 9 = .ok (.goto 6, 3) := by decide +kernel
theorem d9_about_12 : decode method_16_code 12 = .ok (.astore_n 3, 1) := by decide +kernel
theorem d9_about_13 : decode method_16_code 13 = .ok (.iconst 1, 1) := by decide +kernel
theorem d9_about_14 : decode method_16_code 14 = .ok (.ireturn, 1) := by decide +kernel
theorem d9_about_15 : decode method_16_code 15 = .ok (.iconst 0, 1) := by decide +kernel
theorem d9_about_16 : decode method_16_code 16 = .ok (.ireturn, 1) := by decide +kernel
def yw_about : MethodName := ⟨"RouteHouseLaw", "about", "(LRouteHouse;I[J)I"⟩
def ww_about : List Jvm.Cond := .codeWith yw_about method_16_code 4 (some .int) [(0, 9, 12, 15)] :: tb_all
set_option maxHeartbeats 4000000 in
set_option maxRecDepth 100000 in
theorem wr_about {l : Launch} (hlt : l.stackTraces = false) (D : va_G) {ad : List Nat} {h : hp_T} {qa qo sz d f0 : Nat} {p0 : Int32} {f : Nat → Int64} {o : ev_O} (hev : ev_m d f0 61 [.ref 0, .int p0] h = some o) (hk0 : hp_k h 0 = some (7, 0)) (hqa : ad[0]? = some qa) (hkd : o.2.1 = h.1) {mc ms : Nat} (hmc : mc + hp_c h = hp_c o.2) (hms : ms + hp_s h = hp_s o.2) {v : Int32} (ho : o.1 = .inl (some (.int v))) : Met l yw_about ww_about (sw_rm 61 mc ms) (sw_P D ad h qo f sz [.ref qa, .int p0, .ref qo]) (sw_Q D ad o.2 qo sz 0 (fun f2 => f2 0 = v.toInt64)) mc ms (sd_fr (qo :: ad) sz) := by
  obtain ⟨r, h2⟩ := o
  cases ho
  have hmc : mc + hp_c h = hp_c h2 := hmc
  have hms : ms + hp_s h = hp_s h2 := hms
  refine va_MetW (cc := method_16_code) (maxL := 4) (ret := some .int) (hh := [(0, 9, 12, 15)]) (by decide +kernel) rfl ?_
  intro p e s m args below meth c s₁ B hml hv
  obtain ⟨rfl, hsz, hw, hc0, hxh, hxa, hg, hn⟩ := hv
  have hx := B.exec
  have hb := B.bytes
  have hr := B.returns
  have hts := atoms_spec (ws := ww_about) B.pre
  have hall : ∀ w ∈ tb_all, w.before _ s = true := fun w h => hts w (List.mem_cons_of_mem _ h)
  have hown : s.vm.findClass "RouteHouseLaw" = some m.cls := findClass_of_methodNamed B.named
  have hlocks := B.notSynchronized
  have htab := sw_tab B (hts _ List.mem_cons_self)
  subst hsz
  have hA : ∀ q, s.heap.size ≤ q → sd_fr (qo :: ad) s.heap.size q := fun q h => Or.inr h
  generalize hAe : sd_fr (qo :: ad) s.heap.size = A at hw hc0 hA
  have hR : sw_R s s.heap := ⟨hxh, hxa, hg, fun _ _ h _ => h⟩
  have hl := lv_entry ([.ref qa, .int p0, .ref qo]) (n := 4) (Nat.le_of_ble_eq_true rfl)
  rw [lg_entry_eq]
  generalize (lg_sl ([.ref qa, .int p0, .ref qo]) ++ List.replicate (4 - (lg_sl ([.ref qa, .int p0, .ref qo])).length) Slot.unset).toArray = ls at hl ⊢
  have hl : lv_has ls 4 [(0, .ref qa), (1, .int p0), (2, .ref qo)] := hl
  refine lv_aload_n hx hb d9_about_0 rfl (lv_at hl 2 rfl) ?_
  refine lv_iconst (v := 0) hx hb d9_about_1 (by decide) ?_
  refine lv_aload_n hx hb d9_about_2 rfl (lv_at hl 0 rfl) ?_
  refine lv_iload_n hx hb d9_about_3 rfl (lv_at hl 1 rfl) ?_
  refine sw_ret hlt (AsC := [.int p0]) (K := [.int 0, .ref qo]) hev rfl hx hb hml hown hts (sw_good mt_61.2.2.1) (hall _ wx_745) mt_61 hall (Nat.le_refl _) (Nat.le_refl _) hw va_S.rf hA hR hk0 hqa ⟨rfl, trivial⟩ rfl hl.1 (Nat.le_of_ble_eq_true rfl) d9_about_4 (by show 0 + _ ≤ mc; omega) (by show 0 + _ ≤ ms; omega) (fun w z H1 locs1 hw1 hS1 hq1 hz1 hk1 hR1 => ?_)
  cases sw_z hw hw1 hkd
  rw [List.append_nil] at hw1 hq1
  have hc1 := sw_ck hc0 hk1
  have ec : 0 + (hp_c h2 - hp_c h) = mc := by omega
  have es : 0 + (hp_s h2 - hp_s h) = ms := by omega
  rw [ec, es]
  cases w with
  | none => exact False.elim hq1
  | some w =>
    have hq2 : w = .int v := hq1.1
    subst hq2
    refine W.eq (g2 := F0 m 7 ls [.int v, .int 0, .ref qo]) rfl ?_
    refine lv_i2l hx hb d9_about_7 rfl ?_
    refine sw_last hx hb hw1 hc1 hS1 d9_about_8 (fun H2 locs2 hw2 hc2 hS2 => ?_)
    refine lv_goto (tgt := 15) hx hb d9_about_9 (by decide) ?_
    refine lv_iconst (v := 0) hx hb d9_about_15 (by decide) ?_
    subst hAe
    exact W.iret hx hb hr (fun t ht hW => ⟨_, pk_uLs, rfl, by rw [ht]; exact sd_w_moved hW.alike hw2, by rw [ht]; exact sw_cmoved hW.alike hc2, hS2.F ht⟩) hS2.2.2 d9_about_16
set_option maxHeartbeats 4000000 in
set_option maxRecDepth 100000 in
theorem wt_about_1 {l : Launch} (hlt : l.stackTraces = false) (D : va_G) {ad : List Nat} {h : hp_T} {qa qo sz d f0 : Nat} {p0 : Int32} {f : Nat → Int64} {o : ev_O} (hev : ev_m d f0 61 [.ref 0, .int p0] h = some o) (hk0 : hp_k h 0 = some (7, 0)) (hqa : ad[0]? = some qa) (hkd : o.2.1 = h.1) {mc ms : Nat} (hmc : mc + hp_c h = hp_c o.2) (hms : ms + hp_s h = hp_s o.2) (ho : o.1 = .inr 1) : Met l yw_about ww_about (sw_rm 61 mc ms) (sw_P D ad h qo f sz [.ref qa, .int p0, .ref qo]) (sw_Q D ad o.2 qo sz 1 (fun _ => True)) mc ms (sd_fr (qo :: ad) sz) := by
  obtain ⟨r, h2⟩ := o
  cases ho
  have hmc : mc + hp_c h = hp_c h2 := hmc
  have hms : ms + hp_s h = hp_s h2 := hms
  refine va_MetW (cc := method_16_code) (maxL := 4) (ret := some .int) (hh := [(0, 9, 12, 15)]) (by decide +kernel) rfl ?_
  intro p e s m args below meth c s₁ B hml hv
  obtain ⟨rfl, hsz, hw, hc0, hxh, hxa, hg, hn⟩ := hv
  have hx := B.exec
  have hb := B.bytes
  have hr := B.returns
  have hts := atoms_spec (ws := ww_about) B.pre
  have hall : ∀ w ∈ tb_all, w.before _ s = true := fun w h => hts w (List.mem_cons_of_mem _ h)
  have hown : s.vm.findClass "RouteHouseLaw" = some m.cls := findClass_of_methodNamed B.named
  have hlocks := B.notSynchronized
  have htab := sw_tab B (hts _ List.mem_cons_self)
  subst hsz
  have hA : ∀ q, s.heap.size ≤ q → sd_fr (qo :: ad) s.heap.size q := fun q h => Or.inr h
  generalize hAe : sd_fr (qo :: ad) s.heap.size = A at hw hc0 hA
  have hR : sw_R s s.heap := ⟨hxh, hxa, hg, fun _ _ h _ => h⟩
  have hl := lv_entry ([.ref qa, .int p0, .ref qo]) (n := 4) (Nat.le_of_ble_eq_true rfl)
  rw [lg_entry_eq]
  generalize (lg_sl ([.ref qa, .int p0, .ref qo]) ++ List.replicate (4 - (lg_sl ([.ref qa, .int p0, .ref qo])).length) Slot.unset).toArray = ls at hl ⊢
  have hl : lv_has ls 4 [(0, .ref qa), (1, .int p0), (2, .ref qo)] := hl
  refine lv_aload_n hx hb d9_about_0 rfl (lv_at hl 2 rfl) ?_
  refine lv_iconst (v := 0) hx hb d9_about_1 (by decide) ?_
  refine lv_aload_n hx hb d9_about_2 rfl (lv_at hl 0 rfl) ?_
  refine lv_iload_n hx hb d9_about_3 rfl (lv_at hl 1 rfl) ?_
  refine sw_thr hlt (AsC := [.int p0]) (K := [.int 0, .ref qo]) hev rfl hx hb hml hown hts (sw_good mt_61.2.2.1) (hall _ wx_745) mt_61 hall (Nat.le_refl _) (Nat.le_refl _) hw va_S.rf hA hR hk0 hqa ⟨rfl, trivial⟩ rfl hl.1 (Nat.le_of_ble_eq_true rfl) d9_about_4 (by show 0 + _ ≤ mc; omega) (by show 0 + _ ≤ ms; omega) (fun ce q z H1 locs1 hw1 hS1 hz1 hk1 hR1 hce hcv hcl => ?_)
  cases sw_z hw hw1 hkd
  rw [List.append_nil] at hw1
  have hc1 := sw_ck hc0 hk1
  have ec : 0 + (hp_c h2 - hp_c h) = mc := by omega
  have es : 0 + (hp_s h2 - hp_s h) = ms := by omega
  rw [ec, es]
  refine sc_catch (own := "RouteHouseLaw") (E := "java/lang/IllegalArgumentException") (nm := "java/lang/IllegalArgumentException") hown [] ⟨0, 9, 12, 15⟩ [] htab (fun _ h => absurd h List.not_mem_nil) (by decide) (by decide) (hall _ wx_268) (sx_word (State.WarmedH.refl s) rfl rfl (hxa.1 _ wl_347 rfl rfl)) hce hcv hcl ?_
  refine lv_astore_n hx hb d9_about_12 rfl hl (by decide) rfl (fun ls2 hl2 => ?_)
  refine lv_iconst (v := 1) hx hb d9_about_13 (by decide) ?_
  subst hAe
  exact W.iret hx hb hr (fun t ht hW => ⟨f, trivial, rfl, by rw [ht]; exact sd_w_moved hW.alike hw1, by rw [ht]; exact sw_cmoved hW.alike hc1, hS1.F ht⟩) hS1.2.2 d9_about_14
