theorem wd_o1 {i : Nat} {w : Jvm.Cond} (h : tables_1_1[i]? = some w) (hg : goodWord w = true) : w ∈ tb_all := List.mem_filter.mpr ⟨List.mem_append_right _ (by have h : w ∈ tables_1_1 := List.mem_of_getElem? h; exact List.mem_append_left _ h), hg⟩
theorem wd_o2 {i : Nat} {w : Jvm.Cond} (h : tables_1_2[i]? = some w) (hg : goodWord w = true) : w ∈ tb_all := List.mem_filter.mpr ⟨List.mem_append_right _ (by have h : w ∈ tables_1_2 := List.mem_of_getElem? h; exact List.mem_append_right _ (List.mem_append_left _ h)), hg⟩
theorem wd_o3 {i : Nat} {w : Jvm.Cond} (h : tables_1_3[i]? = some w) (hg : goodWord w = true) : w ∈ tb_all := List.mem_filter.mpr ⟨List.mem_append_right _ (by have h : w ∈ tables_1_3 := List.mem_of_getElem? h; exact List.mem_append_right _ (List.mem_append_right _ (List.mem_append_left _ h))), hg⟩
theorem wd_o4 {i : Nat} {w : Jvm.Cond} (h : tables_1_4[i]? = some w) (hg : goodWord w = true) : w ∈ tb_all := List.mem_filter.mpr ⟨List.mem_append_right _ (by have h : w ∈ tables_1_4 := List.mem_of_getElem? h; exact List.mem_append_right _ (List.mem_append_right _ (List.mem_append_right _ (List.mem_append_left _ h)))), hg⟩
theorem wd_o5 {i : Nat} {w : Jvm.Cond} (h : tables_1_5[i]? = some w) (hg : goodWord w = true) : w ∈ tb_all := List.mem_filter.mpr ⟨List.mem_append_right _ (by have h : w ∈ tables_1_5 := List.mem_of_getElem? h; exact List.mem_append_right _ (List.mem_append_right _ (List.mem_append_right _ (List.mem_append_right _ (h))))), hg⟩
theorem wd_of {i : Nat} {w : Jvm.Cond} (h : lw_tbl[i]? = some w) (hg : goodWord w = true) : w ∈ tb_all := List.mem_filter.mpr ⟨List.mem_of_getElem? h, hg⟩
abbrev wv_1 : Jvm.Cond := (Jvm.Cond.initialized "RouteHouse")
theorem wd_1 : wv_1 ∈ tb_all := wd_o1 (i := 1) rfl rfl
abbrev wv_2 : Jvm.Cond := (Jvm.Cond.initialized "RouteHouse$Port")
theorem wd_2 : wv_2 ∈ tb_all := wd_o1 (i := 2) rfl rfl
abbrev wv_3 : Jvm.Cond := (Jvm.Cond.initialized "RouteHouse$Routes")
theorem wd_3 : wv_3 ∈ tb_all := wd_o1 (i := 3) rfl rfl
abbrev wv_4 : Jvm.Cond := (Jvm.Cond.initialized "RouteHouse$Packet")
theorem wd_4 : wv_4 ∈ tb_all := wd_o1 (i := 4) rfl rfl
abbrev wv_5 : Jvm.Cond := (Jvm.Cond.initialized "RouteHouse$Outbox")
theorem wd_5 : wv_5 ∈ tb_all := wd_o1 (i := 5) rfl rfl
abbrev wv_6 : Jvm.Cond := (Jvm.Cond.initialized "RouteHouse$Waits")
theorem wd_6 : wv_6 ∈ tb_all := wd_o1 (i := 6) rfl rfl
abbrev wv_7 : Jvm.Cond := (Jvm.Cond.initialized "RouteHouse$Waiting")
theorem wd_7 : wv_7 ∈ tb_all := wd_o1 (i := 7) rfl rfl
abbrev wv_8 : Jvm.Cond := (Jvm.Cond.initialized "RouteHouse$Delivery")
theorem wd_8 : wv_8 ∈ tb_all := wd_o1 (i := 8) rfl rfl
abbrev wv_9 : Jvm.Cond := (Jvm.Cond.initialized "RouteHouseModel")
theorem wd_9 : wv_9 ∈ tb_all := wd_o1 (i := 9) rfl rfl
abbrev wv_17 : Jvm.Cond := (Jvm.Cond.initialized "RouteHouse$Wire")
theorem wd_17 : wv_17 ∈ tb_all := wd_o1 (i := 17) rfl rfl
abbrev wv_18 : Jvm.Cond := (Jvm.Cond.initialized "java/lang/System")
theorem wd_18 : wv_18 ∈ tb_all := wd_o1 (i := 18) rfl rfl
abbrev wv_19 : Jvm.Cond := (Jvm.Cond.initialized "java/lang/Math")
theorem wd_19 : wv_19 ∈ tb_all := wd_o1 (i := 19) rfl rfl
abbrev wv_25 : Jvm.Cond := (Jvm.Cond.methodLink "RouteHouse" (1 : Nat) ({ cls := "java/lang/Object", name := "<init>", desc := "()V" } : Jvm.MethodName))
theorem wd_25 : wv_25 ∈ tb_all := wd_o1 (i := 25) rfl rfl
abbrev wv_26 : Jvm.Cond := (Jvm.Cond.instanceMethod ({ cls := "java/lang/Object", name := "<init>", desc := "()V" } : Jvm.MethodName))
theorem wd_26 : wv_26 ∈ tb_all := wd_o1 (i := 26) rfl rfl
abbrev wv_27 : Jvm.Cond := (Jvm.Cond.code ({ cls := "java/lang/Object", name := "<init>", desc := "()V" } : Jvm.MethodName) object_method_1_code (1 : Nat) (Option.none : Option Jvm.ClassFile.FieldType))
theorem wd_27 : wv_27 ∈ tb_all := wd_o1 (i := 27) rfl rfl
abbrev wv_28 : Jvm.Cond := (Jvm.Cond.classLink "RouteHouse" (9 : Nat) "RouteHouse$Port")
theorem wd_28 : wv_28 ∈ tb_all := wd_o1 (i := 28) rfl rfl
abbrev wv_30 : Jvm.Cond := (Jvm.Cond.instantiable "RouteHouse$Port" (3 : Nat))
theorem wd_30 : wv_30 ∈ tb_all := wd_o1 (i := 30) rfl rfl
abbrev wv_31 : Jvm.Cond := (Jvm.Cond.methodLink "RouteHouse" (15 : Nat) ({ cls := "RouteHouse$Port", name := "<init>", desc := "()V" } : Jvm.MethodName))
theorem wd_31 : wv_31 ∈ tb_all := wd_o1 (i := 31) rfl rfl
abbrev wv_32 : Jvm.Cond := (Jvm.Cond.instanceMethod ({ cls := "RouteHouse$Port", name := "<init>", desc := "()V" } : Jvm.MethodName))
theorem wd_32 : wv_32 ∈ tb_all := wd_o1 (i := 32) rfl rfl
abbrev wv_33 : Jvm.Cond := (Jvm.Cond.code ({ cls := "RouteHouse$Port", name := "<init>", desc := "()V" } : Jvm.MethodName) prog_5_method_1_code (1 : Nat) (Option.none : Option Jvm.ClassFile.FieldType))
theorem wd_33 : wv_33 ∈ tb_all := wd_o1 (i := 33) rfl rfl
abbrev wv_34 : Jvm.Cond := (Jvm.Cond.methodLink "RouteHouse$Port" (3 : Nat) ({ cls := "java/lang/Object", name := "<init>", desc := "()V" } : Jvm.MethodName))
theorem wd_34 : wv_34 ∈ tb_all := wd_o1 (i := 34) rfl rfl
abbrev wv_35 : Jvm.Cond := (Jvm.Cond.fieldLink "RouteHouse" (73 : Nat) "RouteHouse$Port" "address" "I")
theorem wd_35 : wv_35 ∈ tb_all := wd_o1 (i := 35) rfl rfl
abbrev wv_36 : Jvm.Cond := (Jvm.Cond.fieldLink "RouteHouse$Port" (9 : Nat) "RouteHouse$Port" "mtu" "I")
theorem wd_36 : wv_36 ∈ tb_all := wd_o1 (i := 36) rfl rfl
abbrev wv_37 : Jvm.Cond := (Jvm.Cond.fieldLink "RouteHouse" (76 : Nat) "RouteHouse$Port" "mtu" "I")
theorem wd_37 : wv_37 ∈ tb_all := wd_o1 (i := 37) rfl rfl
abbrev wv_38 : Jvm.Cond := (Jvm.Cond.fieldLink "RouteHouse$Port" (15 : Nat) "RouteHouse$Port" "isUp" "Z")
theorem wd_38 : wv_38 ∈ tb_all := wd_o1 (i := 38) rfl rfl
abbrev wv_39 : Jvm.Cond := (Jvm.Cond.fieldLink "RouteHouse" (79 : Nat) "RouteHouse$Port" "isUp" "Z")
theorem wd_39 : wv_39 ∈ tb_all := wd_o1 (i := 39) rfl rfl
abbrev wv_40 : Jvm.Cond := (Jvm.Cond.lays "RouteHouse$Port" "RouteHouse$Port" "address" "I")
theorem wd_40 : wv_40 ∈ tb_all := wd_o1 (i := 40) rfl rfl
abbrev wv_42 : Jvm.Cond := (Jvm.Cond.lays "RouteHouse$Port" "RouteHouse$Port" "mtu" "I")
theorem wd_42 : wv_42 ∈ tb_all := wd_o1 (i := 42) rfl rfl
abbrev wv_44 : Jvm.Cond := (Jvm.Cond.lays "RouteHouse$Port" "RouteHouse$Port" "isUp" "Z")
theorem wd_44 : wv_44 ∈ tb_all := wd_o1 (i := 44) rfl rfl
abbrev wv_47 : Jvm.Cond := (Jvm.Cond.classLink "RouteHouse" (16 : Nat) "RouteHouse$Routes")
theorem wd_47 : wv_47 ∈ tb_all := wd_o1 (i := 47) rfl rfl
abbrev wv_48 : Jvm.Cond := (Jvm.Cond.instantiable "RouteHouse$Routes" (5 : Nat))
theorem wd_48 : wv_48 ∈ tb_all := wd_o1 (i := 48) rfl rfl
abbrev wv_49 : Jvm.Cond := (Jvm.Cond.methodLink "RouteHouse" (18 : Nat) ({ cls := "RouteHouse$Routes", name := "<init>", desc := "()V" } : Jvm.MethodName))
theorem wd_49 : wv_49 ∈ tb_all := wd_o1 (i := 49) rfl rfl
abbrev wv_50 : Jvm.Cond := (Jvm.Cond.instanceMethod ({ cls := "RouteHouse$Routes", name := "<init>", desc := "()V" } : Jvm.MethodName))
theorem wd_50 : wv_50 ∈ tb_all := wd_o1 (i := 50) rfl rfl
abbrev wv_51 : Jvm.Cond := (Jvm.Cond.code ({ cls := "RouteHouse$Routes", name := "<init>", desc := "()V" } : Jvm.MethodName) prog_6_method_1_code (1 : Nat) (Option.none : Option Jvm.ClassFile.FieldType))
theorem wd_51 : wv_51 ∈ tb_all := wd_o1 (i := 51) rfl rfl
abbrev wv_52 : Jvm.Cond := (Jvm.Cond.methodLink "RouteHouse$Routes" (3 : Nat) ({ cls := "java/lang/Object", name := "<init>", desc := "()V" } : Jvm.MethodName))
theorem wd_52 : wv_52 ∈ tb_all := wd_o1 (i := 52) rfl rfl
abbrev wv_53 : Jvm.Cond := (Jvm.Cond.fieldLink "RouteHouse$Routes" (9 : Nat) "RouteHouse$Routes" "beginnings" "[I")
theorem wd_53 : wv_53 ∈ tb_all := wd_o1 (i := 53) rfl rfl
abbrev wv_54 : Jvm.Cond := (Jvm.Cond.fieldLink "RouteHouse$Routes" (15 : Nat) "RouteHouse$Routes" "bits" "[I")
theorem wd_54 : wv_54 ∈ tb_all := wd_o1 (i := 54) rfl rfl
abbrev wv_55 : Jvm.Cond := (Jvm.Cond.fieldLink "RouteHouse" (115 : Nat) "RouteHouse$Routes" "bits" "[I")
theorem wd_55 : wv_55 ∈ tb_all := wd_o1 (i := 55) rfl rfl
abbrev wv_56 : Jvm.Cond := (Jvm.Cond.fieldLink "RouteHouse$Routes" (18 : Nat) "RouteHouse$Routes" "ways" "[I")
theorem wd_56 : wv_56 ∈ tb_all := wd_o1 (i := 56) rfl rfl
abbrev wv_57 : Jvm.Cond := (Jvm.Cond.fieldLink "RouteHouse" (111 : Nat) "RouteHouse$Routes" "ways" "[I")
theorem wd_57 : wv_57 ∈ tb_all := wd_o1 (i := 57) rfl rfl
abbrev wv_58 : Jvm.Cond := (Jvm.Cond.fieldLink "RouteHouse$Routes" (21 : Nat) "RouteHouse$Routes" "nexts" "[I")
theorem wd_58 : wv_58 ∈ tb_all := wd_o1 (i := 58) rfl rfl
abbrev wv_59 : Jvm.Cond := (Jvm.Cond.fieldLink "RouteHouse" (118 : Nat) "RouteHouse$Routes" "nexts" "[I")
theorem wd_59 : wv_59 ∈ tb_all := wd_o1 (i := 59) rfl rfl
abbrev wv_60 : Jvm.Cond := (Jvm.Cond.fieldLink "RouteHouse$Routes" (28 : Nat) "RouteHouse$Routes" "count" "I")
theorem wd_60 : wv_60 ∈ tb_all := wd_o1 (i := 60) rfl rfl
abbrev wv_61 : Jvm.Cond := (Jvm.Cond.fieldLink "RouteHouse" (90 : Nat) "RouteHouse$Routes" "count" "I")
theorem wd_61 : wv_61 ∈ tb_all := wd_o1 (i := 61) rfl rfl
abbrev wv_62 : Jvm.Cond := (Jvm.Cond.laysFinal "RouteHouse$Routes" "RouteHouse$Routes" "beginnings" "[I")
theorem wd_62 : wv_62 ∈ tb_all := wd_o1 (i := 62) rfl rfl
abbrev wv_64 : Jvm.Cond := (Jvm.Cond.laysFinal "RouteHouse$Routes" "RouteHouse$Routes" "bits" "[I")
theorem wd_64 : wv_64 ∈ tb_all := wd_o1 (i := 64) rfl rfl
abbrev wv_66 : Jvm.Cond := (Jvm.Cond.laysFinal "RouteHouse$Routes" "RouteHouse$Routes" "ways" "[I")
theorem wd_66 : wv_66 ∈ tb_all := wd_o1 (i := 66) rfl rfl
abbrev wv_68 : Jvm.Cond := (Jvm.Cond.laysFinal "RouteHouse$Routes" "RouteHouse$Routes" "nexts" "[I")
theorem wd_68 : wv_68 ∈ tb_all := wd_o1 (i := 68) rfl rfl
abbrev wv_70 : Jvm.Cond := (Jvm.Cond.lays "RouteHouse$Routes" "RouteHouse$Routes" "count" "I")
theorem wd_70 : wv_70 ∈ tb_all := wd_o1 (i := 70) rfl rfl
abbrev wv_73 : Jvm.Cond := (Jvm.Cond.arrayClass Jvm.ClassFile.FieldType.int)
theorem wd_73 : wv_73 ∈ tb_all := wd_o1 (i := 73) rfl rfl
abbrev wv_74 : Jvm.Cond := (Jvm.Cond.classLink "RouteHouse" (23 : Nat) "RouteHouse$Packet")
theorem wd_74 : wv_74 ∈ tb_all := wd_o1 (i := 74) rfl rfl
abbrev wv_75 : Jvm.Cond := (Jvm.Cond.instantiable "RouteHouse$Packet" (2 : Nat))
theorem wd_75 : wv_75 ∈ tb_all := wd_o1 (i := 75) rfl rfl
abbrev wv_76 : Jvm.Cond := (Jvm.Cond.methodLink "RouteHouse" (25 : Nat) ({ cls := "RouteHouse$Packet", name := "<init>", desc := "(I)V" } : Jvm.MethodName))
theorem wd_76 : wv_76 ∈ tb_all := wd_o1 (i := 76) rfl rfl
abbrev wv_77 : Jvm.Cond := (Jvm.Cond.instanceMethod ({ cls := "RouteHouse$Packet", name := "<init>", desc := "(I)V" } : Jvm.MethodName))
theorem wd_77 : wv_77 ∈ tb_all := wd_o1 (i := 77) rfl rfl
abbrev wv_78 : Jvm.Cond := (Jvm.Cond.code ({ cls := "RouteHouse$Packet", name := "<init>", desc := "(I)V" } : Jvm.MethodName) prog_4_method_1_code (2 : Nat) (Option.none : Option Jvm.ClassFile.FieldType))
theorem wd_78 : wv_78 ∈ tb_all := wd_o1 (i := 78) rfl rfl
abbrev wv_79 : Jvm.Cond := (Jvm.Cond.methodLink "RouteHouse$Packet" (3 : Nat) ({ cls := "java/lang/Object", name := "<init>", desc := "()V" } : Jvm.MethodName))
theorem wd_79 : wv_79 ∈ tb_all := wd_o1 (i := 79) rfl rfl
abbrev wv_80 : Jvm.Cond := (Jvm.Cond.fieldLink "RouteHouse$Packet" (9 : Nat) "RouteHouse$Packet" "row" "[B")
theorem wd_80 : wv_80 ∈ tb_all := wd_o1 (i := 80) rfl rfl
abbrev wv_81 : Jvm.Cond := (Jvm.Cond.fieldLink "RouteHouse$Delivery" (38 : Nat) "RouteHouse$Packet" "row" "[B")
theorem wd_81 : wv_81 ∈ tb_all := wd_o1 (i := 81) rfl rfl
abbrev wv_82 : Jvm.Cond := (Jvm.Cond.fieldLink "RouteHouse$Outbox" (44 : Nat) "RouteHouse$Packet" "row" "[B")
theorem wd_82 : wv_82 ∈ tb_all := wd_o1 (i := 82) rfl rfl
abbrev wv_83 : Jvm.Cond := (Jvm.Cond.fieldLink "RouteHouse$Waiting" (76 : Nat) "RouteHouse$Packet" "row" "[B")
theorem wd_83 : wv_83 ∈ tb_all := wd_o1 (i := 83) rfl rfl
abbrev wv_84 : Jvm.Cond := (Jvm.Cond.fieldLink "RouteHouse" (127 : Nat) "RouteHouse$Packet" "row" "[B")
theorem wd_84 : wv_84 ∈ tb_all := wd_o1 (i := 84) rfl rfl
abbrev wv_85 : Jvm.Cond := (Jvm.Cond.fieldLink "RouteHouse" (121 : Nat) "RouteHouse$Packet" "count" "I")
theorem wd_85 : wv_85 ∈ tb_all := wd_o1 (i := 85) rfl rfl
abbrev wv_86 : Jvm.Cond := (Jvm.Cond.fieldLink "RouteHouse$Packet" (24 : Nat) "RouteHouse$Packet" "count" "I")
theorem wd_86 : wv_86 ∈ tb_all := wd_o1 (i := 86) rfl rfl
abbrev wv_87 : Jvm.Cond := (Jvm.Cond.laysFinal "RouteHouse$Packet" "RouteHouse$Packet" "row" "[B")
theorem wd_87 : wv_87 ∈ tb_all := wd_o1 (i := 87) rfl rfl
abbrev wv_89 : Jvm.Cond := (Jvm.Cond.lays "RouteHouse$Packet" "RouteHouse$Packet" "count" "I")
theorem wd_89 : wv_89 ∈ tb_all := wd_o1 (i := 89) rfl rfl
abbrev wv_92 : Jvm.Cond := (Jvm.Cond.arrayClass Jvm.ClassFile.FieldType.byte)
theorem wd_92 : wv_92 ∈ tb_all := wd_o1 (i := 92) rfl rfl
abbrev wv_93 : Jvm.Cond := (Jvm.Cond.classLink "RouteHouse" (38 : Nat) "RouteHouse$Outbox")
theorem wd_93 : wv_93 ∈ tb_all := wd_o1 (i := 93) rfl rfl
abbrev wv_94 : Jvm.Cond := (Jvm.Cond.instantiable "RouteHouse$Outbox" (8 : Nat))
theorem wd_94 : wv_94 ∈ tb_all := wd_o1 (i := 94) rfl rfl
abbrev wv_95 : Jvm.Cond := (Jvm.Cond.methodLink "RouteHouse" (40 : Nat) ({ cls := "RouteHouse$Outbox", name := "<init>", desc := "()V" } : Jvm.MethodName))
theorem wd_95 : wv_95 ∈ tb_all := wd_o1 (i := 95) rfl rfl
abbrev wv_96 : Jvm.Cond := (Jvm.Cond.instanceMethod ({ cls := "RouteHouse$Outbox", name := "<init>", desc := "()V" } : Jvm.MethodName))
theorem wd_96 : wv_96 ∈ tb_all := wd_o1 (i := 96) rfl rfl
abbrev wv_97 : Jvm.Cond := (Jvm.Cond.code ({ cls := "RouteHouse$Outbox", name := "<init>", desc := "()V" } : Jvm.MethodName) prog_3_method_1_code (1 : Nat) (Option.none : Option Jvm.ClassFile.FieldType))
theorem wd_97 : wv_97 ∈ tb_all := wd_o1 (i := 97) rfl rfl
abbrev wv_98 : Jvm.Cond := (Jvm.Cond.methodLink "RouteHouse$Outbox" (3 : Nat) ({ cls := "java/lang/Object", name := "<init>", desc := "()V" } : Jvm.MethodName))
theorem wd_98 : wv_98 ∈ tb_all := wd_o1 (i := 98) rfl rfl
abbrev wv_99 : Jvm.Cond := (Jvm.Cond.fieldLink "RouteHouse$Outbox" (11 : Nat) "RouteHouse$Outbox" "bytes" "[B")
theorem wd_99 : wv_99 ∈ tb_all := wd_o1 (i := 99) rfl rfl
abbrev wv_100 : Jvm.Cond := (Jvm.Cond.fieldLink "RouteHouse" (154 : Nat) "RouteHouse$Outbox" "bytes" "[B")
theorem wd_100 : wv_100 ∈ tb_all := wd_o1 (i := 100) rfl rfl
abbrev wv_101 : Jvm.Cond := (Jvm.Cond.fieldLink "RouteHouse$Outbox" (15 : Nat) "RouteHouse$Outbox" "starts" "[I")
theorem wd_101 : wv_101 ∈ tb_all := wd_o1 (i := 101) rfl rfl
abbrev wv_102 : Jvm.Cond := (Jvm.Cond.fieldLink "RouteHouse" (157 : Nat) "RouteHouse$Outbox" "starts" "[I")
theorem wd_102 : wv_102 ∈ tb_all := wd_o1 (i := 102) rfl rfl
abbrev wv_103 : Jvm.Cond := (Jvm.Cond.fieldLink "RouteHouse$Outbox" (19 : Nat) "RouteHouse$Outbox" "lengths" "[I")
theorem wd_103 : wv_103 ∈ tb_all := wd_o1 (i := 103) rfl rfl
abbrev wv_104 : Jvm.Cond := (Jvm.Cond.fieldLink "RouteHouse" (151 : Nat) "RouteHouse$Outbox" "lengths" "[I")
theorem wd_104 : wv_104 ∈ tb_all := wd_o1 (i := 104) rfl rfl
abbrev wv_105 : Jvm.Cond := (Jvm.Cond.fieldLink "RouteHouse$Outbox" (22 : Nat) "RouteHouse$Outbox" "ways" "[I")
theorem wd_105 : wv_105 ∈ tb_all := wd_o1 (i := 105) rfl rfl
abbrev wv_106 : Jvm.Cond := (Jvm.Cond.fieldLink "RouteHouse" (182 : Nat) "RouteHouse$Outbox" "ways" "[I")
theorem wd_106 : wv_106 ∈ tb_all := wd_o1 (i := 106) rfl rfl
abbrev wv_107 : Jvm.Cond := (Jvm.Cond.fieldLink "RouteHouse$Outbox" (25 : Nat) "RouteHouse$Outbox" "nexts" "[I")
theorem wd_107 : wv_107 ∈ tb_all := wd_o1 (i := 107) rfl rfl
abbrev wv_108 : Jvm.Cond := (Jvm.Cond.fieldLink "RouteHouse" (183 : Nat) "RouteHouse$Outbox" "nexts" "[I")
theorem wd_108 : wv_108 ∈ tb_all := wd_o1 (i := 108) rfl rfl
abbrev wv_109 : Jvm.Cond := (Jvm.Cond.fieldLink "RouteHouse$Outbox" (28 : Nat) "RouteHouse$Outbox" "laterHeader" "[B")
theorem wd_109 : wv_109 ∈ tb_all := wd_o1 (i := 109) rfl rfl
abbrev wv_110 : Jvm.Cond := (Jvm.Cond.fieldLink "RouteHouse$Outbox" (31 : Nat) "RouteHouse$Outbox" "count" "I")
theorem wd_110 : wv_110 ∈ tb_all := wd_o1 (i := 110) rfl rfl
abbrev wv_111 : Jvm.Cond := (Jvm.Cond.fieldLink "RouteHouse" (181 : Nat) "RouteHouse$Outbox" "count" "I")
theorem wd_111 : wv_111 ∈ tb_all := wd_o1 (i := 111) rfl rfl
abbrev wv_112 : Jvm.Cond := (Jvm.Cond.fieldLink "RouteHouse$Outbox" (35 : Nat) "RouteHouse$Outbox" "used" "I")
theorem wd_112 : wv_112 ∈ tb_all := wd_o1 (i := 112) rfl rfl
abbrev wv_113 : Jvm.Cond := (Jvm.Cond.laysFinal "RouteHouse$Outbox" "RouteHouse$Outbox" "bytes" "[B")
theorem wd_113 : wv_113 ∈ tb_all := wd_o1 (i := 113) rfl rfl
abbrev wv_115 : Jvm.Cond := (Jvm.Cond.laysFinal "RouteHouse$Outbox" "RouteHouse$Outbox" "starts" "[I")
theorem wd_115 : wv_115 ∈ tb_all := wd_o1 (i := 115) rfl rfl
abbrev wv_117 : Jvm.Cond := (Jvm.Cond.laysFinal "RouteHouse$Outbox" "RouteHouse$Outbox" "lengths" "[I")
theorem wd_117 : wv_117 ∈ tb_all := wd_o1 (i := 117) rfl rfl
abbrev wv_119 : Jvm.Cond := (Jvm.Cond.laysFinal "RouteHouse$Outbox" "RouteHouse$Outbox" "ways" "[I")
theorem wd_119 : wv_119 ∈ tb_all := wd_o1 (i := 119) rfl rfl
abbrev wv_121 : Jvm.Cond := (Jvm.Cond.laysFinal "RouteHouse$Outbox" "RouteHouse$Outbox" "nexts" "[I")
theorem wd_121 : wv_121 ∈ tb_all := wd_o1 (i := 121) rfl rfl
abbrev wv_123 : Jvm.Cond := (Jvm.Cond.laysFinal "RouteHouse$Outbox" "RouteHouse$Outbox" "laterHeader" "[B")
theorem wd_123 : wv_123 ∈ tb_all := wd_o1 (i := 123) rfl rfl
abbrev wv_125 : Jvm.Cond := (Jvm.Cond.lays "RouteHouse$Outbox" "RouteHouse$Outbox" "count" "I")
theorem wd_125 : wv_125 ∈ tb_all := wd_o1 (i := 125) rfl rfl
abbrev wv_127 : Jvm.Cond := (Jvm.Cond.lays "RouteHouse$Outbox" "RouteHouse$Outbox" "used" "I")
theorem wd_127 : wv_127 ∈ tb_all := wd_o1 (i := 127) rfl rfl
abbrev wv_130 : Jvm.Cond := (Jvm.Cond.classLink "RouteHouse" (45 : Nat) "RouteHouse$Waits")
theorem wd_130 : wv_130 ∈ tb_all := wd_o1 (i := 130) rfl rfl
abbrev wv_131 : Jvm.Cond := (Jvm.Cond.instantiable "RouteHouse$Waits" (2 : Nat))
theorem wd_131 : wv_131 ∈ tb_all := wd_o1 (i := 131) rfl rfl
abbrev wv_132 : Jvm.Cond := (Jvm.Cond.methodLink "RouteHouse" (47 : Nat) ({ cls := "RouteHouse$Waits", name := "<init>", desc := "()V" } : Jvm.MethodName))
theorem wd_132 : wv_132 ∈ tb_all := wd_o1 (i := 132) rfl rfl
abbrev wv_133 : Jvm.Cond := (Jvm.Cond.instanceMethod ({ cls := "RouteHouse$Waits", name := "<init>", desc := "()V" } : Jvm.MethodName))
theorem wd_133 : wv_133 ∈ tb_all := wd_o1 (i := 133) rfl rfl
abbrev wv_134 : Jvm.Cond := (Jvm.Cond.code ({ cls := "RouteHouse$Waits", name := "<init>", desc := "()V" } : Jvm.MethodName) prog_8_method_1_code (2 : Nat) (Option.none : Option Jvm.ClassFile.FieldType))
theorem wd_134 : wv_134 ∈ tb_all := wd_o1 (i := 134) rfl rfl
abbrev wv_135 : Jvm.Cond := (Jvm.Cond.methodLink "RouteHouse$Waits" (3 : Nat) ({ cls := "java/lang/Object", name := "<init>", desc := "()V" } : Jvm.MethodName))
theorem wd_135 : wv_135 ∈ tb_all := wd_o1 (i := 135) rfl rfl
abbrev wv_136 : Jvm.Cond := (Jvm.Cond.classLink "RouteHouse$Waits" (9 : Nat) "RouteHouse$Waiting")
theorem wd_136 : wv_136 ∈ tb_all := wd_o1 (i := 136) rfl rfl
abbrev wv_138 : Jvm.Cond := (Jvm.Cond.instantiable "RouteHouse$Waiting" (13 : Nat))
theorem wd_138 : wv_138 ∈ tb_all := wd_o1 (i := 138) rfl rfl
abbrev wv_139 : Jvm.Cond := (Jvm.Cond.methodLink "RouteHouse$Waits" (17 : Nat) ({ cls := "RouteHouse$Waiting", name := "<init>", desc := "()V" } : Jvm.MethodName))
theorem wd_139 : wv_139 ∈ tb_all := wd_o1 (i := 139) rfl rfl
abbrev wv_140 : Jvm.Cond := (Jvm.Cond.instanceMethod ({ cls := "RouteHouse$Waiting", name := "<init>", desc := "()V" } : Jvm.MethodName))
theorem wd_140 : wv_140 ∈ tb_all := wd_o1 (i := 140) rfl rfl
abbrev wv_141 : Jvm.Cond := (Jvm.Cond.code ({ cls := "RouteHouse$Waiting", name := "<init>", desc := "()V" } : Jvm.MethodName) prog_7_method_1_code (1 : Nat) (Option.none : Option Jvm.ClassFile.FieldType))
theorem wd_141 : wv_141 ∈ tb_all := wd_o1 (i := 141) rfl rfl
abbrev wv_142 : Jvm.Cond := (Jvm.Cond.methodLink "RouteHouse$Waiting" (3 : Nat) ({ cls := "java/lang/Object", name := "<init>", desc := "()V" } : Jvm.MethodName))
theorem wd_142 : wv_142 ∈ tb_all := wd_o1 (i := 142) rfl rfl
abbrev wv_143 : Jvm.Cond := (Jvm.Cond.classLink "RouteHouse$Waiting" (9 : Nat) "RouteHouse$Packet")
theorem wd_143 : wv_143 ∈ tb_all := wd_o1 (i := 143) rfl rfl
abbrev wv_144 : Jvm.Cond := (Jvm.Cond.methodLink "RouteHouse$Waiting" (11 : Nat) ({ cls := "RouteHouse$Packet", name := "<init>", desc := "(I)V" } : Jvm.MethodName))
theorem wd_144 : wv_144 ∈ tb_all := wd_o1 (i := 144) rfl rfl
abbrev wv_145 : Jvm.Cond := (Jvm.Cond.fieldLink "RouteHouse$Waiting" (14 : Nat) "RouteHouse$Waiting" "first" "LRouteHouse$Packet;")
theorem wd_145 : wv_145 ∈ tb_all := wd_o1 (i := 145) rfl rfl
abbrev wv_146 : Jvm.Cond := (Jvm.Cond.fieldLink "RouteHouse" (305 : Nat) "RouteHouse$Waiting" "first" "LRouteHouse$Packet;")
theorem wd_146 : wv_146 ∈ tb_all := wd_o1 (i := 146) rfl rfl
abbrev wv_147 : Jvm.Cond := (Jvm.Cond.fieldLink "RouteHouse$Waiting" (20 : Nat) "RouteHouse$Waiting" "bytes" "[B")
theorem wd_147 : wv_147 ∈ tb_all := wd_o1 (i := 147) rfl rfl
abbrev wv_148 : Jvm.Cond := (Jvm.Cond.fieldLink "RouteHouse$Waiting" (24 : Nat) "RouteHouse$Waiting" "unitsThere" "[Z")
theorem wd_148 : wv_148 ∈ tb_all := wd_o1 (i := 148) rfl rfl
abbrev wv_149 : Jvm.Cond := (Jvm.Cond.fieldLink "RouteHouse$Waiting" (53 : Nat) "RouteHouse$Waiting" "hasFirst" "Z")
theorem wd_149 : wv_149 ∈ tb_all := wd_o1 (i := 149) rfl rfl
abbrev wv_150 : Jvm.Cond := (Jvm.Cond.fieldLink "RouteHouse" (300 : Nat) "RouteHouse$Waiting" "hasFirst" "Z")
theorem wd_150 : wv_150 ∈ tb_all := wd_o1 (i := 150) rfl rfl
abbrev wv_151 : Jvm.Cond := (Jvm.Cond.fieldLink "RouteHouse$Waiting" (94 : Nat) "RouteHouse$Waiting" "firstPort" "I")
theorem wd_151 : wv_151 ∈ tb_all := wd_o1 (i := 151) rfl rfl
abbrev wv_152 : Jvm.Cond := (Jvm.Cond.fieldLink "RouteHouse" (308 : Nat) "RouteHouse$Waiting" "firstPort" "I")
theorem wd_152 : wv_152 ∈ tb_all := wd_o1 (i := 152) rfl rfl
abbrev wv_153 : Jvm.Cond := (Jvm.Cond.fieldLink "RouteHouse$Waiting" (32 : Nat) "RouteHouse$Waiting" "source" "I")
theorem wd_153 : wv_153 ∈ tb_all := wd_o1 (i := 153) rfl rfl
abbrev wv_154 : Jvm.Cond := (Jvm.Cond.fieldLink "RouteHouse$Waiting" (38 : Nat) "RouteHouse$Waiting" "destination" "I")
theorem wd_154 : wv_154 ∈ tb_all := wd_o1 (i := 154) rfl rfl
abbrev wv_155 : Jvm.Cond := (Jvm.Cond.fieldLink "RouteHouse$Waiting" (43 : Nat) "RouteHouse$Waiting" "identity" "I")
theorem wd_155 : wv_155 ∈ tb_all := wd_o1 (i := 155) rfl rfl
abbrev wv_156 : Jvm.Cond := (Jvm.Cond.fieldLink "RouteHouse$Waiting" (48 : Nat) "RouteHouse$Waiting" "protocol" "I")
theorem wd_156 : wv_156 ∈ tb_all := wd_o1 (i := 156) rfl rfl
abbrev wv_157 : Jvm.Cond := (Jvm.Cond.fieldLink "RouteHouse$Waiting" (50 : Nat) "RouteHouse$Waiting" "since" "I")
theorem wd_157 : wv_157 ∈ tb_all := wd_o1 (i := 157) rfl rfl
abbrev wv_158 : Jvm.Cond := (Jvm.Cond.fieldLink "RouteHouse$Waits" (53 : Nat) "RouteHouse$Waiting" "since" "I")
theorem wd_158 : wv_158 ∈ tb_all := wd_o1 (i := 158) rfl rfl
abbrev wv_159 : Jvm.Cond := (Jvm.Cond.fieldLink "RouteHouse$Waiting" (57 : Nat) "RouteHouse$Waiting" "unitCount" "I")
theorem wd_159 : wv_159 ∈ tb_all := wd_o1 (i := 159) rfl rfl
abbrev wv_160 : Jvm.Cond := (Jvm.Cond.fieldLink "RouteHouse$Waiting" (60 : Nat) "RouteHouse$Waiting" "reach" "I")
theorem wd_160 : wv_160 ∈ tb_all := wd_o1 (i := 160) rfl rfl
abbrev wv_161 : Jvm.Cond := (Jvm.Cond.fieldLink "RouteHouse$Waiting" (63 : Nat) "RouteHouse$Waiting" "isEndKnown" "Z")
theorem wd_161 : wv_161 ∈ tb_all := wd_o1 (i := 161) rfl rfl
abbrev wv_162 : Jvm.Cond := (Jvm.Cond.laysFinal "RouteHouse$Waiting" "RouteHouse$Waiting" "first" "LRouteHouse$Packet;")
theorem wd_162 : wv_162 ∈ tb_all := wd_o1 (i := 162) rfl rfl
abbrev wv_164 : Jvm.Cond := (Jvm.Cond.laysFinal "RouteHouse$Waiting" "RouteHouse$Waiting" "bytes" "[B")
theorem wd_164 : wv_164 ∈ tb_all := wd_o1 (i := 164) rfl rfl
abbrev wv_166 : Jvm.Cond := (Jvm.Cond.laysFinal "RouteHouse$Waiting" "RouteHouse$Waiting" "unitsThere" "[Z")
theorem wd_166 : wv_166 ∈ tb_all := wd_o1 (i := 166) rfl rfl
abbrev wv_168 : Jvm.Cond := (Jvm.Cond.lays "RouteHouse$Waiting" "RouteHouse$Waiting" "hasFirst" "Z")
theorem wd_168 : wv_168 ∈ tb_all := wd_o1 (i := 168) rfl rfl
abbrev wv_170 : Jvm.Cond := (Jvm.Cond.lays "RouteHouse$Waiting" "RouteHouse$Waiting" "firstPort" "I")
theorem wd_170 : wv_170 ∈ tb_all := wd_o1 (i := 170) rfl rfl
abbrev wv_172 : Jvm.Cond := (Jvm.Cond.lays "RouteHouse$Waiting" "RouteHouse$Waiting" "source" "I")
theorem wd_172 : wv_172 ∈ tb_all := wd_o1 (i := 172) rfl rfl
abbrev wv_174 : Jvm.Cond := (Jvm.Cond.lays "RouteHouse$Waiting" "RouteHouse$Waiting" "destination" "I")
theorem wd_174 : wv_174 ∈ tb_all := wd_o1 (i := 174) rfl rfl
abbrev wv_176 : Jvm.Cond := (Jvm.Cond.lays "RouteHouse$Waiting" "RouteHouse$Waiting" "identity" "I")
theorem wd_176 : wv_176 ∈ tb_all := wd_o1 (i := 176) rfl rfl
abbrev wv_178 : Jvm.Cond := (Jvm.Cond.lays "RouteHouse$Waiting" "RouteHouse$Waiting" "protocol" "I")
theorem wd_178 : wv_178 ∈ tb_all := wd_o1 (i := 178) rfl rfl
abbrev wv_180 : Jvm.Cond := (Jvm.Cond.lays "RouteHouse$Waiting" "RouteHouse$Waiting" "since" "I")
theorem wd_180 : wv_180 ∈ tb_all := wd_o1 (i := 180) rfl rfl
abbrev wv_182 : Jvm.Cond := (Jvm.Cond.lays "RouteHouse$Waiting" "RouteHouse$Waiting" "unitCount" "I")
theorem wd_182 : wv_182 ∈ tb_all := wd_o1 (i := 182) rfl rfl
abbrev wv_184 : Jvm.Cond := (Jvm.Cond.lays "RouteHouse$Waiting" "RouteHouse$Waiting" "reach" "I")
theorem wd_184 : wv_184 ∈ tb_all := wd_o1 (i := 184) rfl rfl
abbrev wv_186 : Jvm.Cond := (Jvm.Cond.lays "RouteHouse$Waiting" "RouteHouse$Waiting" "isEndKnown" "Z")
theorem wd_186 : wv_186 ∈ tb_all := wd_o1 (i := 186) rfl rfl
abbrev wv_189 : Jvm.Cond := (Jvm.Cond.arrayClass Jvm.ClassFile.FieldType.boolean)
theorem wd_189 : wv_189 ∈ tb_all := wd_o1 (i := 189) rfl rfl
abbrev wv_190 : Jvm.Cond := (Jvm.Cond.fieldLink "RouteHouse$Waits" (11 : Nat) "RouteHouse$Waits" "oldestFirst" "[LRouteHouse$Waiting;")
theorem wd_190 : wv_190 ∈ tb_all := wd_o1 (i := 190) rfl rfl
abbrev wv_191 : Jvm.Cond := (Jvm.Cond.fieldLink "RouteHouse" (296 : Nat) "RouteHouse$Waits" "oldestFirst" "[LRouteHouse$Waiting;")
theorem wd_191 : wv_191 ∈ tb_all := wd_o1 (i := 191) rfl rfl
abbrev wv_192 : Jvm.Cond := (Jvm.Cond.fieldLink "RouteHouse$Waits" (49 : Nat) "RouteHouse$Waits" "count" "I")
theorem wd_192 : wv_192 ∈ tb_all := wd_o1 (i := 192) rfl rfl
abbrev wv_193 : Jvm.Cond := (Jvm.Cond.fieldLink "RouteHouse" (193 : Nat) "RouteHouse$Waits" "count" "I")
theorem wd_193 : wv_193 ∈ tb_all := wd_o1 (i := 193) rfl rfl
abbrev wv_194 : Jvm.Cond := (Jvm.Cond.laysFinal "RouteHouse$Waits" "RouteHouse$Waits" "oldestFirst" "[LRouteHouse$Waiting;")
theorem wd_194 : wv_194 ∈ tb_all := wd_o1 (i := 194) rfl rfl
abbrev wv_196 : Jvm.Cond := (Jvm.Cond.lays "RouteHouse$Waits" "RouteHouse$Waits" "count" "I")
theorem wd_196 : wv_196 ∈ tb_all := wd_o1 (i := 196) rfl rfl
abbrev wv_199 : Jvm.Cond := (Jvm.Cond.classLink "RouteHouse" (52 : Nat) "RouteHouse$Delivery")
theorem wd_199 : wv_199 ∈ tb_all := wd_o1 (i := 199) rfl rfl
abbrev wv_200 : Jvm.Cond := (Jvm.Cond.instantiable "RouteHouse$Delivery" (5 : Nat))
theorem wd_200 : wv_200 ∈ tb_all := wd_o1 (i := 200) rfl rfl
abbrev wv_201 : Jvm.Cond := (Jvm.Cond.methodLink "RouteHouse" (54 : Nat) ({ cls := "RouteHouse$Delivery", name := "<init>", desc := "()V" } : Jvm.MethodName))
theorem wd_201 : wv_201 ∈ tb_all := wd_o1 (i := 201) rfl rfl
abbrev wv_202 : Jvm.Cond := (Jvm.Cond.instanceMethod ({ cls := "RouteHouse$Delivery", name := "<init>", desc := "()V" } : Jvm.MethodName))
theorem wd_202 : wv_202 ∈ tb_all := wd_o1 (i := 202) rfl rfl
abbrev wv_203 : Jvm.Cond := (Jvm.Cond.code ({ cls := "RouteHouse$Delivery", name := "<init>", desc := "()V" } : Jvm.MethodName) prog_2_method_1_code (1 : Nat) (Option.none : Option Jvm.ClassFile.FieldType))
theorem wd_203 : wv_203 ∈ tb_all := wd_o1 (i := 203) rfl rfl
abbrev wv_204 : Jvm.Cond := (Jvm.Cond.methodLink "RouteHouse$Delivery" (3 : Nat) ({ cls := "java/lang/Object", name := "<init>", desc := "()V" } : Jvm.MethodName))
theorem wd_204 : wv_204 ∈ tb_all := wd_o1 (i := 204) rfl rfl
abbrev wv_205 : Jvm.Cond := (Jvm.Cond.fieldLink "RouteHouse$Delivery" (9 : Nat) "RouteHouse$Delivery" "bytes" "[B")
theorem wd_205 : wv_205 ∈ tb_all := wd_o1 (i := 205) rfl rfl
abbrev wv_206 : Jvm.Cond := (Jvm.Cond.fieldLink "RouteHouse" (192 : Nat) "RouteHouse$Delivery" "bytes" "[B")
theorem wd_206 : wv_206 ∈ tb_all := wd_o1 (i := 206) rfl rfl
abbrev wv_207 : Jvm.Cond := (Jvm.Cond.fieldLink "RouteHouse$Delivery" (15 : Nat) "RouteHouse$Delivery" "times" "I")
theorem wd_207 : wv_207 ∈ tb_all := wd_o1 (i := 207) rfl rfl
abbrev wv_208 : Jvm.Cond := (Jvm.Cond.fieldLink "RouteHouse" (200 : Nat) "RouteHouse$Delivery" "times" "I")
theorem wd_208 : wv_208 ∈ tb_all := wd_o1 (i := 208) rfl rfl
abbrev wv_209 : Jvm.Cond := (Jvm.Cond.fieldLink "RouteHouse$Delivery" (25 : Nat) "RouteHouse$Delivery" "source" "I")
theorem wd_209 : wv_209 ∈ tb_all := wd_o1 (i := 209) rfl rfl
abbrev wv_210 : Jvm.Cond := (Jvm.Cond.fieldLink "RouteHouse" (203 : Nat) "RouteHouse$Delivery" "source" "I")
theorem wd_210 : wv_210 ∈ tb_all := wd_o1 (i := 210) rfl rfl
abbrev wv_211 : Jvm.Cond := (Jvm.Cond.fieldLink "RouteHouse$Delivery" (30 : Nat) "RouteHouse$Delivery" "destination" "I")
theorem wd_211 : wv_211 ∈ tb_all := wd_o1 (i := 211) rfl rfl
abbrev wv_212 : Jvm.Cond := (Jvm.Cond.fieldLink "RouteHouse" (206 : Nat) "RouteHouse$Delivery" "destination" "I")
theorem wd_212 : wv_212 ∈ tb_all := wd_o1 (i := 212) rfl rfl
abbrev wv_213 : Jvm.Cond := (Jvm.Cond.fieldLink "RouteHouse$Delivery" (35 : Nat) "RouteHouse$Delivery" "count" "I")
theorem wd_213 : wv_213 ∈ tb_all := wd_o1 (i := 213) rfl rfl
abbrev wv_214 : Jvm.Cond := (Jvm.Cond.fieldLink "RouteHouse" (191 : Nat) "RouteHouse$Delivery" "count" "I")
theorem wd_214 : wv_214 ∈ tb_all := wd_o1 (i := 214) rfl rfl
abbrev wv_215 : Jvm.Cond := (Jvm.Cond.laysFinal "RouteHouse$Delivery" "RouteHouse$Delivery" "bytes" "[B")
theorem wd_215 : wv_215 ∈ tb_all := wd_o1 (i := 215) rfl rfl
abbrev wv_217 : Jvm.Cond := (Jvm.Cond.lays "RouteHouse$Delivery" "RouteHouse$Delivery" "times" "I")
theorem wd_217 : wv_217 ∈ tb_all := wd_o1 (i := 217) rfl rfl
abbrev wv_219 : Jvm.Cond := (Jvm.Cond.lays "RouteHouse$Delivery" "RouteHouse$Delivery" "source" "I")
theorem wd_219 : wv_219 ∈ tb_all := wd_o1 (i := 219) rfl rfl
abbrev wv_221 : Jvm.Cond := (Jvm.Cond.lays "RouteHouse$Delivery" "RouteHouse$Delivery" "destination" "I")
theorem wd_221 : wv_221 ∈ tb_all := wd_o1 (i := 221) rfl rfl
abbrev wv_223 : Jvm.Cond := (Jvm.Cond.lays "RouteHouse$Delivery" "RouteHouse$Delivery" "count" "I")
theorem wd_223 : wv_223 ∈ tb_all := wd_o1 (i := 223) rfl rfl
abbrev wv_226 : Jvm.Cond := (Jvm.Cond.fieldLink "RouteHouse" (11 : Nat) "RouteHouse" "ports" "[LRouteHouse$Port;")
theorem wd_226 : wv_226 ∈ tb_all := wd_o1 (i := 226) rfl rfl
abbrev wv_227 : Jvm.Cond := (Jvm.Cond.fieldLink "RouteHouse" (19 : Nat) "RouteHouse" "routes" "LRouteHouse$Routes;")
theorem wd_227 : wv_227 ∈ tb_all := wd_o1 (i := 227) rfl rfl
abbrev wv_228 : Jvm.Cond := (Jvm.Cond.fieldLink "RouteHouse" (28 : Nat) "RouteHouse" "tape" "LRouteHouse$Packet;")
theorem wd_228 : wv_228 ∈ tb_all := wd_o1 (i := 228) rfl rfl
abbrev wv_229 : Jvm.Cond := (Jvm.Cond.fieldLink "RouteHouse" (32 : Nat) "RouteHouse" "whole" "LRouteHouse$Packet;")
theorem wd_229 : wv_229 ∈ tb_all := wd_o1 (i := 229) rfl rfl
abbrev wv_230 : Jvm.Cond := (Jvm.Cond.fieldLink "RouteHouse" (35 : Nat) "RouteHouse" "reply" "LRouteHouse$Packet;")
theorem wd_230 : wv_230 ∈ tb_all := wd_o1 (i := 230) rfl rfl
abbrev wv_231 : Jvm.Cond := (Jvm.Cond.fieldLink "RouteHouse" (41 : Nat) "RouteHouse" "outbox" "LRouteHouse$Outbox;")
theorem wd_231 : wv_231 ∈ tb_all := wd_o1 (i := 231) rfl rfl
abbrev wv_232 : Jvm.Cond := (Jvm.Cond.fieldLink "RouteHouse" (48 : Nat) "RouteHouse" "waits" "LRouteHouse$Waits;")
theorem wd_232 : wv_232 ∈ tb_all := wd_o1 (i := 232) rfl rfl
abbrev wv_233 : Jvm.Cond := (Jvm.Cond.fieldLink "RouteHouse" (55 : Nat) "RouteHouse" "delivery" "LRouteHouse$Delivery;")
theorem wd_233 : wv_233 ∈ tb_all := wd_o1 (i := 233) rfl rfl
abbrev wv_234 : Jvm.Cond := (Jvm.Cond.fieldLink "RouteHouse" (59 : Nat) "RouteHouse" "tokens" "I")
theorem wd_234 : wv_234 ∈ tb_all := wd_o1 (i := 234) rfl rfl
abbrev wv_235 : Jvm.Cond := (Jvm.Cond.fieldLink "RouteHouse" (194 : Nat) "RouteHouse" "replies" "I")
theorem wd_235 : wv_235 ∈ tb_all := wd_o1 (i := 235) rfl rfl
abbrev wv_236 : Jvm.Cond := (Jvm.Cond.fieldLink "RouteHouse" (197 : Nat) "RouteHouse" "time" "I")
theorem wd_236 : wv_236 ∈ tb_all := wd_o1 (i := 236) rfl rfl
abbrev wv_237 : Jvm.Cond := (Jvm.Cond.laysFinal "RouteHouse" "RouteHouse" "ports" "[LRouteHouse$Port;")
theorem wd_237 : wv_237 ∈ tb_all := wd_o1 (i := 237) rfl rfl
abbrev wv_239 : Jvm.Cond := (Jvm.Cond.laysFinal "RouteHouse" "RouteHouse" "routes" "LRouteHouse$Routes;")
theorem wd_239 : wv_239 ∈ tb_all := wd_o1 (i := 239) rfl rfl
abbrev wv_241 : Jvm.Cond := (Jvm.Cond.laysFinal "RouteHouse" "RouteHouse" "tape" "LRouteHouse$Packet;")
theorem wd_241 : wv_241 ∈ tb_all := wd_o2 (i := 1) rfl rfl
abbrev wv_243 : Jvm.Cond := (Jvm.Cond.laysFinal "RouteHouse" "RouteHouse" "whole" "LRouteHouse$Packet;")
theorem wd_243 : wv_243 ∈ tb_all := wd_o2 (i := 3) rfl rfl
abbrev wv_245 : Jvm.Cond := (Jvm.Cond.laysFinal "RouteHouse" "RouteHouse" "reply" "LRouteHouse$Packet;")
theorem wd_245 : wv_245 ∈ tb_all := wd_o2 (i := 5) rfl rfl
abbrev wv_247 : Jvm.Cond := (Jvm.Cond.laysFinal "RouteHouse" "RouteHouse" "outbox" "LRouteHouse$Outbox;")
theorem wd_247 : wv_247 ∈ tb_all := wd_o2 (i := 7) rfl rfl
abbrev wv_249 : Jvm.Cond := (Jvm.Cond.laysFinal "RouteHouse" "RouteHouse" "waits" "LRouteHouse$Waits;")
theorem wd_249 : wv_249 ∈ tb_all := wd_o2 (i := 9) rfl rfl
abbrev wv_251 : Jvm.Cond := (Jvm.Cond.laysFinal "RouteHouse" "RouteHouse" "delivery" "LRouteHouse$Delivery;")
theorem wd_251 : wv_251 ∈ tb_all := wd_o2 (i := 11) rfl rfl
abbrev wv_253 : Jvm.Cond := (Jvm.Cond.lays "RouteHouse" "RouteHouse" "tokens" "I")
theorem wd_253 : wv_253 ∈ tb_all := wd_o2 (i := 13) rfl rfl
abbrev wv_255 : Jvm.Cond := (Jvm.Cond.lays "RouteHouse" "RouteHouse" "replies" "I")
theorem wd_255 : wv_255 ∈ tb_all := wd_o2 (i := 15) rfl rfl
abbrev wv_257 : Jvm.Cond := (Jvm.Cond.lays "RouteHouse" "RouteHouse" "time" "I")
theorem wd_257 : wv_257 ∈ tb_all := wd_o2 (i := 17) rfl rfl
abbrev wv_273 : Jvm.Cond := (Jvm.Cond.methodLink "RouteHouse" (63 : Nat) ({ cls := "RouteHouse", name := "refuseStrangePort", desc := "(I)V" } : Jvm.MethodName))
theorem wd_273 : wv_273 ∈ tb_all := wd_o2 (i := 33) rfl rfl
abbrev wv_275 : Jvm.Cond := (Jvm.Cond.instanceMethod ({ cls := "RouteHouse", name := "refuseStrangePort", desc := "(I)V" } : Jvm.MethodName))
theorem wd_275 : wv_275 ∈ tb_all := wd_o2 (i := 35) rfl rfl
abbrev wv_276 : Jvm.Cond := (Jvm.Cond.code ({ cls := "RouteHouse", name := "refuseStrangePort", desc := "(I)V" } : Jvm.MethodName) prog_1_method_17_code (2 : Nat) (Option.none : Option Jvm.ClassFile.FieldType))
theorem wd_276 : wv_276 ∈ tb_all := wd_o2 (i := 36) rfl rfl
abbrev wv_376 : Jvm.Cond := (Jvm.Cond.methodLink "RouteHouse" (83 : Nat) ({ cls := "RouteHouse", name := "refuseStrangeBits", desc := "(I)V" } : Jvm.MethodName))
theorem wd_376 : wv_376 ∈ tb_all := wd_o2 (i := 136) rfl rfl
abbrev wv_378 : Jvm.Cond := (Jvm.Cond.instanceMethod ({ cls := "RouteHouse", name := "refuseStrangeBits", desc := "(I)V" } : Jvm.MethodName))
theorem wd_378 : wv_378 ∈ tb_all := wd_o2 (i := 138) rfl rfl
abbrev wv_379 : Jvm.Cond := (Jvm.Cond.code ({ cls := "RouteHouse", name := "refuseStrangeBits", desc := "(I)V" } : Jvm.MethodName) prog_1_method_19_code (2 : Nat) (Option.none : Option Jvm.ClassFile.FieldType))
theorem wd_379 : wv_379 ∈ tb_all := wd_o2 (i := 139) rfl rfl
abbrev wv_381 : Jvm.Cond := (Jvm.Cond.methodLink "RouteHouse" (86 : Nat) ({ cls := "RouteHouse$Routes", name := "find", desc := "(II)I" } : Jvm.MethodName))
theorem wd_381 : wv_381 ∈ tb_all := wd_o2 (i := 141) rfl rfl
abbrev wv_382 : Jvm.Cond := (Jvm.Cond.instanceMethod ({ cls := "RouteHouse$Routes", name := "find", desc := "(II)I" } : Jvm.MethodName))
theorem wd_382 : wv_382 ∈ tb_all := wd_o2 (i := 142) rfl rfl
abbrev wv_383 : Jvm.Cond := (Jvm.Cond.selects "RouteHouse$Routes" ({ cls := "RouteHouse$Routes", name := "find", desc := "(II)I" } : Jvm.MethodName) ({ cls := "RouteHouse$Routes", name := "find", desc := "(II)I" } : Jvm.MethodName))
theorem wd_383 : wv_383 ∈ tb_all := wd_o2 (i := 143) rfl rfl
abbrev wv_384 : Jvm.Cond := (Jvm.Cond.code ({ cls := "RouteHouse$Routes", name := "find", desc := "(II)I" } : Jvm.MethodName) prog_6_method_3_code (5 : Nat) (Option.some Jvm.ClassFile.FieldType.int))
theorem wd_384 : wv_384 ∈ tb_all := wd_o2 (i := 144) rfl rfl
abbrev wv_385 : Jvm.Cond := (Jvm.Cond.methodLink "RouteHouse$Routes" (24 : Nat) ({ cls := "RouteHouse$Routes", name := "beginning", desc := "(II)I" } : Jvm.MethodName))
theorem wd_385 : wv_385 ∈ tb_all := wd_o2 (i := 145) rfl rfl
abbrev wv_386 : Jvm.Cond := (Jvm.Cond.static ({ cls := "RouteHouse$Routes", name := "beginning", desc := "(II)I" } : Jvm.MethodName))
theorem wd_386 : wv_386 ∈ tb_all := wd_o2 (i := 146) rfl rfl
abbrev wv_387 : Jvm.Cond := (Jvm.Cond.code ({ cls := "RouteHouse$Routes", name := "beginning", desc := "(II)I" } : Jvm.MethodName) prog_6_method_2_code (2 : Nat) (Option.some Jvm.ClassFile.FieldType.int))
theorem wd_387 : wv_387 ∈ tb_all := wd_o2 (i := 147) rfl rfl
abbrev wv_404 : Jvm.Cond := (Jvm.Cond.methodLink "RouteHouse" (98 : Nat) ({ cls := "RouteHouse$Routes", name := "put", desc := "(IIIII)V" } : Jvm.MethodName))
theorem wd_404 : wv_404 ∈ tb_all := wd_o2 (i := 164) rfl rfl
abbrev wv_405 : Jvm.Cond := (Jvm.Cond.instanceMethod ({ cls := "RouteHouse$Routes", name := "put", desc := "(IIIII)V" } : Jvm.MethodName))
theorem wd_405 : wv_405 ∈ tb_all := wd_o2 (i := 165) rfl rfl
abbrev wv_406 : Jvm.Cond := (Jvm.Cond.selects "RouteHouse$Routes" ({ cls := "RouteHouse$Routes", name := "put", desc := "(IIIII)V" } : Jvm.MethodName) ({ cls := "RouteHouse$Routes", name := "put", desc := "(IIIII)V" } : Jvm.MethodName))
theorem wd_406 : wv_406 ∈ tb_all := wd_o2 (i := 166) rfl rfl
abbrev wv_407 : Jvm.Cond := (Jvm.Cond.code ({ cls := "RouteHouse$Routes", name := "put", desc := "(IIIII)V" } : Jvm.MethodName) prog_6_method_5_code (7 : Nat) (Option.none : Option Jvm.ClassFile.FieldType))
theorem wd_407 : wv_407 ∈ tb_all := wd_o2 (i := 167) rfl rfl
abbrev wv_415 : Jvm.Cond := (Jvm.Cond.methodLink "RouteHouse" (102 : Nat) ({ cls := "RouteHouse$Routes", name := "remove", desc := "(I)V" } : Jvm.MethodName))
theorem wd_415 : wv_415 ∈ tb_all := wd_o2 (i := 175) rfl rfl
abbrev wv_416 : Jvm.Cond := (Jvm.Cond.instanceMethod ({ cls := "RouteHouse$Routes", name := "remove", desc := "(I)V" } : Jvm.MethodName))
theorem wd_416 : wv_416 ∈ tb_all := wd_o2 (i := 176) rfl rfl
abbrev wv_417 : Jvm.Cond := (Jvm.Cond.selects "RouteHouse$Routes" ({ cls := "RouteHouse$Routes", name := "remove", desc := "(I)V" } : Jvm.MethodName) ({ cls := "RouteHouse$Routes", name := "remove", desc := "(I)V" } : Jvm.MethodName))
theorem wd_417 : wv_417 ∈ tb_all := wd_o2 (i := 177) rfl rfl
abbrev wv_418 : Jvm.Cond := (Jvm.Cond.code ({ cls := "RouteHouse$Routes", name := "remove", desc := "(I)V" } : Jvm.MethodName) prog_6_method_6_code (2 : Nat) (Option.none : Option Jvm.ClassFile.FieldType))
theorem wd_418 : wv_418 ∈ tb_all := wd_o2 (i := 178) rfl rfl
abbrev wv_427 : Jvm.Cond := (Jvm.Cond.methodLink "RouteHouse" (107 : Nat) ({ cls := "RouteHouse$Routes", name := "longest", desc := "(I)I" } : Jvm.MethodName))
theorem wd_427 : wv_427 ∈ tb_all := wd_o2 (i := 187) rfl rfl
abbrev wv_428 : Jvm.Cond := (Jvm.Cond.instanceMethod ({ cls := "RouteHouse$Routes", name := "longest", desc := "(I)I" } : Jvm.MethodName))
theorem wd_428 : wv_428 ∈ tb_all := wd_o2 (i := 188) rfl rfl
abbrev wv_429 : Jvm.Cond := (Jvm.Cond.selects "RouteHouse$Routes" ({ cls := "RouteHouse$Routes", name := "longest", desc := "(I)I" } : Jvm.MethodName) ({ cls := "RouteHouse$Routes", name := "longest", desc := "(I)I" } : Jvm.MethodName))
theorem wd_429 : wv_429 ∈ tb_all := wd_o2 (i := 189) rfl rfl
abbrev wv_430 : Jvm.Cond := (Jvm.Cond.code ({ cls := "RouteHouse$Routes", name := "longest", desc := "(I)I" } : Jvm.MethodName) prog_6_method_4_code (5 : Nat) (Option.some Jvm.ClassFile.FieldType.int))
theorem wd_430 : wv_430 ∈ tb_all := wd_o2 (i := 190) rfl rfl
abbrev wv_455 : Jvm.Cond := (Jvm.Cond.methodLink "RouteHouse" (131 : Nat) ({ cls := "RouteHouse$Wire", name := "setFour", desc := "([BII)V" } : Jvm.MethodName))
theorem wd_455 : wv_455 ∈ tb_all := wd_o2 (i := 215) rfl rfl
abbrev wv_456 : Jvm.Cond := (Jvm.Cond.static ({ cls := "RouteHouse$Wire", name := "setFour", desc := "([BII)V" } : Jvm.MethodName))
theorem wd_456 : wv_456 ∈ tb_all := wd_o2 (i := 216) rfl rfl
abbrev wv_457 : Jvm.Cond := (Jvm.Cond.code ({ cls := "RouteHouse$Wire", name := "setFour", desc := "([BII)V" } : Jvm.MethodName) prog_9_method_5_code (3 : Nat) (Option.none : Option Jvm.ClassFile.FieldType))
theorem wd_457 : wv_457 ∈ tb_all := wd_o2 (i := 217) rfl rfl
abbrev wv_474 : Jvm.Cond := (Jvm.Cond.methodLink "RouteHouse" (141 : Nat) ({ cls := "RouteHouse$Wire", name := "sumOf", desc := "([BIII)I" } : Jvm.MethodName))
theorem wd_474 : wv_474 ∈ tb_all := wd_o2 (i := 234) rfl rfl
abbrev wv_475 : Jvm.Cond := (Jvm.Cond.static ({ cls := "RouteHouse$Wire", name := "sumOf", desc := "([BIII)I" } : Jvm.MethodName))
theorem wd_475 : wv_475 ∈ tb_all := wd_o2 (i := 235) rfl rfl
abbrev wv_476 : Jvm.Cond := (Jvm.Cond.code ({ cls := "RouteHouse$Wire", name := "sumOf", desc := "([BIII)I" } : Jvm.MethodName) prog_9_method_6_code (7 : Nat) (Option.some Jvm.ClassFile.FieldType.int))
theorem wd_476 : wv_476 ∈ tb_all := wd_o2 (i := 236) rfl rfl
abbrev wv_477 : Jvm.Cond := (Jvm.Cond.constant "RouteHouse$Wire" (7 : Nat) (65535 : Int32))
theorem wd_477 : wv_477 ∈ tb_all := wd_o2 (i := 237) rfl rfl
abbrev wv_478 : Jvm.Cond := (Jvm.Cond.methodLink "RouteHouse" (145 : Nat) ({ cls := "RouteHouse$Wire", name := "setTwo", desc := "([BII)V" } : Jvm.MethodName))
theorem wd_478 : wv_478 ∈ tb_all := wd_o2 (i := 238) rfl rfl
abbrev wv_479 : Jvm.Cond := (Jvm.Cond.static ({ cls := "RouteHouse$Wire", name := "setTwo", desc := "([BII)V" } : Jvm.MethodName))
theorem wd_479 : wv_479 ∈ tb_all := wd_o2 (i := 239) rfl rfl
abbrev wv_480 : Jvm.Cond := (Jvm.Cond.code ({ cls := "RouteHouse$Wire", name := "setTwo", desc := "([BII)V" } : Jvm.MethodName) prog_9_method_4_code (3 : Nat) (Option.none : Option Jvm.ClassFile.FieldType))
theorem wd_480 : wv_480 ∈ tb_all := wd_o3 (i := 0) rfl rfl
abbrev wv_488 : Jvm.Cond := (Jvm.Cond.methodLink "RouteHouse" (148 : Nat) ({ cls := "RouteHouse", name := "refuseStrangePacket", desc := "(I)V" } : Jvm.MethodName))
theorem wd_488 : wv_488 ∈ tb_all := wd_o3 (i := 8) rfl rfl
abbrev wv_490 : Jvm.Cond := (Jvm.Cond.instanceMethod ({ cls := "RouteHouse", name := "refuseStrangePacket", desc := "(I)V" } : Jvm.MethodName))
theorem wd_490 : wv_490 ∈ tb_all := wd_o3 (i := 10) rfl rfl
abbrev wv_491 : Jvm.Cond := (Jvm.Cond.code ({ cls := "RouteHouse", name := "refuseStrangePacket", desc := "(I)V" } : Jvm.MethodName) prog_1_method_18_code (2 : Nat) (Option.none : Option Jvm.ClassFile.FieldType))
theorem wd_491 : wv_491 ∈ tb_all := wd_o3 (i := 11) rfl rfl
abbrev wv_493 : Jvm.Cond := (Jvm.Cond.methodLink "RouteHouse" (160 : Nat) ({ cls := "java/lang/System", name := "arraycopy", desc := "(Ljava/lang/Object;ILjava/lang/Object;II)V" } : Jvm.MethodName))
theorem wd_493 : wv_493 ∈ tb_all := wd_o3 (i := 13) rfl rfl
abbrev wv_494 : Jvm.Cond := (Jvm.Cond.static ({ cls := "java/lang/System", name := "arraycopy", desc := "(Ljava/lang/Object;ILjava/lang/Object;II)V" } : Jvm.MethodName))
theorem wd_494 : wv_494 ∈ tb_all := wd_o3 (i := 14) rfl rfl
abbrev wv_495 : Jvm.Cond := (Jvm.Cond.native ({ cls := "java/lang/System", name := "arraycopy", desc := "(Ljava/lang/Object;ILjava/lang/Object;II)V" } : Jvm.MethodName))
theorem wd_495 : wv_495 ∈ tb_all := wd_o3 (i := 15) rfl rfl
abbrev wv_503 : Jvm.Cond := (Jvm.Cond.methodLink "RouteHouse" (166 : Nat) ({ cls := "RouteHouse$Outbox", name := "empty", desc := "()V" } : Jvm.MethodName))
theorem wd_503 : wv_503 ∈ tb_all := wd_o3 (i := 23) rfl rfl
abbrev wv_504 : Jvm.Cond := (Jvm.Cond.instanceMethod ({ cls := "RouteHouse$Outbox", name := "empty", desc := "()V" } : Jvm.MethodName))
theorem wd_504 : wv_504 ∈ tb_all := wd_o3 (i := 24) rfl rfl
abbrev wv_505 : Jvm.Cond := (Jvm.Cond.selects "RouteHouse$Outbox" ({ cls := "RouteHouse$Outbox", name := "empty", desc := "()V" } : Jvm.MethodName) ({ cls := "RouteHouse$Outbox", name := "empty", desc := "()V" } : Jvm.MethodName))
theorem wd_505 : wv_505 ∈ tb_all := wd_o3 (i := 25) rfl rfl
abbrev wv_506 : Jvm.Cond := (Jvm.Cond.code ({ cls := "RouteHouse$Outbox", name := "empty", desc := "()V" } : Jvm.MethodName) prog_3_method_2_code (1 : Nat) (Option.none : Option Jvm.ClassFile.FieldType))
theorem wd_506 : wv_506 ∈ tb_all := wd_o3 (i := 26) rfl rfl
abbrev wv_507 : Jvm.Cond := (Jvm.Cond.methodLink "RouteHouse" (169 : Nat) ({ cls := "RouteHouse$Packet", name := "headerFault", desc := "()I" } : Jvm.MethodName))
theorem wd_507 : wv_507 ∈ tb_all := wd_o3 (i := 27) rfl rfl
abbrev wv_508 : Jvm.Cond := (Jvm.Cond.instanceMethod ({ cls := "RouteHouse$Packet", name := "headerFault", desc := "()I" } : Jvm.MethodName))
theorem wd_508 : wv_508 ∈ tb_all := wd_o3 (i := 28) rfl rfl
abbrev wv_509 : Jvm.Cond := (Jvm.Cond.selects "RouteHouse$Packet" ({ cls := "RouteHouse$Packet", name := "headerFault", desc := "()I" } : Jvm.MethodName) ({ cls := "RouteHouse$Packet", name := "headerFault", desc := "()I" } : Jvm.MethodName))
theorem wd_509 : wv_509 ∈ tb_all := wd_o3 (i := 29) rfl rfl
abbrev wv_510 : Jvm.Cond := (Jvm.Cond.code ({ cls := "RouteHouse$Packet", name := "headerFault", desc := "()I" } : Jvm.MethodName) prog_4_method_14_code (4 : Nat) (Option.some Jvm.ClassFile.FieldType.int))
theorem wd_510 : wv_510 ∈ tb_all := wd_o3 (i := 30) rfl rfl
abbrev wv_511 : Jvm.Cond := (Jvm.Cond.methodLink "RouteHouse$Packet" (28 : Nat) ({ cls := "RouteHouse$Packet", name := "headerLength", desc := "()I" } : Jvm.MethodName))
theorem wd_511 : wv_511 ∈ tb_all := wd_o3 (i := 31) rfl rfl
abbrev wv_512 : Jvm.Cond := (Jvm.Cond.instanceMethod ({ cls := "RouteHouse$Packet", name := "headerLength", desc := "()I" } : Jvm.MethodName))
theorem wd_512 : wv_512 ∈ tb_all := wd_o3 (i := 32) rfl rfl
abbrev wv_513 : Jvm.Cond := (Jvm.Cond.selects "RouteHouse$Packet" ({ cls := "RouteHouse$Packet", name := "headerLength", desc := "()I" } : Jvm.MethodName) ({ cls := "RouteHouse$Packet", name := "headerLength", desc := "()I" } : Jvm.MethodName))
theorem wd_513 : wv_513 ∈ tb_all := wd_o3 (i := 33) rfl rfl
abbrev wv_514 : Jvm.Cond := (Jvm.Cond.code ({ cls := "RouteHouse$Packet", name := "headerLength", desc := "()I" } : Jvm.MethodName) prog_4_method_2_code (1 : Nat) (Option.some Jvm.ClassFile.FieldType.int))
theorem wd_514 : wv_514 ∈ tb_all := wd_o3 (i := 34) rfl rfl
abbrev wv_515 : Jvm.Cond := (Jvm.Cond.methodLink "RouteHouse$Packet" (32 : Nat) ({ cls := "RouteHouse$Packet", name := "length", desc := "()I" } : Jvm.MethodName))
theorem wd_515 : wv_515 ∈ tb_all := wd_o3 (i := 35) rfl rfl
abbrev wv_516 : Jvm.Cond := (Jvm.Cond.instanceMethod ({ cls := "RouteHouse$Packet", name := "length", desc := "()I" } : Jvm.MethodName))
theorem wd_516 : wv_516 ∈ tb_all := wd_o3 (i := 36) rfl rfl
abbrev wv_517 : Jvm.Cond := (Jvm.Cond.selects "RouteHouse$Packet" ({ cls := "RouteHouse$Packet", name := "length", desc := "()I" } : Jvm.MethodName) ({ cls := "RouteHouse$Packet", name := "length", desc := "()I" } : Jvm.MethodName))
theorem wd_517 : wv_517 ∈ tb_all := wd_o3 (i := 37) rfl rfl
abbrev wv_518 : Jvm.Cond := (Jvm.Cond.code ({ cls := "RouteHouse$Packet", name := "length", desc := "()I" } : Jvm.MethodName) prog_4_method_3_code (1 : Nat) (Option.some Jvm.ClassFile.FieldType.int))
theorem wd_518 : wv_518 ∈ tb_all := wd_o3 (i := 38) rfl rfl
abbrev wv_519 : Jvm.Cond := (Jvm.Cond.methodLink "RouteHouse$Packet" (15 : Nat) ({ cls := "RouteHouse$Wire", name := "two", desc := "([BI)I" } : Jvm.MethodName))
theorem wd_519 : wv_519 ∈ tb_all := wd_o3 (i := 39) rfl rfl
abbrev wv_520 : Jvm.Cond := (Jvm.Cond.static ({ cls := "RouteHouse$Wire", name := "two", desc := "([BI)I" } : Jvm.MethodName))
theorem wd_520 : wv_520 ∈ tb_all := wd_o3 (i := 40) rfl rfl
abbrev wv_521 : Jvm.Cond := (Jvm.Cond.code ({ cls := "RouteHouse$Wire", name := "two", desc := "([BI)I" } : Jvm.MethodName) prog_9_method_2_code (2 : Nat) (Option.some Jvm.ClassFile.FieldType.int))
theorem wd_521 : wv_521 ∈ tb_all := wd_o3 (i := 41) rfl rfl
abbrev wv_522 : Jvm.Cond := (Jvm.Cond.methodLink "RouteHouse$Packet" (35 : Nat) ({ cls := "RouteHouse$Wire", name := "sumOf", desc := "([BIII)I" } : Jvm.MethodName))
theorem wd_522 : wv_522 ∈ tb_all := wd_o3 (i := 42) rfl rfl
abbrev wv_523 : Jvm.Cond := (Jvm.Cond.methodLink "RouteHouse$Packet" (39 : Nat) ({ cls := "RouteHouse$Packet", name := "dataStart", desc := "()I" } : Jvm.MethodName))
theorem wd_523 : wv_523 ∈ tb_all := wd_o3 (i := 43) rfl rfl
abbrev wv_524 : Jvm.Cond := (Jvm.Cond.instanceMethod ({ cls := "RouteHouse$Packet", name := "dataStart", desc := "()I" } : Jvm.MethodName))
theorem wd_524 : wv_524 ∈ tb_all := wd_o3 (i := 44) rfl rfl
abbrev wv_525 : Jvm.Cond := (Jvm.Cond.selects "RouteHouse$Packet" ({ cls := "RouteHouse$Packet", name := "dataStart", desc := "()I" } : Jvm.MethodName) ({ cls := "RouteHouse$Packet", name := "dataStart", desc := "()I" } : Jvm.MethodName))
theorem wd_525 : wv_525 ∈ tb_all := wd_o3 (i := 45) rfl rfl
abbrev wv_526 : Jvm.Cond := (Jvm.Cond.code ({ cls := "RouteHouse$Packet", name := "dataStart", desc := "()I" } : Jvm.MethodName) prog_4_method_9_code (1 : Nat) (Option.some Jvm.ClassFile.FieldType.int))
theorem wd_526 : wv_526 ∈ tb_all := wd_o3 (i := 46) rfl rfl
abbrev wv_527 : Jvm.Cond := (Jvm.Cond.methodLink "RouteHouse$Packet" (42 : Nat) ({ cls := "RouteHouse$Packet", name := "dataLength", desc := "()I" } : Jvm.MethodName))
theorem wd_527 : wv_527 ∈ tb_all := wd_o3 (i := 47) rfl rfl
abbrev wv_528 : Jvm.Cond := (Jvm.Cond.instanceMethod ({ cls := "RouteHouse$Packet", name := "dataLength", desc := "()I" } : Jvm.MethodName))
theorem wd_528 : wv_528 ∈ tb_all := wd_o3 (i := 48) rfl rfl
abbrev wv_529 : Jvm.Cond := (Jvm.Cond.selects "RouteHouse$Packet" ({ cls := "RouteHouse$Packet", name := "dataLength", desc := "()I" } : Jvm.MethodName) ({ cls := "RouteHouse$Packet", name := "dataLength", desc := "()I" } : Jvm.MethodName))
theorem wd_529 : wv_529 ∈ tb_all := wd_o3 (i := 49) rfl rfl
abbrev wv_530 : Jvm.Cond := (Jvm.Cond.code ({ cls := "RouteHouse$Packet", name := "dataLength", desc := "()I" } : Jvm.MethodName) prog_4_method_4_code (1 : Nat) (Option.some Jvm.ClassFile.FieldType.int))
theorem wd_530 : wv_530 ∈ tb_all := wd_o3 (i := 50) rfl rfl
abbrev wv_531 : Jvm.Cond := (Jvm.Cond.constant "RouteHouse$Packet" (45 : Nat) (65535 : Int32))
theorem wd_531 : wv_531 ∈ tb_all := wd_o3 (i := 51) rfl rfl
abbrev wv_532 : Jvm.Cond := (Jvm.Cond.methodLink "RouteHouse" (173 : Nat) ({ cls := "RouteHouse", name := "takeSound", desc := "(I)I" } : Jvm.MethodName))
theorem wd_532 : wv_532 ∈ tb_all := wd_o3 (i := 52) rfl rfl
abbrev wv_534 : Jvm.Cond := (Jvm.Cond.instanceMethod ({ cls := "RouteHouse", name := "takeSound", desc := "(I)I" } : Jvm.MethodName))
theorem wd_534 : wv_534 ∈ tb_all := wd_o3 (i := 54) rfl rfl
abbrev wv_535 : Jvm.Cond := (Jvm.Cond.code ({ cls := "RouteHouse", name := "takeSound", desc := "(I)I" } : Jvm.MethodName) prog_1_method_20_code (3 : Nat) (Option.some Jvm.ClassFile.FieldType.int))
theorem wd_535 : wv_535 ∈ tb_all := wd_o3 (i := 55) rfl rfl
abbrev wv_536 : Jvm.Cond := (Jvm.Cond.methodLink "RouteHouse" (217 : Nat) ({ cls := "RouteHouse$Packet", name := "wrongOption", desc := "()I" } : Jvm.MethodName))
theorem wd_536 : wv_536 ∈ tb_all := wd_o3 (i := 56) rfl rfl
abbrev wv_537 : Jvm.Cond := (Jvm.Cond.instanceMethod ({ cls := "RouteHouse$Packet", name := "wrongOption", desc := "()I" } : Jvm.MethodName))
theorem wd_537 : wv_537 ∈ tb_all := wd_o3 (i := 57) rfl rfl
abbrev wv_538 : Jvm.Cond := (Jvm.Cond.selects "RouteHouse$Packet" ({ cls := "RouteHouse$Packet", name := "wrongOption", desc := "()I" } : Jvm.MethodName) ({ cls := "RouteHouse$Packet", name := "wrongOption", desc := "()I" } : Jvm.MethodName))
theorem wd_538 : wv_538 ∈ tb_all := wd_o3 (i := 58) rfl rfl
abbrev wv_539 : Jvm.Cond := (Jvm.Cond.code ({ cls := "RouteHouse$Packet", name := "wrongOption", desc := "()I" } : Jvm.MethodName) prog_4_method_15_code (4 : Nat) (Option.some Jvm.ClassFile.FieldType.int))
theorem wd_539 : wv_539 ∈ tb_all := wd_o3 (i := 59) rfl rfl
abbrev wv_540 : Jvm.Cond := (Jvm.Cond.methodLink "RouteHouse$Packet" (46 : Nat) ({ cls := "RouteHouse$Packet", name := "optionSize", desc := "(II)I" } : Jvm.MethodName))
theorem wd_540 : wv_540 ∈ tb_all := wd_o3 (i := 60) rfl rfl
abbrev wv_541 : Jvm.Cond := (Jvm.Cond.instanceMethod ({ cls := "RouteHouse$Packet", name := "optionSize", desc := "(II)I" } : Jvm.MethodName))
theorem wd_541 : wv_541 ∈ tb_all := wd_o3 (i := 61) rfl rfl
abbrev wv_542 : Jvm.Cond := (Jvm.Cond.selects "RouteHouse$Packet" ({ cls := "RouteHouse$Packet", name := "optionSize", desc := "(II)I" } : Jvm.MethodName) ({ cls := "RouteHouse$Packet", name := "optionSize", desc := "(II)I" } : Jvm.MethodName))
theorem wd_542 : wv_542 ∈ tb_all := wd_o3 (i := 62) rfl rfl
abbrev wv_543 : Jvm.Cond := (Jvm.Cond.code ({ cls := "RouteHouse$Packet", name := "optionSize", desc := "(II)I" } : Jvm.MethodName) prog_4_method_16_code (4 : Nat) (Option.some Jvm.ClassFile.FieldType.int))
theorem wd_543 : wv_543 ∈ tb_all := wd_o3 (i := 63) rfl rfl
abbrev wv_544 : Jvm.Cond := (Jvm.Cond.methodLink "RouteHouse" (220 : Nat) ({ cls := "RouteHouse", name := "sendError", desc := "(LRouteHouse$Packet;IIII)V" } : Jvm.MethodName))
theorem wd_544 : wv_544 ∈ tb_all := wd_o3 (i := 64) rfl rfl
abbrev wv_546 : Jvm.Cond := (Jvm.Cond.instanceMethod ({ cls := "RouteHouse", name := "sendError", desc := "(LRouteHouse$Packet;IIII)V" } : Jvm.MethodName))
theorem wd_546 : wv_546 ∈ tb_all := wd_o3 (i := 66) rfl rfl
abbrev wv_547 : Jvm.Cond := (Jvm.Cond.code ({ cls := "RouteHouse", name := "sendError", desc := "(LRouteHouse$Packet;IIII)V" } : Jvm.MethodName) prog_1_method_24_code (7 : Nat) (Option.none : Option Jvm.ClassFile.FieldType))
theorem wd_547 : wv_547 ∈ tb_all := wd_o3 (i := 67) rfl rfl
abbrev wv_548 : Jvm.Cond := (Jvm.Cond.methodLink "RouteHouse" (271 : Nat) ({ cls := "RouteHouse$Packet", name := "mayHaveError", desc := "()Z" } : Jvm.MethodName))
theorem wd_548 : wv_548 ∈ tb_all := wd_o3 (i := 68) rfl rfl
abbrev wv_549 : Jvm.Cond := (Jvm.Cond.instanceMethod ({ cls := "RouteHouse$Packet", name := "mayHaveError", desc := "()Z" } : Jvm.MethodName))
theorem wd_549 : wv_549 ∈ tb_all := wd_o3 (i := 69) rfl rfl
abbrev wv_550 : Jvm.Cond := (Jvm.Cond.selects "RouteHouse$Packet" ({ cls := "RouteHouse$Packet", name := "mayHaveError", desc := "()Z" } : Jvm.MethodName) ({ cls := "RouteHouse$Packet", name := "mayHaveError", desc := "()Z" } : Jvm.MethodName))
theorem wd_550 : wv_550 ∈ tb_all := wd_o3 (i := 70) rfl rfl
abbrev wv_551 : Jvm.Cond := (Jvm.Cond.code ({ cls := "RouteHouse$Packet", name := "mayHaveError", desc := "()Z" } : Jvm.MethodName) prog_4_method_18_code (2 : Nat) (Option.some Jvm.ClassFile.FieldType.boolean))
theorem wd_551 : wv_551 ∈ tb_all := wd_o3 (i := 71) rfl rfl
abbrev wv_552 : Jvm.Cond := (Jvm.Cond.methodLink "RouteHouse$Packet" (50 : Nat) ({ cls := "RouteHouse$Packet", name := "source", desc := "()I" } : Jvm.MethodName))
theorem wd_552 : wv_552 ∈ tb_all := wd_o3 (i := 72) rfl rfl
abbrev wv_553 : Jvm.Cond := (Jvm.Cond.instanceMethod ({ cls := "RouteHouse$Packet", name := "source", desc := "()I" } : Jvm.MethodName))
theorem wd_553 : wv_553 ∈ tb_all := wd_o3 (i := 73) rfl rfl
abbrev wv_554 : Jvm.Cond := (Jvm.Cond.selects "RouteHouse$Packet" ({ cls := "RouteHouse$Packet", name := "source", desc := "()I" } : Jvm.MethodName) ({ cls := "RouteHouse$Packet", name := "source", desc := "()I" } : Jvm.MethodName))
theorem wd_554 : wv_554 ∈ tb_all := wd_o3 (i := 74) rfl rfl
abbrev wv_555 : Jvm.Cond := (Jvm.Cond.code ({ cls := "RouteHouse$Packet", name := "source", desc := "()I" } : Jvm.MethodName) prog_4_method_12_code (1 : Nat) (Option.some Jvm.ClassFile.FieldType.int))
theorem wd_555 : wv_555 ∈ tb_all := wd_o3 (i := 75) rfl rfl
abbrev wv_556 : Jvm.Cond := (Jvm.Cond.methodLink "RouteHouse$Packet" (21 : Nat) ({ cls := "RouteHouse$Wire", name := "four", desc := "([BI)I" } : Jvm.MethodName))
theorem wd_556 : wv_556 ∈ tb_all := wd_o3 (i := 76) rfl rfl
abbrev wv_557 : Jvm.Cond := (Jvm.Cond.static ({ cls := "RouteHouse$Wire", name := "four", desc := "([BI)I" } : Jvm.MethodName))
theorem wd_557 : wv_557 ∈ tb_all := wd_o3 (i := 77) rfl rfl
abbrev wv_558 : Jvm.Cond := (Jvm.Cond.code ({ cls := "RouteHouse$Wire", name := "four", desc := "([BI)I" } : Jvm.MethodName) prog_9_method_3_code (2 : Nat) (Option.some Jvm.ClassFile.FieldType.int))
theorem wd_558 : wv_558 ∈ tb_all := wd_o3 (i := 78) rfl rfl
abbrev wv_559 : Jvm.Cond := (Jvm.Cond.methodLink "RouteHouse$Packet" (53 : Nat) ({ cls := "RouteHouse$Packet", name := "protocol", desc := "()I" } : Jvm.MethodName))
theorem wd_559 : wv_559 ∈ tb_all := wd_o3 (i := 79) rfl rfl
abbrev wv_560 : Jvm.Cond := (Jvm.Cond.instanceMethod ({ cls := "RouteHouse$Packet", name := "protocol", desc := "()I" } : Jvm.MethodName))
theorem wd_560 : wv_560 ∈ tb_all := wd_o3 (i := 80) rfl rfl
abbrev wv_561 : Jvm.Cond := (Jvm.Cond.selects "RouteHouse$Packet" ({ cls := "RouteHouse$Packet", name := "protocol", desc := "()I" } : Jvm.MethodName) ({ cls := "RouteHouse$Packet", name := "protocol", desc := "()I" } : Jvm.MethodName))
theorem wd_561 : wv_561 ∈ tb_all := wd_o3 (i := 81) rfl rfl
abbrev wv_562 : Jvm.Cond := (Jvm.Cond.code ({ cls := "RouteHouse$Packet", name := "protocol", desc := "()I" } : Jvm.MethodName) prog_4_method_11_code (1 : Nat) (Option.some Jvm.ClassFile.FieldType.int))
theorem wd_562 : wv_562 ∈ tb_all := wd_o3 (i := 82) rfl rfl
abbrev wv_563 : Jvm.Cond := (Jvm.Cond.methodLink "RouteHouse" (274 : Nat) ({ cls := "RouteHouse$Packet", name := "headerLength", desc := "()I" } : Jvm.MethodName))
theorem wd_563 : wv_563 ∈ tb_all := wd_o3 (i := 83) rfl rfl
abbrev wv_564 : Jvm.Cond := (Jvm.Cond.methodLink "RouteHouse" (277 : Nat) ({ cls := "RouteHouse$Packet", name := "dataLength", desc := "()I" } : Jvm.MethodName))
theorem wd_564 : wv_564 ∈ tb_all := wd_o3 (i := 84) rfl rfl
abbrev wv_565 : Jvm.Cond := (Jvm.Cond.methodLink "RouteHouse" (280 : Nat) ({ cls := "java/lang/Math", name := "min", desc := "(II)I" } : Jvm.MethodName))
theorem wd_565 : wv_565 ∈ tb_all := wd_o3 (i := 85) rfl rfl
abbrev wv_566 : Jvm.Cond := (Jvm.Cond.static ({ cls := "java/lang/Math", name := "min", desc := "(II)I" } : Jvm.MethodName))
theorem wd_566 : wv_566 ∈ tb_all := wd_o3 (i := 86) rfl rfl
abbrev wv_567 : Jvm.Cond := (Jvm.Cond.code ({ cls := "java/lang/Math", name := "min", desc := "(II)I" } : Jvm.MethodName) prog_16_method_69_code (2 : Nat) (Option.some Jvm.ClassFile.FieldType.int))
theorem wd_567 : wv_567 ∈ tb_all := wd_o3 (i := 87) rfl rfl
abbrev wv_568 : Jvm.Cond := (Jvm.Cond.methodLink "RouteHouse" (285 : Nat) ({ cls := "RouteHouse$Packet", name := "source", desc := "()I" } : Jvm.MethodName))
theorem wd_568 : wv_568 ∈ tb_all := wd_o3 (i := 88) rfl rfl
abbrev wv_569 : Jvm.Cond := (Jvm.Cond.methodLink "RouteHouse" (287 : Nat) ({ cls := "RouteHouse", name := "sendReply", desc := "(IIII)V" } : Jvm.MethodName))
theorem wd_569 : wv_569 ∈ tb_all := wd_o3 (i := 89) rfl rfl
abbrev wv_571 : Jvm.Cond := (Jvm.Cond.instanceMethod ({ cls := "RouteHouse", name := "sendReply", desc := "(IIII)V" } : Jvm.MethodName))
theorem wd_571 : wv_571 ∈ tb_all := wd_o3 (i := 91) rfl rfl
abbrev wv_572 : Jvm.Cond := (Jvm.Cond.code ({ cls := "RouteHouse", name := "sendReply", desc := "(IIII)V" } : Jvm.MethodName) prog_1_method_26_code (7 : Nat) (Option.none : Option Jvm.ClassFile.FieldType))
theorem wd_572 : wv_572 ∈ tb_all := wd_o3 (i := 92) rfl rfl
abbrev wv_573 : Jvm.Cond := (Jvm.Cond.constant "RouteHouse" (291 : Nat) (1157627904 : Int32))
theorem wd_573 : wv_573 ∈ tb_all := wd_o3 (i := 93) rfl rfl
abbrev wv_574 : Jvm.Cond := (Jvm.Cond.constant "RouteHouse" (292 : Nat) (1073807360 : Int32))
theorem wd_574 : wv_574 ∈ tb_all := wd_o3 (i := 94) rfl rfl
abbrev wv_575 : Jvm.Cond := (Jvm.Cond.methodLink "RouteHouse" (267 : Nat) ({ cls := "RouteHouse$Outbox", name := "send", desc := "(LRouteHouse$Packet;III)V" } : Jvm.MethodName))
theorem wd_575 : wv_575 ∈ tb_all := wd_o3 (i := 95) rfl rfl
abbrev wv_576 : Jvm.Cond := (Jvm.Cond.instanceMethod ({ cls := "RouteHouse$Outbox", name := "send", desc := "(LRouteHouse$Packet;III)V" } : Jvm.MethodName))
theorem wd_576 : wv_576 ∈ tb_all := wd_o3 (i := 96) rfl rfl
abbrev wv_577 : Jvm.Cond := (Jvm.Cond.selects "RouteHouse$Outbox" ({ cls := "RouteHouse$Outbox", name := "send", desc := "(LRouteHouse$Packet;III)V" } : Jvm.MethodName) ({ cls := "RouteHouse$Outbox", name := "send", desc := "(LRouteHouse$Packet;III)V" } : Jvm.MethodName))
theorem wd_577 : wv_577 ∈ tb_all := wd_o3 (i := 97) rfl rfl
abbrev wv_578 : Jvm.Cond := (Jvm.Cond.code ({ cls := "RouteHouse$Outbox", name := "send", desc := "(LRouteHouse$Packet;III)V" } : Jvm.MethodName) prog_3_method_3_code (10 : Nat) (Option.none : Option Jvm.ClassFile.FieldType))
theorem wd_578 : wv_578 ∈ tb_all := wd_o3 (i := 98) rfl rfl
abbrev wv_579 : Jvm.Cond := (Jvm.Cond.methodLink "RouteHouse$Outbox" (38 : Nat) ({ cls := "RouteHouse$Packet", name := "dataLength", desc := "()I" } : Jvm.MethodName))
theorem wd_579 : wv_579 ∈ tb_all := wd_o3 (i := 99) rfl rfl
abbrev wv_580 : Jvm.Cond := (Jvm.Cond.methodLink "RouteHouse$Outbox" (47 : Nat) ({ cls := "RouteHouse$Packet", name := "headerLength", desc := "()I" } : Jvm.MethodName))
theorem wd_580 : wv_580 ∈ tb_all := wd_o3 (i := 100) rfl rfl
abbrev wv_581 : Jvm.Cond := (Jvm.Cond.methodLink "RouteHouse$Outbox" (50 : Nat) ({ cls := "RouteHouse$Outbox", name := "addPiece", desc := "(LRouteHouse$Packet;[BIIII)I" } : Jvm.MethodName))
theorem wd_581 : wv_581 ∈ tb_all := wd_o3 (i := 101) rfl rfl
abbrev wv_583 : Jvm.Cond := (Jvm.Cond.instanceMethod ({ cls := "RouteHouse$Outbox", name := "addPiece", desc := "(LRouteHouse$Packet;[BIIII)I" } : Jvm.MethodName))
theorem wd_583 : wv_583 ∈ tb_all := wd_o3 (i := 103) rfl rfl
abbrev wv_584 : Jvm.Cond := (Jvm.Cond.code ({ cls := "RouteHouse$Outbox", name := "addPiece", desc := "(LRouteHouse$Packet;[BIIII)I" } : Jvm.MethodName) prog_3_method_4_code (14 : Nat) (Option.some Jvm.ClassFile.FieldType.int))
theorem wd_584 : wv_584 ∈ tb_all := wd_o3 (i := 104) rfl rfl
abbrev wv_585 : Jvm.Cond := (Jvm.Cond.methodLink "RouteHouse$Outbox" (58 : Nat) ({ cls := "java/lang/System", name := "arraycopy", desc := "(Ljava/lang/Object;ILjava/lang/Object;II)V" } : Jvm.MethodName))
theorem wd_585 : wv_585 ∈ tb_all := wd_o3 (i := 105) rfl rfl
abbrev wv_586 : Jvm.Cond := (Jvm.Cond.methodLink "RouteHouse$Outbox" (64 : Nat) ({ cls := "RouteHouse$Wire", name := "two", desc := "([BI)I" } : Jvm.MethodName))
theorem wd_586 : wv_586 ∈ tb_all := wd_o3 (i := 106) rfl rfl
abbrev wv_587 : Jvm.Cond := (Jvm.Cond.methodLink "RouteHouse$Outbox" (70 : Nat) ({ cls := "RouteHouse$Wire", name := "setTwo", desc := "([BII)V" } : Jvm.MethodName))
theorem wd_587 : wv_587 ∈ tb_all := wd_o3 (i := 107) rfl rfl
abbrev wv_588 : Jvm.Cond := (Jvm.Cond.methodLink "RouteHouse$Outbox" (74 : Nat) ({ cls := "RouteHouse$Wire", name := "sumOf", desc := "([BIII)I" } : Jvm.MethodName))
theorem wd_588 : wv_588 ∈ tb_all := wd_o3 (i := 108) rfl rfl
abbrev wv_589 : Jvm.Cond := (Jvm.Cond.methodLink "RouteHouse$Outbox" (54 : Nat) ({ cls := "RouteHouse$Outbox", name := "makeLaterHeader", desc := "(LRouteHouse$Packet;)I" } : Jvm.MethodName))
theorem wd_589 : wv_589 ∈ tb_all := wd_o3 (i := 109) rfl rfl
abbrev wv_591 : Jvm.Cond := (Jvm.Cond.instanceMethod ({ cls := "RouteHouse$Outbox", name := "makeLaterHeader", desc := "(LRouteHouse$Packet;)I" } : Jvm.MethodName))
theorem wd_591 : wv_591 ∈ tb_all := wd_o3 (i := 111) rfl rfl
abbrev wv_592 : Jvm.Cond := (Jvm.Cond.code ({ cls := "RouteHouse$Outbox", name := "makeLaterHeader", desc := "(LRouteHouse$Packet;)I" } : Jvm.MethodName) prog_3_method_5_code (7 : Nat) (Option.some Jvm.ClassFile.FieldType.int))
theorem wd_592 : wv_592 ∈ tb_all := wd_o3 (i := 112) rfl rfl
abbrev wv_593 : Jvm.Cond := (Jvm.Cond.methodLink "RouteHouse$Outbox" (78 : Nat) ({ cls := "RouteHouse$Packet", name := "optionSize", desc := "(II)I" } : Jvm.MethodName))
theorem wd_593 : wv_593 ∈ tb_all := wd_o3 (i := 113) rfl rfl
abbrev wv_594 : Jvm.Cond := (Jvm.Cond.methodLink "RouteHouse" (224 : Nat) ({ cls := "RouteHouse$Packet", name := "destination", desc := "()I" } : Jvm.MethodName))
theorem wd_594 : wv_594 ∈ tb_all := wd_o3 (i := 114) rfl rfl
abbrev wv_595 : Jvm.Cond := (Jvm.Cond.instanceMethod ({ cls := "RouteHouse$Packet", name := "destination", desc := "()I" } : Jvm.MethodName))
theorem wd_595 : wv_595 ∈ tb_all := wd_o3 (i := 115) rfl rfl
abbrev wv_596 : Jvm.Cond := (Jvm.Cond.selects "RouteHouse$Packet" ({ cls := "RouteHouse$Packet", name := "destination", desc := "()I" } : Jvm.MethodName) ({ cls := "RouteHouse$Packet", name := "destination", desc := "()I" } : Jvm.MethodName))
theorem wd_596 : wv_596 ∈ tb_all := wd_o3 (i := 116) rfl rfl
abbrev wv_597 : Jvm.Cond := (Jvm.Cond.code ({ cls := "RouteHouse$Packet", name := "destination", desc := "()I" } : Jvm.MethodName) prog_4_method_13_code (1 : Nat) (Option.some Jvm.ClassFile.FieldType.int))
theorem wd_597 : wv_597 ∈ tb_all := wd_o3 (i := 117) rfl rfl
abbrev wv_598 : Jvm.Cond := (Jvm.Cond.methodLink "RouteHouse" (226 : Nat) ({ cls := "RouteHouse", name := "isOwnAddress", desc := "(I)Z" } : Jvm.MethodName))
theorem wd_598 : wv_598 ∈ tb_all := wd_o3 (i := 118) rfl rfl
abbrev wv_600 : Jvm.Cond := (Jvm.Cond.instanceMethod ({ cls := "RouteHouse", name := "isOwnAddress", desc := "(I)Z" } : Jvm.MethodName))
theorem wd_600 : wv_600 ∈ tb_all := wd_o3 (i := 120) rfl rfl
abbrev wv_601 : Jvm.Cond := (Jvm.Cond.code ({ cls := "RouteHouse", name := "isOwnAddress", desc := "(I)Z" } : Jvm.MethodName) prog_1_method_21_code (3 : Nat) (Option.some Jvm.ClassFile.FieldType.boolean))
theorem wd_601 : wv_601 ∈ tb_all := wd_o3 (i := 121) rfl rfl
abbrev wv_602 : Jvm.Cond := (Jvm.Cond.methodLink "RouteHouse" (230 : Nat) ({ cls := "RouteHouse", name := "takeOwn", desc := "(I)I" } : Jvm.MethodName))
theorem wd_602 : wv_602 ∈ tb_all := wd_o3 (i := 122) rfl rfl
abbrev wv_604 : Jvm.Cond := (Jvm.Cond.instanceMethod ({ cls := "RouteHouse", name := "takeOwn", desc := "(I)I" } : Jvm.MethodName))
theorem wd_604 : wv_604 ∈ tb_all := wd_o3 (i := 124) rfl rfl
abbrev wv_605 : Jvm.Cond := (Jvm.Cond.code ({ cls := "RouteHouse", name := "takeOwn", desc := "(I)I" } : Jvm.MethodName) prog_1_method_22_code (4 : Nat) (Option.some Jvm.ClassFile.FieldType.int))
theorem wd_605 : wv_605 ∈ tb_all := wd_o3 (i := 125) rfl rfl
abbrev wv_606 : Jvm.Cond := (Jvm.Cond.methodLink "RouteHouse" (236 : Nat) ({ cls := "RouteHouse$Packet", name := "isPiece", desc := "()Z" } : Jvm.MethodName))
theorem wd_606 : wv_606 ∈ tb_all := wd_o3 (i := 126) rfl rfl
abbrev wv_607 : Jvm.Cond := (Jvm.Cond.instanceMethod ({ cls := "RouteHouse$Packet", name := "isPiece", desc := "()Z" } : Jvm.MethodName))
theorem wd_607 : wv_607 ∈ tb_all := wd_o3 (i := 127) rfl rfl
abbrev wv_608 : Jvm.Cond := (Jvm.Cond.selects "RouteHouse$Packet" ({ cls := "RouteHouse$Packet", name := "isPiece", desc := "()Z" } : Jvm.MethodName) ({ cls := "RouteHouse$Packet", name := "isPiece", desc := "()Z" } : Jvm.MethodName))
theorem wd_608 : wv_608 ∈ tb_all := wd_o3 (i := 128) rfl rfl
abbrev wv_609 : Jvm.Cond := (Jvm.Cond.code ({ cls := "RouteHouse$Packet", name := "isPiece", desc := "()Z" } : Jvm.MethodName) prog_4_method_8_code (1 : Nat) (Option.some Jvm.ClassFile.FieldType.boolean))
theorem wd_609 : wv_609 ∈ tb_all := wd_o3 (i := 129) rfl rfl
abbrev wv_610 : Jvm.Cond := (Jvm.Cond.methodLink "RouteHouse" (240 : Nat) ({ cls := "RouteHouse$Waits", name := "completes", desc := "(LRouteHouse$Packet;IILRouteHouse$Packet;)Z" } : Jvm.MethodName))
theorem wd_610 : wv_610 ∈ tb_all := wd_o3 (i := 130) rfl rfl
abbrev wv_611 : Jvm.Cond := (Jvm.Cond.instanceMethod ({ cls := "RouteHouse$Waits", name := "completes", desc := "(LRouteHouse$Packet;IILRouteHouse$Packet;)Z" } : Jvm.MethodName))
theorem wd_611 : wv_611 ∈ tb_all := wd_o3 (i := 131) rfl rfl
abbrev wv_612 : Jvm.Cond := (Jvm.Cond.selects "RouteHouse$Waits" ({ cls := "RouteHouse$Waits", name := "completes", desc := "(LRouteHouse$Packet;IILRouteHouse$Packet;)Z" } : Jvm.MethodName) ({ cls := "RouteHouse$Waits", name := "completes", desc := "(LRouteHouse$Packet;IILRouteHouse$Packet;)Z" } : Jvm.MethodName))
theorem wd_612 : wv_612 ∈ tb_all := wd_o3 (i := 132) rfl rfl
abbrev wv_613 : Jvm.Cond := (Jvm.Cond.code ({ cls := "RouteHouse$Waits", name := "completes", desc := "(LRouteHouse$Packet;IILRouteHouse$Packet;)Z" } : Jvm.MethodName) prog_8_method_2_code (7 : Nat) (Option.some Jvm.ClassFile.FieldType.boolean))
theorem wd_613 : wv_613 ∈ tb_all := wd_o3 (i := 133) rfl rfl
abbrev wv_614 : Jvm.Cond := (Jvm.Cond.methodLink "RouteHouse$Waits" (18 : Nat) ({ cls := "RouteHouse$Waits", name := "find", desc := "(LRouteHouse$Packet;)I" } : Jvm.MethodName))
theorem wd_614 : wv_614 ∈ tb_all := wd_o3 (i := 134) rfl rfl
abbrev wv_616 : Jvm.Cond := (Jvm.Cond.instanceMethod ({ cls := "RouteHouse$Waits", name := "find", desc := "(LRouteHouse$Packet;)I" } : Jvm.MethodName))
theorem wd_616 : wv_616 ∈ tb_all := wd_o3 (i := 136) rfl rfl
abbrev wv_617 : Jvm.Cond := (Jvm.Cond.code ({ cls := "RouteHouse$Waits", name := "find", desc := "(LRouteHouse$Packet;)I" } : Jvm.MethodName) prog_8_method_5_code (3 : Nat) (Option.some Jvm.ClassFile.FieldType.int))
theorem wd_617 : wv_617 ∈ tb_all := wd_o3 (i := 137) rfl rfl
abbrev wv_618 : Jvm.Cond := (Jvm.Cond.methodLink "RouteHouse$Waits" (56 : Nat) ({ cls := "RouteHouse$Waiting", name := "waitsFor", desc := "(LRouteHouse$Packet;)Z" } : Jvm.MethodName))
theorem wd_618 : wv_618 ∈ tb_all := wd_o3 (i := 138) rfl rfl
abbrev wv_619 : Jvm.Cond := (Jvm.Cond.instanceMethod ({ cls := "RouteHouse$Waiting", name := "waitsFor", desc := "(LRouteHouse$Packet;)Z" } : Jvm.MethodName))
theorem wd_619 : wv_619 ∈ tb_all := wd_o3 (i := 139) rfl rfl
abbrev wv_620 : Jvm.Cond := (Jvm.Cond.selects "RouteHouse$Waiting" ({ cls := "RouteHouse$Waiting", name := "waitsFor", desc := "(LRouteHouse$Packet;)Z" } : Jvm.MethodName) ({ cls := "RouteHouse$Waiting", name := "waitsFor", desc := "(LRouteHouse$Packet;)Z" } : Jvm.MethodName))
theorem wd_620 : wv_620 ∈ tb_all := wd_o3 (i := 140) rfl rfl
abbrev wv_621 : Jvm.Cond := (Jvm.Cond.code ({ cls := "RouteHouse$Waiting", name := "waitsFor", desc := "(LRouteHouse$Packet;)Z" } : Jvm.MethodName) prog_7_method_3_code (2 : Nat) (Option.some Jvm.ClassFile.FieldType.boolean))
theorem wd_621 : wv_621 ∈ tb_all := wd_o3 (i := 141) rfl rfl
abbrev wv_622 : Jvm.Cond := (Jvm.Cond.methodLink "RouteHouse$Waiting" (28 : Nat) ({ cls := "RouteHouse$Packet", name := "source", desc := "()I" } : Jvm.MethodName))
theorem wd_622 : wv_622 ∈ tb_all := wd_o3 (i := 142) rfl rfl
abbrev wv_623 : Jvm.Cond := (Jvm.Cond.methodLink "RouteHouse$Waiting" (35 : Nat) ({ cls := "RouteHouse$Packet", name := "destination", desc := "()I" } : Jvm.MethodName))
theorem wd_623 : wv_623 ∈ tb_all := wd_o3 (i := 143) rfl rfl
abbrev wv_624 : Jvm.Cond := (Jvm.Cond.methodLink "RouteHouse$Waiting" (40 : Nat) ({ cls := "RouteHouse$Packet", name := "identity", desc := "()I" } : Jvm.MethodName))
theorem wd_624 : wv_624 ∈ tb_all := wd_o3 (i := 144) rfl rfl
abbrev wv_625 : Jvm.Cond := (Jvm.Cond.instanceMethod ({ cls := "RouteHouse$Packet", name := "identity", desc := "()I" } : Jvm.MethodName))
theorem wd_625 : wv_625 ∈ tb_all := wd_o3 (i := 145) rfl rfl
abbrev wv_626 : Jvm.Cond := (Jvm.Cond.selects "RouteHouse$Packet" ({ cls := "RouteHouse$Packet", name := "identity", desc := "()I" } : Jvm.MethodName) ({ cls := "RouteHouse$Packet", name := "identity", desc := "()I" } : Jvm.MethodName))
theorem wd_626 : wv_626 ∈ tb_all := wd_o3 (i := 146) rfl rfl
abbrev wv_627 : Jvm.Cond := (Jvm.Cond.code ({ cls := "RouteHouse$Packet", name := "identity", desc := "()I" } : Jvm.MethodName) prog_4_method_5_code (1 : Nat) (Option.some Jvm.ClassFile.FieldType.int))
theorem wd_627 : wv_627 ∈ tb_all := wd_o3 (i := 147) rfl rfl
abbrev wv_628 : Jvm.Cond := (Jvm.Cond.methodLink "RouteHouse$Waiting" (45 : Nat) ({ cls := "RouteHouse$Packet", name := "protocol", desc := "()I" } : Jvm.MethodName))
theorem wd_628 : wv_628 ∈ tb_all := wd_o3 (i := 148) rfl rfl
abbrev wv_629 : Jvm.Cond := (Jvm.Cond.methodLink "RouteHouse$Waits" (22 : Nat) ({ cls := "RouteHouse$Waits", name := "isWrong", desc := "(LRouteHouse$Packet;)Z" } : Jvm.MethodName))
theorem wd_629 : wv_629 ∈ tb_all := wd_o3 (i := 149) rfl rfl
abbrev wv_631 : Jvm.Cond := (Jvm.Cond.instanceMethod ({ cls := "RouteHouse$Waits", name := "isWrong", desc := "(LRouteHouse$Packet;)Z" } : Jvm.MethodName))
theorem wd_631 : wv_631 ∈ tb_all := wd_o3 (i := 151) rfl rfl
abbrev wv_632 : Jvm.Cond := (Jvm.Cond.code ({ cls := "RouteHouse$Waits", name := "isWrong", desc := "(LRouteHouse$Packet;)Z" } : Jvm.MethodName) prog_8_method_6_code (3 : Nat) (Option.some Jvm.ClassFile.FieldType.boolean))
theorem wd_632 : wv_632 ∈ tb_all := wd_o3 (i := 152) rfl rfl
abbrev wv_633 : Jvm.Cond := (Jvm.Cond.methodLink "RouteHouse$Waits" (59 : Nat) ({ cls := "RouteHouse$Packet", name := "dataLength", desc := "()I" } : Jvm.MethodName))
theorem wd_633 : wv_633 ∈ tb_all := wd_o3 (i := 153) rfl rfl
abbrev wv_634 : Jvm.Cond := (Jvm.Cond.methodLink "RouteHouse$Waits" (65 : Nat) ({ cls := "RouteHouse$Packet", name := "hasMore", desc := "()Z" } : Jvm.MethodName))
theorem wd_634 : wv_634 ∈ tb_all := wd_o3 (i := 154) rfl rfl
abbrev wv_635 : Jvm.Cond := (Jvm.Cond.instanceMethod ({ cls := "RouteHouse$Packet", name := "hasMore", desc := "()Z" } : Jvm.MethodName))
theorem wd_635 : wv_635 ∈ tb_all := wd_o3 (i := 155) rfl rfl
abbrev wv_636 : Jvm.Cond := (Jvm.Cond.selects "RouteHouse$Packet" ({ cls := "RouteHouse$Packet", name := "hasMore", desc := "()Z" } : Jvm.MethodName) ({ cls := "RouteHouse$Packet", name := "hasMore", desc := "()Z" } : Jvm.MethodName))
theorem wd_636 : wv_636 ∈ tb_all := wd_o3 (i := 156) rfl rfl
abbrev wv_637 : Jvm.Cond := (Jvm.Cond.code ({ cls := "RouteHouse$Packet", name := "hasMore", desc := "()Z" } : Jvm.MethodName) prog_4_method_7_code (1 : Nat) (Option.some Jvm.ClassFile.FieldType.boolean))
theorem wd_637 : wv_637 ∈ tb_all := wd_o3 (i := 157) rfl rfl
abbrev wv_638 : Jvm.Cond := (Jvm.Cond.methodLink "RouteHouse$Waits" (68 : Nat) ({ cls := "RouteHouse$Packet", name := "dataStart", desc := "()I" } : Jvm.MethodName))
theorem wd_638 : wv_638 ∈ tb_all := wd_o3 (i := 158) rfl rfl
abbrev wv_639 : Jvm.Cond := (Jvm.Cond.methodLink "RouteHouse$Waits" (26 : Nat) ({ cls := "RouteHouse$Waiting", name := "refuses", desc := "(LRouteHouse$Packet;)Z" } : Jvm.MethodName))
theorem wd_639 : wv_639 ∈ tb_all := wd_o3 (i := 159) rfl rfl
abbrev wv_640 : Jvm.Cond := (Jvm.Cond.instanceMethod ({ cls := "RouteHouse$Waiting", name := "refuses", desc := "(LRouteHouse$Packet;)Z" } : Jvm.MethodName))
theorem wd_640 : wv_640 ∈ tb_all := wd_o3 (i := 160) rfl rfl
abbrev wv_641 : Jvm.Cond := (Jvm.Cond.selects "RouteHouse$Waiting" ({ cls := "RouteHouse$Waiting", name := "refuses", desc := "(LRouteHouse$Packet;)Z" } : Jvm.MethodName) ({ cls := "RouteHouse$Waiting", name := "refuses", desc := "(LRouteHouse$Packet;)Z" } : Jvm.MethodName))
theorem wd_641 : wv_641 ∈ tb_all := wd_o3 (i := 161) rfl rfl
abbrev wv_642 : Jvm.Cond := (Jvm.Cond.code ({ cls := "RouteHouse$Waiting", name := "refuses", desc := "(LRouteHouse$Packet;)Z" } : Jvm.MethodName) prog_7_method_4_code (3 : Nat) (Option.some Jvm.ClassFile.FieldType.boolean))
theorem wd_642 : wv_642 ∈ tb_all := wd_o3 (i := 162) rfl rfl
abbrev wv_643 : Jvm.Cond := (Jvm.Cond.methodLink "RouteHouse$Waiting" (66 : Nat) ({ cls := "RouteHouse$Packet", name := "dataStart", desc := "()I" } : Jvm.MethodName))
theorem wd_643 : wv_643 ∈ tb_all := wd_o3 (i := 163) rfl rfl
abbrev wv_644 : Jvm.Cond := (Jvm.Cond.methodLink "RouteHouse$Waiting" (69 : Nat) ({ cls := "RouteHouse$Packet", name := "dataLength", desc := "()I" } : Jvm.MethodName))
theorem wd_644 : wv_644 ∈ tb_all := wd_o3 (i := 164) rfl rfl
abbrev wv_645 : Jvm.Cond := (Jvm.Cond.methodLink "RouteHouse$Waiting" (72 : Nat) ({ cls := "RouteHouse$Packet", name := "hasMore", desc := "()Z" } : Jvm.MethodName))
theorem wd_645 : wv_645 ∈ tb_all := wd_o3 (i := 165) rfl rfl
abbrev wv_646 : Jvm.Cond := (Jvm.Cond.methodLink "RouteHouse$Waits" (29 : Nat) ({ cls := "RouteHouse$Waits", name := "remove", desc := "(I)V" } : Jvm.MethodName))
theorem wd_646 : wv_646 ∈ tb_all := wd_o3 (i := 166) rfl rfl
abbrev wv_647 : Jvm.Cond := (Jvm.Cond.instanceMethod ({ cls := "RouteHouse$Waits", name := "remove", desc := "(I)V" } : Jvm.MethodName))
theorem wd_647 : wv_647 ∈ tb_all := wd_o3 (i := 167) rfl rfl
abbrev wv_648 : Jvm.Cond := (Jvm.Cond.selects "RouteHouse$Waits" ({ cls := "RouteHouse$Waits", name := "remove", desc := "(I)V" } : Jvm.MethodName) ({ cls := "RouteHouse$Waits", name := "remove", desc := "(I)V" } : Jvm.MethodName))
theorem wd_648 : wv_648 ∈ tb_all := wd_o3 (i := 168) rfl rfl
abbrev wv_649 : Jvm.Cond := (Jvm.Cond.code ({ cls := "RouteHouse$Waits", name := "remove", desc := "(I)V" } : Jvm.MethodName) prog_8_method_4_code (4 : Nat) (Option.none : Option Jvm.ClassFile.FieldType))
theorem wd_649 : wv_649 ∈ tb_all := wd_o3 (i := 169) rfl rfl
abbrev wv_650 : Jvm.Cond := (Jvm.Cond.methodLink "RouteHouse$Waits" (33 : Nat) ({ cls := "RouteHouse$Waits", name := "begin", desc := "(LRouteHouse$Packet;I)I" } : Jvm.MethodName))
theorem wd_650 : wv_650 ∈ tb_all := wd_o3 (i := 170) rfl rfl
abbrev wv_652 : Jvm.Cond := (Jvm.Cond.instanceMethod ({ cls := "RouteHouse$Waits", name := "begin", desc := "(LRouteHouse$Packet;I)I" } : Jvm.MethodName))
theorem wd_652 : wv_652 ∈ tb_all := wd_o3 (i := 172) rfl rfl
abbrev wv_653 : Jvm.Cond := (Jvm.Cond.code ({ cls := "RouteHouse$Waits", name := "begin", desc := "(LRouteHouse$Packet;I)I" } : Jvm.MethodName) prog_8_method_7_code (3 : Nat) (Option.some Jvm.ClassFile.FieldType.int))
theorem wd_653 : wv_653 ∈ tb_all := wd_o3 (i := 173) rfl rfl
abbrev wv_654 : Jvm.Cond := (Jvm.Cond.methodLink "RouteHouse$Waits" (71 : Nat) ({ cls := "RouteHouse$Waiting", name := "begin", desc := "(LRouteHouse$Packet;I)V" } : Jvm.MethodName))
theorem wd_654 : wv_654 ∈ tb_all := wd_o3 (i := 174) rfl rfl
abbrev wv_655 : Jvm.Cond := (Jvm.Cond.instanceMethod ({ cls := "RouteHouse$Waiting", name := "begin", desc := "(LRouteHouse$Packet;I)V" } : Jvm.MethodName))
theorem wd_655 : wv_655 ∈ tb_all := wd_o3 (i := 175) rfl rfl
abbrev wv_656 : Jvm.Cond := (Jvm.Cond.selects "RouteHouse$Waiting" ({ cls := "RouteHouse$Waiting", name := "begin", desc := "(LRouteHouse$Packet;I)V" } : Jvm.MethodName) ({ cls := "RouteHouse$Waiting", name := "begin", desc := "(LRouteHouse$Packet;I)V" } : Jvm.MethodName))
theorem wd_656 : wv_656 ∈ tb_all := wd_o3 (i := 176) rfl rfl
abbrev wv_657 : Jvm.Cond := (Jvm.Cond.code ({ cls := "RouteHouse$Waiting", name := "begin", desc := "(LRouteHouse$Packet;I)V" } : Jvm.MethodName) prog_7_method_2_code (4 : Nat) (Option.none : Option Jvm.ClassFile.FieldType))
theorem wd_657 : wv_657 ∈ tb_all := wd_o3 (i := 177) rfl rfl
abbrev wv_658 : Jvm.Cond := (Jvm.Cond.methodLink "RouteHouse$Waits" (37 : Nat) ({ cls := "RouteHouse$Waiting", name := "add", desc := "(LRouteHouse$Packet;I)V" } : Jvm.MethodName))
theorem wd_658 : wv_658 ∈ tb_all := wd_o3 (i := 178) rfl rfl
abbrev wv_659 : Jvm.Cond := (Jvm.Cond.instanceMethod ({ cls := "RouteHouse$Waiting", name := "add", desc := "(LRouteHouse$Packet;I)V" } : Jvm.MethodName))
theorem wd_659 : wv_659 ∈ tb_all := wd_o3 (i := 179) rfl rfl
abbrev wv_660 : Jvm.Cond := (Jvm.Cond.selects "RouteHouse$Waiting" ({ cls := "RouteHouse$Waiting", name := "add", desc := "(LRouteHouse$Packet;I)V" } : Jvm.MethodName) ({ cls := "RouteHouse$Waiting", name := "add", desc := "(LRouteHouse$Packet;I)V" } : Jvm.MethodName))
theorem wd_660 : wv_660 ∈ tb_all := wd_o3 (i := 180) rfl rfl
abbrev wv_661 : Jvm.Cond := (Jvm.Cond.code ({ cls := "RouteHouse$Waiting", name := "add", desc := "(LRouteHouse$Packet;I)V" } : Jvm.MethodName) prog_7_method_5_code (6 : Nat) (Option.none : Option Jvm.ClassFile.FieldType))
theorem wd_661 : wv_661 ∈ tb_all := wd_o3 (i := 181) rfl rfl
abbrev wv_662 : Jvm.Cond := (Jvm.Cond.methodLink "RouteHouse$Waiting" (79 : Nat) ({ cls := "RouteHouse$Packet", name := "headerLength", desc := "()I" } : Jvm.MethodName))
theorem wd_662 : wv_662 ∈ tb_all := wd_o3 (i := 182) rfl rfl
abbrev wv_663 : Jvm.Cond := (Jvm.Cond.methodLink "RouteHouse$Waiting" (82 : Nat) ({ cls := "java/lang/System", name := "arraycopy", desc := "(Ljava/lang/Object;ILjava/lang/Object;II)V" } : Jvm.MethodName))
theorem wd_663 : wv_663 ∈ tb_all := wd_o3 (i := 183) rfl rfl
abbrev wv_664 : Jvm.Cond := (Jvm.Cond.methodLink "RouteHouse$Waiting" (88 : Nat) ({ cls := "java/lang/Math", name := "max", desc := "(II)I" } : Jvm.MethodName))
theorem wd_664 : wv_664 ∈ tb_all := wd_o3 (i := 184) rfl rfl
abbrev wv_665 : Jvm.Cond := (Jvm.Cond.static ({ cls := "java/lang/Math", name := "max", desc := "(II)I" } : Jvm.MethodName))
theorem wd_665 : wv_665 ∈ tb_all := wd_o3 (i := 185) rfl rfl
abbrev wv_666 : Jvm.Cond := (Jvm.Cond.code ({ cls := "java/lang/Math", name := "max", desc := "(II)I" } : Jvm.MethodName) prog_16_method_65_code (2 : Nat) (Option.some Jvm.ClassFile.FieldType.int))
theorem wd_666 : wv_666 ∈ tb_all := wd_o3 (i := 186) rfl rfl
abbrev wv_667 : Jvm.Cond := (Jvm.Cond.methodLink "RouteHouse$Waits" (41 : Nat) ({ cls := "RouteHouse$Waiting", name := "isComplete", desc := "()Z" } : Jvm.MethodName))
theorem wd_667 : wv_667 ∈ tb_all := wd_o3 (i := 187) rfl rfl
abbrev wv_668 : Jvm.Cond := (Jvm.Cond.instanceMethod ({ cls := "RouteHouse$Waiting", name := "isComplete", desc := "()Z" } : Jvm.MethodName))
theorem wd_668 : wv_668 ∈ tb_all := wd_o3 (i := 188) rfl rfl
abbrev wv_669 : Jvm.Cond := (Jvm.Cond.selects "RouteHouse$Waiting" ({ cls := "RouteHouse$Waiting", name := "isComplete", desc := "()Z" } : Jvm.MethodName) ({ cls := "RouteHouse$Waiting", name := "isComplete", desc := "()Z" } : Jvm.MethodName))
theorem wd_669 : wv_669 ∈ tb_all := wd_o3 (i := 189) rfl rfl
abbrev wv_670 : Jvm.Cond := (Jvm.Cond.code ({ cls := "RouteHouse$Waiting", name := "isComplete", desc := "()Z" } : Jvm.MethodName) prog_7_method_6_code (1 : Nat) (Option.some Jvm.ClassFile.FieldType.boolean))
theorem wd_670 : wv_670 ∈ tb_all := wd_o3 (i := 190) rfl rfl
abbrev wv_671 : Jvm.Cond := (Jvm.Cond.methodLink "RouteHouse$Waits" (45 : Nat) ({ cls := "RouteHouse$Waiting", name := "writeTo", desc := "(LRouteHouse$Packet;)V" } : Jvm.MethodName))
theorem wd_671 : wv_671 ∈ tb_all := wd_o3 (i := 191) rfl rfl
abbrev wv_672 : Jvm.Cond := (Jvm.Cond.instanceMethod ({ cls := "RouteHouse$Waiting", name := "writeTo", desc := "(LRouteHouse$Packet;)V" } : Jvm.MethodName))
theorem wd_672 : wv_672 ∈ tb_all := wd_o3 (i := 192) rfl rfl
abbrev wv_673 : Jvm.Cond := (Jvm.Cond.selects "RouteHouse$Waiting" ({ cls := "RouteHouse$Waiting", name := "writeTo", desc := "(LRouteHouse$Packet;)V" } : Jvm.MethodName) ({ cls := "RouteHouse$Waiting", name := "writeTo", desc := "(LRouteHouse$Packet;)V" } : Jvm.MethodName))
theorem wd_673 : wv_673 ∈ tb_all := wd_o3 (i := 193) rfl rfl
abbrev wv_674 : Jvm.Cond := (Jvm.Cond.code ({ cls := "RouteHouse$Waiting", name := "writeTo", desc := "(LRouteHouse$Packet;)V" } : Jvm.MethodName) prog_7_method_7_code (4 : Nat) (Option.none : Option Jvm.ClassFile.FieldType))
theorem wd_674 : wv_674 ∈ tb_all := wd_o3 (i := 194) rfl rfl
abbrev wv_675 : Jvm.Cond := (Jvm.Cond.methodLink "RouteHouse$Waiting" (97 : Nat) ({ cls := "RouteHouse$Wire", name := "setTwo", desc := "([BII)V" } : Jvm.MethodName))
theorem wd_675 : wv_675 ∈ tb_all := wd_o3 (i := 195) rfl rfl
abbrev wv_676 : Jvm.Cond := (Jvm.Cond.methodLink "RouteHouse$Waiting" (103 : Nat) ({ cls := "RouteHouse$Wire", name := "two", desc := "([BI)I" } : Jvm.MethodName))
theorem wd_676 : wv_676 ∈ tb_all := wd_o3 (i := 196) rfl rfl
abbrev wv_677 : Jvm.Cond := (Jvm.Cond.methodLink "RouteHouse$Waiting" (107 : Nat) ({ cls := "RouteHouse$Wire", name := "sumOf", desc := "([BIII)I" } : Jvm.MethodName))
theorem wd_677 : wv_677 ∈ tb_all := wd_o3 (i := 197) rfl rfl
abbrev wv_678 : Jvm.Cond := (Jvm.Cond.methodLink "RouteHouse" (244 : Nat) ({ cls := "RouteHouse$Packet", name := "protocol", desc := "()I" } : Jvm.MethodName))
theorem wd_678 : wv_678 ∈ tb_all := wd_o3 (i := 198) rfl rfl
abbrev wv_679 : Jvm.Cond := (Jvm.Cond.methodLink "RouteHouse" (247 : Nat) ({ cls := "RouteHouse$Delivery", name := "take", desc := "(LRouteHouse$Packet;)V" } : Jvm.MethodName))
theorem wd_679 : wv_679 ∈ tb_all := wd_o3 (i := 199) rfl rfl
abbrev wv_680 : Jvm.Cond := (Jvm.Cond.instanceMethod ({ cls := "RouteHouse$Delivery", name := "take", desc := "(LRouteHouse$Packet;)V" } : Jvm.MethodName))
theorem wd_680 : wv_680 ∈ tb_all := wd_o3 (i := 200) rfl rfl
abbrev wv_681 : Jvm.Cond := (Jvm.Cond.selects "RouteHouse$Delivery" ({ cls := "RouteHouse$Delivery", name := "take", desc := "(LRouteHouse$Packet;)V" } : Jvm.MethodName) ({ cls := "RouteHouse$Delivery", name := "take", desc := "(LRouteHouse$Packet;)V" } : Jvm.MethodName))
theorem wd_681 : wv_681 ∈ tb_all := wd_o3 (i := 201) rfl rfl
abbrev wv_682 : Jvm.Cond := (Jvm.Cond.code ({ cls := "RouteHouse$Delivery", name := "take", desc := "(LRouteHouse$Packet;)V" } : Jvm.MethodName) prog_2_method_2_code (2 : Nat) (Option.none : Option Jvm.ClassFile.FieldType))
theorem wd_682 : wv_682 ∈ tb_all := wd_o3 (i := 202) rfl rfl
abbrev wv_683 : Jvm.Cond := (Jvm.Cond.methodLink "RouteHouse$Delivery" (19 : Nat) ({ cls := "RouteHouse$Packet", name := "source", desc := "()I" } : Jvm.MethodName))
theorem wd_683 : wv_683 ∈ tb_all := wd_o3 (i := 203) rfl rfl
abbrev wv_684 : Jvm.Cond := (Jvm.Cond.methodLink "RouteHouse$Delivery" (27 : Nat) ({ cls := "RouteHouse$Packet", name := "destination", desc := "()I" } : Jvm.MethodName))
theorem wd_684 : wv_684 ∈ tb_all := wd_o3 (i := 204) rfl rfl
abbrev wv_685 : Jvm.Cond := (Jvm.Cond.methodLink "RouteHouse$Delivery" (32 : Nat) ({ cls := "RouteHouse$Packet", name := "dataLength", desc := "()I" } : Jvm.MethodName))
theorem wd_685 : wv_685 ∈ tb_all := wd_o3 (i := 205) rfl rfl
abbrev wv_686 : Jvm.Cond := (Jvm.Cond.methodLink "RouteHouse$Delivery" (41 : Nat) ({ cls := "RouteHouse$Packet", name := "headerLength", desc := "()I" } : Jvm.MethodName))
theorem wd_686 : wv_686 ∈ tb_all := wd_o3 (i := 206) rfl rfl
abbrev wv_687 : Jvm.Cond := (Jvm.Cond.methodLink "RouteHouse$Delivery" (44 : Nat) ({ cls := "java/lang/System", name := "arraycopy", desc := "(Ljava/lang/Object;ILjava/lang/Object;II)V" } : Jvm.MethodName))
theorem wd_687 : wv_687 ∈ tb_all := wd_o3 (i := 207) rfl rfl
abbrev wv_688 : Jvm.Cond := (Jvm.Cond.methodLink "RouteHouse" (251 : Nat) ({ cls := "RouteHouse$Packet", name := "isRequest", desc := "()Z" } : Jvm.MethodName))
theorem wd_688 : wv_688 ∈ tb_all := wd_o3 (i := 208) rfl rfl
abbrev wv_689 : Jvm.Cond := (Jvm.Cond.instanceMethod ({ cls := "RouteHouse$Packet", name := "isRequest", desc := "()Z" } : Jvm.MethodName))
theorem wd_689 : wv_689 ∈ tb_all := wd_o3 (i := 209) rfl rfl
abbrev wv_690 : Jvm.Cond := (Jvm.Cond.selects "RouteHouse$Packet" ({ cls := "RouteHouse$Packet", name := "isRequest", desc := "()Z" } : Jvm.MethodName) ({ cls := "RouteHouse$Packet", name := "isRequest", desc := "()Z" } : Jvm.MethodName))
theorem wd_690 : wv_690 ∈ tb_all := wd_o3 (i := 210) rfl rfl
abbrev wv_691 : Jvm.Cond := (Jvm.Cond.code ({ cls := "RouteHouse$Packet", name := "isRequest", desc := "()Z" } : Jvm.MethodName) prog_4_method_17_code (3 : Nat) (Option.some Jvm.ClassFile.FieldType.boolean))
theorem wd_691 : wv_691 ∈ tb_all := wd_o3 (i := 211) rfl rfl
abbrev wv_692 : Jvm.Cond := (Jvm.Cond.methodLink "RouteHouse" (254 : Nat) ({ cls := "RouteHouse", name := "sendAnswer", desc := "(LRouteHouse$Packet;I)V" } : Jvm.MethodName))
theorem wd_692 : wv_692 ∈ tb_all := wd_o3 (i := 212) rfl rfl
abbrev wv_694 : Jvm.Cond := (Jvm.Cond.instanceMethod ({ cls := "RouteHouse", name := "sendAnswer", desc := "(LRouteHouse$Packet;I)V" } : Jvm.MethodName))
theorem wd_694 : wv_694 ∈ tb_all := wd_o3 (i := 214) rfl rfl
abbrev wv_695 : Jvm.Cond := (Jvm.Cond.code ({ cls := "RouteHouse", name := "sendAnswer", desc := "(LRouteHouse$Packet;I)V" } : Jvm.MethodName) prog_1_method_25_code (4 : Nat) (Option.none : Option Jvm.ClassFile.FieldType))
theorem wd_695 : wv_695 ∈ tb_all := wd_o3 (i := 215) rfl rfl
abbrev wv_696 : Jvm.Cond := (Jvm.Cond.methodLink "RouteHouse" (233 : Nat) ({ cls := "RouteHouse", name := "sendOn", desc := "(I)I" } : Jvm.MethodName))
theorem wd_696 : wv_696 ∈ tb_all := wd_o3 (i := 216) rfl rfl
abbrev wv_698 : Jvm.Cond := (Jvm.Cond.instanceMethod ({ cls := "RouteHouse", name := "sendOn", desc := "(I)I" } : Jvm.MethodName))
theorem wd_698 : wv_698 ∈ tb_all := wd_o3 (i := 218) rfl rfl
abbrev wv_699 : Jvm.Cond := (Jvm.Cond.code ({ cls := "RouteHouse", name := "sendOn", desc := "(I)I" } : Jvm.MethodName) prog_1_method_23_code (9 : Nat) (Option.some Jvm.ClassFile.FieldType.int))
theorem wd_699 : wv_699 ∈ tb_all := wd_o3 (i := 219) rfl rfl
abbrev wv_700 : Jvm.Cond := (Jvm.Cond.methodLink "RouteHouse" (258 : Nat) ({ cls := "RouteHouse$Packet", name := "hops", desc := "()I" } : Jvm.MethodName))
theorem wd_700 : wv_700 ∈ tb_all := wd_o3 (i := 220) rfl rfl
abbrev wv_701 : Jvm.Cond := (Jvm.Cond.instanceMethod ({ cls := "RouteHouse$Packet", name := "hops", desc := "()I" } : Jvm.MethodName))
theorem wd_701 : wv_701 ∈ tb_all := wd_o3 (i := 221) rfl rfl
abbrev wv_702 : Jvm.Cond := (Jvm.Cond.selects "RouteHouse$Packet" ({ cls := "RouteHouse$Packet", name := "hops", desc := "()I" } : Jvm.MethodName) ({ cls := "RouteHouse$Packet", name := "hops", desc := "()I" } : Jvm.MethodName))
theorem wd_702 : wv_702 ∈ tb_all := wd_o3 (i := 222) rfl rfl
abbrev wv_703 : Jvm.Cond := (Jvm.Cond.code ({ cls := "RouteHouse$Packet", name := "hops", desc := "()I" } : Jvm.MethodName) prog_4_method_10_code (1 : Nat) (Option.some Jvm.ClassFile.FieldType.int))
theorem wd_703 : wv_703 ∈ tb_all := wd_o3 (i := 223) rfl rfl
abbrev wv_704 : Jvm.Cond := (Jvm.Cond.methodLink "RouteHouse" (261 : Nat) ({ cls := "RouteHouse$Packet", name := "length", desc := "()I" } : Jvm.MethodName))
theorem wd_704 : wv_704 ∈ tb_all := wd_o3 (i := 224) rfl rfl
abbrev wv_705 : Jvm.Cond := (Jvm.Cond.methodLink "RouteHouse" (264 : Nat) ({ cls := "RouteHouse$Packet", name := "isUncut", desc := "()Z" } : Jvm.MethodName))
theorem wd_705 : wv_705 ∈ tb_all := wd_o3 (i := 225) rfl rfl
abbrev wv_706 : Jvm.Cond := (Jvm.Cond.instanceMethod ({ cls := "RouteHouse$Packet", name := "isUncut", desc := "()Z" } : Jvm.MethodName))
theorem wd_706 : wv_706 ∈ tb_all := wd_o3 (i := 226) rfl rfl
abbrev wv_707 : Jvm.Cond := (Jvm.Cond.selects "RouteHouse$Packet" ({ cls := "RouteHouse$Packet", name := "isUncut", desc := "()Z" } : Jvm.MethodName) ({ cls := "RouteHouse$Packet", name := "isUncut", desc := "()Z" } : Jvm.MethodName))
theorem wd_707 : wv_707 ∈ tb_all := wd_o3 (i := 227) rfl rfl
abbrev wv_708 : Jvm.Cond := (Jvm.Cond.code ({ cls := "RouteHouse$Packet", name := "isUncut", desc := "()Z" } : Jvm.MethodName) prog_4_method_6_code (1 : Nat) (Option.some Jvm.ClassFile.FieldType.boolean))
theorem wd_708 : wv_708 ∈ tb_all := wd_o3 (i := 228) rfl rfl
abbrev wv_717 : Jvm.Cond := (Jvm.Cond.methodLink "RouteHouse" (178 : Nat) ({ cls := "RouteHouse", name := "passOne", desc := "()V" } : Jvm.MethodName))
theorem wd_717 : wv_717 ∈ tb_all := wd_o3 (i := 237) rfl rfl
abbrev wv_719 : Jvm.Cond := (Jvm.Cond.instanceMethod ({ cls := "RouteHouse", name := "passOne", desc := "()V" } : Jvm.MethodName))
theorem wd_719 : wv_719 ∈ tb_all := wd_o3 (i := 239) rfl rfl
abbrev wv_720 : Jvm.Cond := (Jvm.Cond.code ({ cls := "RouteHouse", name := "passOne", desc := "()V" } : Jvm.MethodName) prog_1_method_27_code (3 : Nat) (Option.none : Option Jvm.ClassFile.FieldType))
theorem wd_720 : wv_720 ∈ tb_all := wd_o4 (i := 0) rfl rfl
abbrev wv_721 : Jvm.Cond := (Jvm.Cond.methodLink "RouteHouse" (293 : Nat) ({ cls := "RouteHouse$Waits", name := "hasOverdue", desc := "(I)Z" } : Jvm.MethodName))
theorem wd_721 : wv_721 ∈ tb_all := wd_o4 (i := 1) rfl rfl
abbrev wv_722 : Jvm.Cond := (Jvm.Cond.instanceMethod ({ cls := "RouteHouse$Waits", name := "hasOverdue", desc := "(I)Z" } : Jvm.MethodName))
theorem wd_722 : wv_722 ∈ tb_all := wd_o4 (i := 2) rfl rfl
abbrev wv_723 : Jvm.Cond := (Jvm.Cond.selects "RouteHouse$Waits" ({ cls := "RouteHouse$Waits", name := "hasOverdue", desc := "(I)Z" } : Jvm.MethodName) ({ cls := "RouteHouse$Waits", name := "hasOverdue", desc := "(I)Z" } : Jvm.MethodName))
theorem wd_723 : wv_723 ∈ tb_all := wd_o4 (i := 3) rfl rfl
abbrev wv_724 : Jvm.Cond := (Jvm.Cond.code ({ cls := "RouteHouse$Waits", name := "hasOverdue", desc := "(I)Z" } : Jvm.MethodName) prog_8_method_3_code (2 : Nat) (Option.some Jvm.ClassFile.FieldType.boolean))
theorem wd_724 : wv_724 ∈ tb_all := wd_o4 (i := 4) rfl rfl
abbrev wv_725 : Jvm.Cond := (Jvm.Cond.methodLink "RouteHouse" (311 : Nat) ({ cls := "RouteHouse$Waits", name := "remove", desc := "(I)V" } : Jvm.MethodName))
theorem wd_725 : wv_725 ∈ tb_all := wd_o4 (i := 5) rfl rfl
abbrev wv_755 : Jvm.Cond := (Jvm.Cond.methodLink "RouteHouseModel" (1 : Nat) ({ cls := "java/lang/Object", name := "<init>", desc := "()V" } : Jvm.MethodName))
theorem wd_755 : wv_755 ∈ tb_all := wd_o4 (i := 35) rfl rfl
abbrev wv_756 : Jvm.Cond := (Jvm.Cond.fieldLink "RouteHouseModel" (7 : Nat) "RouteHouseModel" "addresses" "[I")
theorem wd_756 : wv_756 ∈ tb_all := wd_o4 (i := 36) rfl rfl
abbrev wv_757 : Jvm.Cond := (Jvm.Cond.fieldLink "RouteHouseModel" (13 : Nat) "RouteHouseModel" "mtus" "[I")
theorem wd_757 : wv_757 ∈ tb_all := wd_o4 (i := 37) rfl rfl
abbrev wv_758 : Jvm.Cond := (Jvm.Cond.fieldLink "RouteHouseModel" (16 : Nat) "RouteHouseModel" "down" "[Z")
theorem wd_758 : wv_758 ∈ tb_all := wd_o4 (i := 38) rfl rfl
abbrev wv_759 : Jvm.Cond := (Jvm.Cond.fieldLink "RouteHouseModel" (20 : Nat) "RouteHouseModel" "starts" "[I")
theorem wd_759 : wv_759 ∈ tb_all := wd_o4 (i := 39) rfl rfl
abbrev wv_760 : Jvm.Cond := (Jvm.Cond.fieldLink "RouteHouseModel" (23 : Nat) "RouteHouseModel" "lengths" "[I")
theorem wd_760 : wv_760 ∈ tb_all := wd_o4 (i := 40) rfl rfl
abbrev wv_761 : Jvm.Cond := (Jvm.Cond.fieldLink "RouteHouseModel" (26 : Nat) "RouteHouseModel" "ports" "[I")
theorem wd_761 : wv_761 ∈ tb_all := wd_o4 (i := 41) rfl rfl
abbrev wv_762 : Jvm.Cond := (Jvm.Cond.fieldLink "RouteHouseModel" (29 : Nat) "RouteHouseModel" "nexts" "[I")
theorem wd_762 : wv_762 ∈ tb_all := wd_o4 (i := 42) rfl rfl
abbrev wv_763 : Jvm.Cond := (Jvm.Cond.fieldLink "RouteHouseModel" (113 : Nat) "RouteHouseModel" "routes" "I")
theorem wd_763 : wv_763 ∈ tb_all := wd_o4 (i := 43) rfl rfl
abbrev wv_764 : Jvm.Cond := (Jvm.Cond.fieldLink "RouteHouseModel" (32 : Nat) "RouteHouseModel" "tape" "[I")
theorem wd_764 : wv_764 ∈ tb_all := wd_o4 (i := 44) rfl rfl
abbrev wv_765 : Jvm.Cond := (Jvm.Cond.fieldLink "RouteHouseModel" (127 : Nat) "RouteHouseModel" "taped" "I")
theorem wd_765 : wv_765 ∈ tb_all := wd_o4 (i := 45) rfl rfl
abbrev wv_766 : Jvm.Cond := (Jvm.Cond.fieldLink "RouteHouseModel" (35 : Nat) "RouteHouseModel" "p" "[I")
theorem wd_766 : wv_766 ∈ tb_all := wd_o4 (i := 46) rfl rfl
abbrev wv_767 : Jvm.Cond := (Jvm.Cond.fieldLink "RouteHouseModel" (38 : Nat) "RouteHouseModel" "q" "[I")
theorem wd_767 : wv_767 ∈ tb_all := wd_o4 (i := 47) rfl rfl
abbrev wv_768 : Jvm.Cond := (Jvm.Cond.fieldLink "RouteHouseModel" (149 : Nat) "RouteHouseModel" "size" "I")
theorem wd_768 : wv_768 ∈ tb_all := wd_o4 (i := 48) rfl rfl
abbrev wv_769 : Jvm.Cond := (Jvm.Cond.fieldLink "RouteHouseModel" (146 : Nat) "RouteHouseModel" "made" "I")
theorem wd_769 : wv_769 ∈ tb_all := wd_o4 (i := 49) rfl rfl
abbrev wv_770 : Jvm.Cond := (Jvm.Cond.fieldLink "RouteHouseModel" (41 : Nat) "RouteHouseModel" "bytes" "[I")
theorem wd_770 : wv_770 ∈ tb_all := wd_o4 (i := 50) rfl rfl
abbrev wv_771 : Jvm.Cond := (Jvm.Cond.fieldLink "RouteHouseModel" (44 : Nat) "RouteHouseModel" "from" "[I")
theorem wd_771 : wv_771 ∈ tb_all := wd_o4 (i := 51) rfl rfl
abbrev wv_772 : Jvm.Cond := (Jvm.Cond.fieldLink "RouteHouseModel" (47 : Nat) "RouteHouseModel" "sizes" "[I")
theorem wd_772 : wv_772 ∈ tb_all := wd_o4 (i := 52) rfl rfl
abbrev wv_773 : Jvm.Cond := (Jvm.Cond.fieldLink "RouteHouseModel" (50 : Nat) "RouteHouseModel" "outPorts" "[I")
theorem wd_773 : wv_773 ∈ tb_all := wd_o4 (i := 53) rfl rfl
abbrev wv_774 : Jvm.Cond := (Jvm.Cond.fieldLink "RouteHouseModel" (53 : Nat) "RouteHouseModel" "outNexts" "[I")
theorem wd_774 : wv_774 ∈ tb_all := wd_o4 (i := 54) rfl rfl
abbrev wv_775 : Jvm.Cond := (Jvm.Cond.fieldLink "RouteHouseModel" (143 : Nat) "RouteHouseModel" "outs" "I")
theorem wd_775 : wv_775 ∈ tb_all := wd_o4 (i := 55) rfl rfl
abbrev wv_776 : Jvm.Cond := (Jvm.Cond.fieldLink "RouteHouseModel" (56 : Nat) "RouteHouseModel" "tokens" "I")
theorem wd_776 : wv_776 ∈ tb_all := wd_o4 (i := 56) rfl rfl
abbrev wv_777 : Jvm.Cond := (Jvm.Cond.fieldLink "RouteHouseModel" (160 : Nat) "RouteHouseModel" "sentCount" "I")
theorem wd_777 : wv_777 ∈ tb_all := wd_o4 (i := 57) rfl rfl
abbrev wv_778 : Jvm.Cond := (Jvm.Cond.fieldLink "RouteHouseModel" (197 : Nat) "RouteHouseModel" "time" "I")
theorem wd_778 : wv_778 ∈ tb_all := wd_o4 (i := 58) rfl rfl
abbrev wv_779 : Jvm.Cond := (Jvm.Cond.fieldLink "RouteHouseModel" (207 : Nat) "RouteHouseModel" "deliveries" "I")
theorem wd_779 : wv_779 ∈ tb_all := wd_o4 (i := 59) rfl rfl
abbrev wv_780 : Jvm.Cond := (Jvm.Cond.fieldLink "RouteHouseModel" (210 : Nat) "RouteHouseModel" "deliveredFrom" "I")
theorem wd_780 : wv_780 ∈ tb_all := wd_o4 (i := 60) rfl rfl
abbrev wv_781 : Jvm.Cond := (Jvm.Cond.fieldLink "RouteHouseModel" (213 : Nat) "RouteHouseModel" "deliveredTo" "I")
theorem wd_781 : wv_781 ∈ tb_all := wd_o4 (i := 61) rfl rfl
abbrev wv_782 : Jvm.Cond := (Jvm.Cond.fieldLink "RouteHouseModel" (216 : Nat) "RouteHouseModel" "deliveredSize" "I")
theorem wd_782 : wv_782 ∈ tb_all := wd_o4 (i := 62) rfl rfl
abbrev wv_783 : Jvm.Cond := (Jvm.Cond.fieldLink "RouteHouseModel" (60 : Nat) "RouteHouseModel" "delivered" "[I")
theorem wd_783 : wv_783 ∈ tb_all := wd_o4 (i := 63) rfl rfl
abbrev wv_784 : Jvm.Cond := (Jvm.Cond.fieldLink "RouteHouseModel" (176 : Nat) "RouteHouseModel" "waits" "I")
theorem wd_784 : wv_784 ∈ tb_all := wd_o4 (i := 64) rfl rfl
abbrev wv_785 : Jvm.Cond := (Jvm.Cond.fieldLink "RouteHouseModel" (63 : Nat) "RouteHouseModel" "sources" "[I")
theorem wd_785 : wv_785 ∈ tb_all := wd_o4 (i := 65) rfl rfl
abbrev wv_786 : Jvm.Cond := (Jvm.Cond.fieldLink "RouteHouseModel" (66 : Nat) "RouteHouseModel" "targets" "[I")
theorem wd_786 : wv_786 ∈ tb_all := wd_o4 (i := 66) rfl rfl
abbrev wv_787 : Jvm.Cond := (Jvm.Cond.fieldLink "RouteHouseModel" (69 : Nat) "RouteHouseModel" "names" "[I")
theorem wd_787 : wv_787 ∈ tb_all := wd_o4 (i := 67) rfl rfl
abbrev wv_788 : Jvm.Cond := (Jvm.Cond.fieldLink "RouteHouseModel" (72 : Nat) "RouteHouseModel" "since" "[I")
theorem wd_788 : wv_788 ∈ tb_all := wd_o4 (i := 68) rfl rfl
abbrev wv_789 : Jvm.Cond := (Jvm.Cond.fieldLink "RouteHouseModel" (75 : Nat) "RouteHouseModel" "ends" "[I")
theorem wd_789 : wv_789 ∈ tb_all := wd_o4 (i := 69) rfl rfl
abbrev wv_790 : Jvm.Cond := (Jvm.Cond.fieldLink "RouteHouseModel" (78 : Nat) "RouteHouseModel" "tops" "[I")
theorem wd_790 : wv_790 ∈ tb_all := wd_o4 (i := 70) rfl rfl
abbrev wv_791 : Jvm.Cond := (Jvm.Cond.fieldLink "RouteHouseModel" (81 : Nat) "RouteHouseModel" "headSizes" "[I")
theorem wd_791 : wv_791 ∈ tb_all := wd_o4 (i := 71) rfl rfl
abbrev wv_792 : Jvm.Cond := (Jvm.Cond.fieldLink "RouteHouseModel" (84 : Nat) "RouteHouseModel" "heads" "[I")
theorem wd_792 : wv_792 ∈ tb_all := wd_o4 (i := 72) rfl rfl
abbrev wv_793 : Jvm.Cond := (Jvm.Cond.fieldLink "RouteHouseModel" (87 : Nat) "RouteHouseModel" "firsts" "[I")
theorem wd_793 : wv_793 ∈ tb_all := wd_o4 (i := 73) rfl rfl
abbrev wv_794 : Jvm.Cond := (Jvm.Cond.fieldLink "RouteHouseModel" (90 : Nat) "RouteHouseModel" "firstSizes" "[I")
theorem wd_794 : wv_794 ∈ tb_all := wd_o4 (i := 74) rfl rfl
abbrev wv_795 : Jvm.Cond := (Jvm.Cond.fieldLink "RouteHouseModel" (93 : Nat) "RouteHouseModel" "firstPorts" "[I")
theorem wd_795 : wv_795 ∈ tb_all := wd_o4 (i := 75) rfl rfl
abbrev wv_796 : Jvm.Cond := (Jvm.Cond.fieldLink "RouteHouseModel" (96 : Nat) "RouteHouseModel" "parts" "[I")
theorem wd_796 : wv_796 ∈ tb_all := wd_o4 (i := 76) rfl rfl
abbrev wv_797 : Jvm.Cond := (Jvm.Cond.fieldLink "RouteHouseModel" (99 : Nat) "RouteHouseModel" "there" "[Z")
theorem wd_797 : wv_797 ∈ tb_all := wd_o4 (i := 77) rfl rfl
abbrev wv_798 : Jvm.Cond := (Jvm.Cond.fieldLink "RouteHouseModel" (102 : Nat) "RouteHouseModel" "thrown" "I")
theorem wd_798 : wv_798 ∈ tb_all := wd_o4 (i := 78) rfl rfl
abbrev wv_799 : Jvm.Cond := (Jvm.Cond.laysFinal "RouteHouseModel" "RouteHouseModel" "addresses" "[I")
theorem wd_799 : wv_799 ∈ tb_all := wd_o4 (i := 79) rfl rfl
abbrev wv_801 : Jvm.Cond := (Jvm.Cond.laysFinal "RouteHouseModel" "RouteHouseModel" "mtus" "[I")
theorem wd_801 : wv_801 ∈ tb_all := wd_o4 (i := 81) rfl rfl
abbrev wv_803 : Jvm.Cond := (Jvm.Cond.laysFinal "RouteHouseModel" "RouteHouseModel" "down" "[Z")
theorem wd_803 : wv_803 ∈ tb_all := wd_o4 (i := 83) rfl rfl
abbrev wv_805 : Jvm.Cond := (Jvm.Cond.laysFinal "RouteHouseModel" "RouteHouseModel" "starts" "[I")
theorem wd_805 : wv_805 ∈ tb_all := wd_o4 (i := 85) rfl rfl
abbrev wv_807 : Jvm.Cond := (Jvm.Cond.laysFinal "RouteHouseModel" "RouteHouseModel" "lengths" "[I")
theorem wd_807 : wv_807 ∈ tb_all := wd_o4 (i := 87) rfl rfl
abbrev wv_809 : Jvm.Cond := (Jvm.Cond.laysFinal "RouteHouseModel" "RouteHouseModel" "ports" "[I")
theorem wd_809 : wv_809 ∈ tb_all := wd_o4 (i := 89) rfl rfl
abbrev wv_811 : Jvm.Cond := (Jvm.Cond.laysFinal "RouteHouseModel" "RouteHouseModel" "nexts" "[I")
theorem wd_811 : wv_811 ∈ tb_all := wd_o4 (i := 91) rfl rfl
abbrev wv_813 : Jvm.Cond := (Jvm.Cond.lays "RouteHouseModel" "RouteHouseModel" "routes" "I")
theorem wd_813 : wv_813 ∈ tb_all := wd_o4 (i := 93) rfl rfl
abbrev wv_815 : Jvm.Cond := (Jvm.Cond.laysFinal "RouteHouseModel" "RouteHouseModel" "tape" "[I")
theorem wd_815 : wv_815 ∈ tb_all := wd_o4 (i := 95) rfl rfl
abbrev wv_817 : Jvm.Cond := (Jvm.Cond.lays "RouteHouseModel" "RouteHouseModel" "taped" "I")
theorem wd_817 : wv_817 ∈ tb_all := wd_o4 (i := 97) rfl rfl
abbrev wv_819 : Jvm.Cond := (Jvm.Cond.laysFinal "RouteHouseModel" "RouteHouseModel" "p" "[I")
theorem wd_819 : wv_819 ∈ tb_all := wd_o4 (i := 99) rfl rfl
abbrev wv_821 : Jvm.Cond := (Jvm.Cond.laysFinal "RouteHouseModel" "RouteHouseModel" "q" "[I")
theorem wd_821 : wv_821 ∈ tb_all := wd_o4 (i := 101) rfl rfl
abbrev wv_823 : Jvm.Cond := (Jvm.Cond.lays "RouteHouseModel" "RouteHouseModel" "size" "I")
theorem wd_823 : wv_823 ∈ tb_all := wd_o4 (i := 103) rfl rfl
abbrev wv_825 : Jvm.Cond := (Jvm.Cond.lays "RouteHouseModel" "RouteHouseModel" "made" "I")
theorem wd_825 : wv_825 ∈ tb_all := wd_o4 (i := 105) rfl rfl
abbrev wv_827 : Jvm.Cond := (Jvm.Cond.laysFinal "RouteHouseModel" "RouteHouseModel" "bytes" "[I")
theorem wd_827 : wv_827 ∈ tb_all := wd_o4 (i := 107) rfl rfl
abbrev wv_829 : Jvm.Cond := (Jvm.Cond.laysFinal "RouteHouseModel" "RouteHouseModel" "from" "[I")
theorem wd_829 : wv_829 ∈ tb_all := wd_o4 (i := 109) rfl rfl
abbrev wv_831 : Jvm.Cond := (Jvm.Cond.laysFinal "RouteHouseModel" "RouteHouseModel" "sizes" "[I")
theorem wd_831 : wv_831 ∈ tb_all := wd_o4 (i := 111) rfl rfl
abbrev wv_833 : Jvm.Cond := (Jvm.Cond.laysFinal "RouteHouseModel" "RouteHouseModel" "outPorts" "[I")
theorem wd_833 : wv_833 ∈ tb_all := wd_o4 (i := 113) rfl rfl
abbrev wv_835 : Jvm.Cond := (Jvm.Cond.laysFinal "RouteHouseModel" "RouteHouseModel" "outNexts" "[I")
theorem wd_835 : wv_835 ∈ tb_all := wd_o4 (i := 115) rfl rfl
abbrev wv_837 : Jvm.Cond := (Jvm.Cond.lays "RouteHouseModel" "RouteHouseModel" "outs" "I")
theorem wd_837 : wv_837 ∈ tb_all := wd_o4 (i := 117) rfl rfl
abbrev wv_839 : Jvm.Cond := (Jvm.Cond.lays "RouteHouseModel" "RouteHouseModel" "tokens" "I")
theorem wd_839 : wv_839 ∈ tb_all := wd_o4 (i := 119) rfl rfl
abbrev wv_841 : Jvm.Cond := (Jvm.Cond.lays "RouteHouseModel" "RouteHouseModel" "sentCount" "I")
theorem wd_841 : wv_841 ∈ tb_all := wd_o4 (i := 121) rfl rfl
abbrev wv_843 : Jvm.Cond := (Jvm.Cond.lays "RouteHouseModel" "RouteHouseModel" "time" "I")
theorem wd_843 : wv_843 ∈ tb_all := wd_o4 (i := 123) rfl rfl
abbrev wv_845 : Jvm.Cond := (Jvm.Cond.lays "RouteHouseModel" "RouteHouseModel" "deliveries" "I")
theorem wd_845 : wv_845 ∈ tb_all := wd_o4 (i := 125) rfl rfl
abbrev wv_847 : Jvm.Cond := (Jvm.Cond.lays "RouteHouseModel" "RouteHouseModel" "deliveredFrom" "I")
theorem wd_847 : wv_847 ∈ tb_all := wd_o4 (i := 127) rfl rfl
abbrev wv_849 : Jvm.Cond := (Jvm.Cond.lays "RouteHouseModel" "RouteHouseModel" "deliveredTo" "I")
theorem wd_849 : wv_849 ∈ tb_all := wd_o4 (i := 129) rfl rfl
abbrev wv_851 : Jvm.Cond := (Jvm.Cond.lays "RouteHouseModel" "RouteHouseModel" "deliveredSize" "I")
theorem wd_851 : wv_851 ∈ tb_all := wd_o4 (i := 131) rfl rfl
abbrev wv_853 : Jvm.Cond := (Jvm.Cond.laysFinal "RouteHouseModel" "RouteHouseModel" "delivered" "[I")
theorem wd_853 : wv_853 ∈ tb_all := wd_o4 (i := 133) rfl rfl
abbrev wv_855 : Jvm.Cond := (Jvm.Cond.lays "RouteHouseModel" "RouteHouseModel" "waits" "I")
theorem wd_855 : wv_855 ∈ tb_all := wd_o4 (i := 135) rfl rfl
abbrev wv_857 : Jvm.Cond := (Jvm.Cond.laysFinal "RouteHouseModel" "RouteHouseModel" "sources" "[I")
theorem wd_857 : wv_857 ∈ tb_all := wd_o4 (i := 137) rfl rfl
abbrev wv_859 : Jvm.Cond := (Jvm.Cond.laysFinal "RouteHouseModel" "RouteHouseModel" "targets" "[I")
theorem wd_859 : wv_859 ∈ tb_all := wd_o4 (i := 139) rfl rfl
abbrev wv_861 : Jvm.Cond := (Jvm.Cond.laysFinal "RouteHouseModel" "RouteHouseModel" "names" "[I")
theorem wd_861 : wv_861 ∈ tb_all := wd_o4 (i := 141) rfl rfl
abbrev wv_863 : Jvm.Cond := (Jvm.Cond.laysFinal "RouteHouseModel" "RouteHouseModel" "since" "[I")
theorem wd_863 : wv_863 ∈ tb_all := wd_o4 (i := 143) rfl rfl
abbrev wv_865 : Jvm.Cond := (Jvm.Cond.laysFinal "RouteHouseModel" "RouteHouseModel" "ends" "[I")
theorem wd_865 : wv_865 ∈ tb_all := wd_o4 (i := 145) rfl rfl
abbrev wv_867 : Jvm.Cond := (Jvm.Cond.laysFinal "RouteHouseModel" "RouteHouseModel" "tops" "[I")
theorem wd_867 : wv_867 ∈ tb_all := wd_o4 (i := 147) rfl rfl
abbrev wv_869 : Jvm.Cond := (Jvm.Cond.laysFinal "RouteHouseModel" "RouteHouseModel" "headSizes" "[I")
theorem wd_869 : wv_869 ∈ tb_all := wd_o4 (i := 149) rfl rfl
abbrev wv_871 : Jvm.Cond := (Jvm.Cond.laysFinal "RouteHouseModel" "RouteHouseModel" "heads" "[I")
theorem wd_871 : wv_871 ∈ tb_all := wd_o4 (i := 151) rfl rfl
abbrev wv_873 : Jvm.Cond := (Jvm.Cond.laysFinal "RouteHouseModel" "RouteHouseModel" "firsts" "[I")
theorem wd_873 : wv_873 ∈ tb_all := wd_o4 (i := 153) rfl rfl
abbrev wv_875 : Jvm.Cond := (Jvm.Cond.laysFinal "RouteHouseModel" "RouteHouseModel" "firstSizes" "[I")
theorem wd_875 : wv_875 ∈ tb_all := wd_o4 (i := 155) rfl rfl
abbrev wv_877 : Jvm.Cond := (Jvm.Cond.laysFinal "RouteHouseModel" "RouteHouseModel" "firstPorts" "[I")
theorem wd_877 : wv_877 ∈ tb_all := wd_o4 (i := 157) rfl rfl
abbrev wv_879 : Jvm.Cond := (Jvm.Cond.laysFinal "RouteHouseModel" "RouteHouseModel" "parts" "[I")
theorem wd_879 : wv_879 ∈ tb_all := wd_o4 (i := 159) rfl rfl
abbrev wv_881 : Jvm.Cond := (Jvm.Cond.laysFinal "RouteHouseModel" "RouteHouseModel" "there" "[Z")
theorem wd_881 : wv_881 ∈ tb_all := wd_o4 (i := 161) rfl rfl
abbrev wv_883 : Jvm.Cond := (Jvm.Cond.lays "RouteHouseModel" "RouteHouseModel" "thrown" "I")
theorem wd_883 : wv_883 ∈ tb_all := wd_o4 (i := 163) rfl rfl
abbrev wv_894 : Jvm.Cond := (Jvm.Cond.methodLink "RouteHouseModel" (105 : Nat) ({ cls := "RouteHouseModel", name := "isPort", desc := "(I)Z" } : Jvm.MethodName))
theorem wd_894 : wv_894 ∈ tb_all := wd_o4 (i := 174) rfl rfl
abbrev wv_895 : Jvm.Cond := (Jvm.Cond.static ({ cls := "RouteHouseModel", name := "isPort", desc := "(I)Z" } : Jvm.MethodName))
theorem wd_895 : wv_895 ∈ tb_all := wd_o4 (i := 175) rfl rfl
abbrev wv_896 : Jvm.Cond := (Jvm.Cond.code ({ cls := "RouteHouseModel", name := "isPort", desc := "(I)Z" } : Jvm.MethodName) prog_11_method_4_code (1 : Nat) (Option.some Jvm.ClassFile.FieldType.boolean))
theorem wd_896 : wv_896 ∈ tb_all := wd_o4 (i := 176) rfl rfl
abbrev wv_897 : Jvm.Cond := (Jvm.Cond.methodLink "RouteHouseModel" (109 : Nat) ({ cls := "RouteHouseModel", name := "fails", desc := "(ZI)Z" } : Jvm.MethodName))
theorem wd_897 : wv_897 ∈ tb_all := wd_o4 (i := 177) rfl rfl
abbrev wv_899 : Jvm.Cond := (Jvm.Cond.instanceMethod ({ cls := "RouteHouseModel", name := "fails", desc := "(ZI)Z" } : Jvm.MethodName))
theorem wd_899 : wv_899 ∈ tb_all := wd_o4 (i := 179) rfl rfl
abbrev wv_900 : Jvm.Cond := (Jvm.Cond.code ({ cls := "RouteHouseModel", name := "fails", desc := "(ZI)Z" } : Jvm.MethodName) prog_11_method_3_code (3 : Nat) (Option.some Jvm.ClassFile.FieldType.boolean))
theorem wd_900 : wv_900 ∈ tb_all := wd_o4 (i := 180) rfl rfl
abbrev wv_909 : Jvm.Cond := (Jvm.Cond.methodLink "RouteHouseModel" (120 : Nat) ({ cls := "RouteHouseModel", name := "routeFor", desc := "(II)I" } : Jvm.MethodName))
theorem wd_909 : wv_909 ∈ tb_all := wd_o4 (i := 189) rfl rfl
abbrev wv_911 : Jvm.Cond := (Jvm.Cond.instanceMethod ({ cls := "RouteHouseModel", name := "routeFor", desc := "(II)I" } : Jvm.MethodName))
theorem wd_911 : wv_911 ∈ tb_all := wd_o4 (i := 191) rfl rfl
abbrev wv_912 : Jvm.Cond := (Jvm.Cond.code ({ cls := "RouteHouseModel", name := "routeFor", desc := "(II)I" } : Jvm.MethodName) prog_11_method_8_code (4 : Nat) (Option.some Jvm.ClassFile.FieldType.int))
theorem wd_912 : wv_912 ∈ tb_all := wd_o4 (i := 192) rfl rfl
abbrev wv_913 : Jvm.Cond := (Jvm.Cond.methodLink "RouteHouseModel" (116 : Nat) ({ cls := "RouteHouseModel", name := "start", desc := "(II)I" } : Jvm.MethodName))
theorem wd_913 : wv_913 ∈ tb_all := wd_o4 (i := 193) rfl rfl
abbrev wv_914 : Jvm.Cond := (Jvm.Cond.static ({ cls := "RouteHouseModel", name := "start", desc := "(II)I" } : Jvm.MethodName))
theorem wd_914 : wv_914 ∈ tb_all := wd_o4 (i := 194) rfl rfl
abbrev wv_915 : Jvm.Cond := (Jvm.Cond.code ({ cls := "RouteHouseModel", name := "start", desc := "(II)I" } : Jvm.MethodName) prog_11_method_7_code (2 : Nat) (Option.some Jvm.ClassFile.FieldType.int))
theorem wd_915 : wv_915 ∈ tb_all := wd_o4 (i := 195) rfl rfl
abbrev wv_924 : Jvm.Cond := (Jvm.Cond.methodLink "RouteHouseModel" (123 : Nat) ({ cls := "RouteHouseModel", name := "find", desc := "(I)I" } : Jvm.MethodName))
theorem wd_924 : wv_924 ∈ tb_all := wd_o4 (i := 204) rfl rfl
abbrev wv_926 : Jvm.Cond := (Jvm.Cond.instanceMethod ({ cls := "RouteHouseModel", name := "find", desc := "(I)I" } : Jvm.MethodName))
theorem wd_926 : wv_926 ∈ tb_all := wd_o4 (i := 206) rfl rfl
abbrev wv_927 : Jvm.Cond := (Jvm.Cond.code ({ cls := "RouteHouseModel", name := "find", desc := "(I)I" } : Jvm.MethodName) prog_11_method_11_code (4 : Nat) (Option.some Jvm.ClassFile.FieldType.int))
theorem wd_927 : wv_927 ∈ tb_all := wd_o4 (i := 207) rfl rfl
abbrev wv_940 : Jvm.Cond := (Jvm.Cond.methodLink "RouteHouseModel" (139 : Nat) ({ cls := "RouteHouseModel", name := "sumOf", desc := "([IIII)I" } : Jvm.MethodName))
theorem wd_940 : wv_940 ∈ tb_all := wd_o4 (i := 220) rfl rfl
abbrev wv_941 : Jvm.Cond := (Jvm.Cond.static ({ cls := "RouteHouseModel", name := "sumOf", desc := "([IIII)I" } : Jvm.MethodName))
theorem wd_941 : wv_941 ∈ tb_all := wd_o4 (i := 221) rfl rfl
abbrev wv_942 : Jvm.Cond := (Jvm.Cond.code ({ cls := "RouteHouseModel", name := "sumOf", desc := "([IIII)I" } : Jvm.MethodName) prog_11_method_15_code (7 : Nat) (Option.some Jvm.ClassFile.FieldType.int))
theorem wd_942 : wv_942 ∈ tb_all := wd_o4 (i := 222) rfl rfl
abbrev wv_943 : Jvm.Cond := (Jvm.Cond.constant "RouteHouseModel" (130 : Nat) (65535 : Int32))
theorem wd_943 : wv_943 ∈ tb_all := wd_o4 (i := 223) rfl rfl
abbrev wv_944 : Jvm.Cond := (Jvm.Cond.methodLink "RouteHouseModel" (135 : Nat) ({ cls := "RouteHouseModel", name := "putTwo", desc := "([III)V" } : Jvm.MethodName))
theorem wd_944 : wv_944 ∈ tb_all := wd_o4 (i := 224) rfl rfl
abbrev wv_945 : Jvm.Cond := (Jvm.Cond.static ({ cls := "RouteHouseModel", name := "putTwo", desc := "([III)V" } : Jvm.MethodName))
theorem wd_945 : wv_945 ∈ tb_all := wd_o4 (i := 225) rfl rfl
abbrev wv_946 : Jvm.Cond := (Jvm.Cond.code ({ cls := "RouteHouseModel", name := "putTwo", desc := "([III)V" } : Jvm.MethodName) prog_11_method_16_code (3 : Nat) (Option.none : Option Jvm.ClassFile.FieldType))
theorem wd_946 : wv_946 ∈ tb_all := wd_o4 (i := 226) rfl rfl
abbrev wv_955 : Jvm.Cond := (Jvm.Cond.methodLink "RouteHouseModel" (237 : Nat) ({ cls := "RouteHouseModel", name := "judge", desc := "(II)I" } : Jvm.MethodName))
theorem wd_955 : wv_955 ∈ tb_all := wd_o4 (i := 235) rfl rfl
abbrev wv_957 : Jvm.Cond := (Jvm.Cond.instanceMethod ({ cls := "RouteHouseModel", name := "judge", desc := "(II)I" } : Jvm.MethodName))
theorem wd_957 : wv_957 ∈ tb_all := wd_o4 (i := 237) rfl rfl
abbrev wv_958 : Jvm.Cond := (Jvm.Cond.code ({ cls := "RouteHouseModel", name := "judge", desc := "(II)I" } : Jvm.MethodName) prog_11_method_39_code (7 : Nat) (Option.some Jvm.ClassFile.FieldType.int))
theorem wd_958 : wv_958 ∈ tb_all := wd_o4 (i := 238) rfl rfl
abbrev wv_959 : Jvm.Cond := (Jvm.Cond.methodLink "RouteHouseModel" (131 : Nat) ({ cls := "RouteHouseModel", name := "two", desc := "([II)I" } : Jvm.MethodName))
theorem wd_959 : wv_959 ∈ tb_all := wd_o4 (i := 239) rfl rfl
abbrev wv_960 : Jvm.Cond := (Jvm.Cond.static ({ cls := "RouteHouseModel", name := "two", desc := "([II)I" } : Jvm.MethodName))
theorem wd_960 : wv_960 ∈ tb_all := wd_o5 (i := 0) rfl rfl
abbrev wv_961 : Jvm.Cond := (Jvm.Cond.code ({ cls := "RouteHouseModel", name := "two", desc := "([II)I" } : Jvm.MethodName) prog_11_method_17_code (2 : Nat) (Option.some Jvm.ClassFile.FieldType.int))
theorem wd_961 : wv_961 ∈ tb_all := wd_o5 (i := 1) rfl rfl
abbrev wv_962 : Jvm.Cond := (Jvm.Cond.methodLink "RouteHouseModel" (219 : Nat) ({ cls := "RouteHouseModel", name := "isStrange", desc := "(I)Z" } : Jvm.MethodName))
theorem wd_962 : wv_962 ∈ tb_all := wd_o5 (i := 2) rfl rfl
abbrev wv_963 : Jvm.Cond := (Jvm.Cond.static ({ cls := "RouteHouseModel", name := "isStrange", desc := "(I)Z" } : Jvm.MethodName))
theorem wd_963 : wv_963 ∈ tb_all := wd_o5 (i := 3) rfl rfl
abbrev wv_964 : Jvm.Cond := (Jvm.Cond.code ({ cls := "RouteHouseModel", name := "isStrange", desc := "(I)Z" } : Jvm.MethodName) prog_11_method_36_code (1 : Nat) (Option.some Jvm.ClassFile.FieldType.boolean))
theorem wd_964 : wv_964 ∈ tb_all := wd_o5 (i := 4) rfl rfl
abbrev wv_965 : Jvm.Cond := (Jvm.Cond.methodLink "RouteHouseModel" (222 : Nat) ({ cls := "RouteHouseModel", name := "wrongOption", desc := "(I)I" } : Jvm.MethodName))
theorem wd_965 : wv_965 ∈ tb_all := wd_o5 (i := 5) rfl rfl
abbrev wv_967 : Jvm.Cond := (Jvm.Cond.instanceMethod ({ cls := "RouteHouseModel", name := "wrongOption", desc := "(I)I" } : Jvm.MethodName))
theorem wd_967 : wv_967 ∈ tb_all := wd_o5 (i := 7) rfl rfl
abbrev wv_968 : Jvm.Cond := (Jvm.Cond.code ({ cls := "RouteHouseModel", name := "wrongOption", desc := "(I)I" } : Jvm.MethodName) prog_11_method_35_code (4 : Nat) (Option.some Jvm.ClassFile.FieldType.int))
theorem wd_968 : wv_968 ∈ tb_all := wd_o5 (i := 8) rfl rfl
abbrev wv_969 : Jvm.Cond := (Jvm.Cond.methodLink "RouteHouseModel" (203 : Nat) ({ cls := "RouteHouseModel", name := "error", desc := "(IIII)V" } : Jvm.MethodName))
theorem wd_969 : wv_969 ∈ tb_all := wd_o5 (i := 9) rfl rfl
abbrev wv_971 : Jvm.Cond := (Jvm.Cond.instanceMethod ({ cls := "RouteHouseModel", name := "error", desc := "(IIII)V" } : Jvm.MethodName))
theorem wd_971 : wv_971 ∈ tb_all := wd_o5 (i := 11) rfl rfl
abbrev wv_972 : Jvm.Cond := (Jvm.Cond.code ({ cls := "RouteHouseModel", name := "error", desc := "(IIII)V" } : Jvm.MethodName) prog_11_method_26_code (9 : Nat) (Option.none : Option Jvm.ClassFile.FieldType))
theorem wd_972 : wv_972 ∈ tb_all := wd_o5 (i := 12) rfl rfl
abbrev wv_973 : Jvm.Cond := (Jvm.Cond.methodLink "RouteHouseModel" (167 : Nat) ({ cls := "RouteHouseModel", name := "four", desc := "([II)I" } : Jvm.MethodName))
theorem wd_973 : wv_973 ∈ tb_all := wd_o5 (i := 13) rfl rfl
abbrev wv_974 : Jvm.Cond := (Jvm.Cond.static ({ cls := "RouteHouseModel", name := "four", desc := "([II)I" } : Jvm.MethodName))
theorem wd_974 : wv_974 ∈ tb_all := wd_o5 (i := 14) rfl rfl
abbrev wv_975 : Jvm.Cond := (Jvm.Cond.code ({ cls := "RouteHouseModel", name := "four", desc := "([II)I" } : Jvm.MethodName) prog_11_method_18_code (2 : Nat) (Option.some Jvm.ClassFile.FieldType.int))
theorem wd_975 : wv_975 ∈ tb_all := wd_o5 (i := 15) rfl rfl
abbrev wv_976 : Jvm.Cond := (Jvm.Cond.methodLink "RouteHouseModel" (170 : Nat) ({ cls := "RouteHouseModel", name := "begin", desc := "(II)V" } : Jvm.MethodName))
theorem wd_976 : wv_976 ∈ tb_all := wd_o5 (i := 16) rfl rfl
abbrev wv_978 : Jvm.Cond := (Jvm.Cond.instanceMethod ({ cls := "RouteHouseModel", name := "begin", desc := "(II)V" } : Jvm.MethodName))
theorem wd_978 : wv_978 ∈ tb_all := wd_o5 (i := 18) rfl rfl
abbrev wv_979 : Jvm.Cond := (Jvm.Cond.code ({ cls := "RouteHouseModel", name := "begin", desc := "(II)V" } : Jvm.MethodName) prog_11_method_25_code (4 : Nat) (Option.none : Option Jvm.ClassFile.FieldType))
theorem wd_979 : wv_979 ∈ tb_all := wd_o5 (i := 19) rfl rfl
abbrev wv_980 : Jvm.Cond := (Jvm.Cond.constant "RouteHouseModel" (163 : Nat) (65536 : Int32))
theorem wd_980 : wv_980 ∈ tb_all := wd_o5 (i := 20) rfl rfl
abbrev wv_981 : Jvm.Cond := (Jvm.Cond.methodLink "RouteHouseModel" (164 : Nat) ({ cls := "RouteHouseModel", name := "putFour", desc := "([III)V" } : Jvm.MethodName))
theorem wd_981 : wv_981 ∈ tb_all := wd_o5 (i := 21) rfl rfl
abbrev wv_982 : Jvm.Cond := (Jvm.Cond.static ({ cls := "RouteHouseModel", name := "putFour", desc := "([III)V" } : Jvm.MethodName))
theorem wd_982 : wv_982 ∈ tb_all := wd_o5 (i := 22) rfl rfl
abbrev wv_983 : Jvm.Cond := (Jvm.Cond.code ({ cls := "RouteHouseModel", name := "putFour", desc := "([III)V" } : Jvm.MethodName) prog_11_method_19_code (3 : Nat) (Option.none : Option Jvm.ClassFile.FieldType))
theorem wd_983 : wv_983 ∈ tb_all := wd_o5 (i := 23) rfl rfl
abbrev wv_984 : Jvm.Cond := (Jvm.Cond.methodLink "RouteHouseModel" (152 : Nat) ({ cls := "RouteHouseModel", name := "emit", desc := "(II)V" } : Jvm.MethodName))
theorem wd_984 : wv_984 ∈ tb_all := wd_o5 (i := 24) rfl rfl
abbrev wv_986 : Jvm.Cond := (Jvm.Cond.instanceMethod ({ cls := "RouteHouseModel", name := "emit", desc := "(II)V" } : Jvm.MethodName))
theorem wd_986 : wv_986 ∈ tb_all := wd_o5 (i := 26) rfl rfl
abbrev wv_987 : Jvm.Cond := (Jvm.Cond.code ({ cls := "RouteHouseModel", name := "emit", desc := "(II)V" } : Jvm.MethodName) prog_11_method_22_code (5 : Nat) (Option.none : Option Jvm.ClassFile.FieldType))
theorem wd_987 : wv_987 ∈ tb_all := wd_o5 (i := 27) rfl rfl
abbrev wv_988 : Jvm.Cond := (Jvm.Cond.methodLink "RouteHouseModel" (225 : Nat) ({ cls := "RouteHouseModel", name := "isOwn", desc := "(I)Z" } : Jvm.MethodName))
theorem wd_988 : wv_988 ∈ tb_all := wd_o5 (i := 28) rfl rfl
abbrev wv_990 : Jvm.Cond := (Jvm.Cond.instanceMethod ({ cls := "RouteHouseModel", name := "isOwn", desc := "(I)Z" } : Jvm.MethodName))
theorem wd_990 : wv_990 ∈ tb_all := wd_o5 (i := 30) rfl rfl
abbrev wv_991 : Jvm.Cond := (Jvm.Cond.code ({ cls := "RouteHouseModel", name := "isOwn", desc := "(I)Z" } : Jvm.MethodName) prog_11_method_34_code (3 : Nat) (Option.some Jvm.ClassFile.FieldType.boolean))
theorem wd_991 : wv_991 ∈ tb_all := wd_o5 (i := 31) rfl rfl
abbrev wv_992 : Jvm.Cond := (Jvm.Cond.methodLink "RouteHouseModel" (228 : Nat) ({ cls := "RouteHouseModel", name := "pass0", desc := "(I)I" } : Jvm.MethodName))
theorem wd_992 : wv_992 ∈ tb_all := wd_o5 (i := 32) rfl rfl
abbrev wv_994 : Jvm.Cond := (Jvm.Cond.instanceMethod ({ cls := "RouteHouseModel", name := "pass0", desc := "(I)I" } : Jvm.MethodName))
theorem wd_994 : wv_994 ∈ tb_all := wd_o5 (i := 34) rfl rfl
abbrev wv_995 : Jvm.Cond := (Jvm.Cond.code ({ cls := "RouteHouseModel", name := "pass0", desc := "(I)I" } : Jvm.MethodName) prog_11_method_38_code (4 : Nat) (Option.some Jvm.ClassFile.FieldType.int))
theorem wd_995 : wv_995 ∈ tb_all := wd_o5 (i := 35) rfl rfl
abbrev wv_996 : Jvm.Cond := (Jvm.Cond.methodLink "RouteHouseModel" (173 : Nat) ({ cls := "RouteHouseModel", name := "send", desc := "(II)V" } : Jvm.MethodName))
theorem wd_996 : wv_996 ∈ tb_all := wd_o5 (i := 36) rfl rfl
abbrev wv_998 : Jvm.Cond := (Jvm.Cond.instanceMethod ({ cls := "RouteHouseModel", name := "send", desc := "(II)V" } : Jvm.MethodName))
theorem wd_998 : wv_998 ∈ tb_all := wd_o5 (i := 38) rfl rfl
abbrev wv_999 : Jvm.Cond := (Jvm.Cond.code ({ cls := "RouteHouseModel", name := "send", desc := "(II)V" } : Jvm.MethodName) prog_11_method_23_code (12 : Nat) (Option.none : Option Jvm.ClassFile.FieldType))
theorem wd_999 : wv_999 ∈ tb_all := wd_o5 (i := 39) rfl rfl
abbrev wv_1000 : Jvm.Cond := (Jvm.Cond.methodLink "RouteHouseModel" (156 : Nat) ({ cls := "RouteHouseModel", name := "laterHeader", desc := "(I)I" } : Jvm.MethodName))
theorem wd_1000 : wv_1000 ∈ tb_all := wd_o5 (i := 40) rfl rfl
abbrev wv_1002 : Jvm.Cond := (Jvm.Cond.instanceMethod ({ cls := "RouteHouseModel", name := "laterHeader", desc := "(I)I" } : Jvm.MethodName))
theorem wd_1002 : wv_1002 ∈ tb_all := wd_o5 (i := 42) rfl rfl
abbrev wv_1003 : Jvm.Cond := (Jvm.Cond.code ({ cls := "RouteHouseModel", name := "laterHeader", desc := "(I)I" } : Jvm.MethodName) prog_11_method_24_code (7 : Nat) (Option.some Jvm.ClassFile.FieldType.int))
theorem wd_1003 : wv_1003 ∈ tb_all := wd_o5 (i := 43) rfl rfl
abbrev wv_1004 : Jvm.Cond := (Jvm.Cond.constant "RouteHouseModel" (159 : Nat) (49152 : Int32))
theorem wd_1004 : wv_1004 ∈ tb_all := wd_o5 (i := 44) rfl rfl
abbrev wv_1005 : Jvm.Cond := (Jvm.Cond.methodLink "RouteHouseModel" (231 : Nat) ({ cls := "RouteHouseModel", name := "joins", desc := "(I)Z" } : Jvm.MethodName))
theorem wd_1005 : wv_1005 ∈ tb_all := wd_o5 (i := 45) rfl rfl
abbrev wv_1007 : Jvm.Cond := (Jvm.Cond.instanceMethod ({ cls := "RouteHouseModel", name := "joins", desc := "(I)Z" } : Jvm.MethodName))
theorem wd_1007 : wv_1007 ∈ tb_all := wd_o5 (i := 47) rfl rfl
abbrev wv_1008 : Jvm.Cond := (Jvm.Cond.code ({ cls := "RouteHouseModel", name := "joins", desc := "(I)Z" } : Jvm.MethodName) prog_11_method_33_code (9 : Nat) (Option.some Jvm.ClassFile.FieldType.boolean))
theorem wd_1008 : wv_1008 ∈ tb_all := wd_o5 (i := 48) rfl rfl
abbrev wv_1009 : Jvm.Cond := (Jvm.Cond.methodLink "RouteHouseModel" (186 : Nat) ({ cls := "RouteHouseModel", name := "entry", desc := "()I" } : Jvm.MethodName))
theorem wd_1009 : wv_1009 ∈ tb_all := wd_o5 (i := 49) rfl rfl
abbrev wv_1011 : Jvm.Cond := (Jvm.Cond.instanceMethod ({ cls := "RouteHouseModel", name := "entry", desc := "()I" } : Jvm.MethodName))
theorem wd_1011 : wv_1011 ∈ tb_all := wd_o5 (i := 51) rfl rfl
abbrev wv_1012 : Jvm.Cond := (Jvm.Cond.code ({ cls := "RouteHouseModel", name := "entry", desc := "()I" } : Jvm.MethodName) prog_11_method_31_code (2 : Nat) (Option.some Jvm.ClassFile.FieldType.int))
theorem wd_1012 : wv_1012 ∈ tb_all := wd_o5 (i := 52) rfl rfl
abbrev wv_1013 : Jvm.Cond := (Jvm.Cond.methodLink "RouteHouseModel" (182 : Nat) ({ cls := "RouteHouseModel", name := "nameOf", desc := "()I" } : Jvm.MethodName))
theorem wd_1013 : wv_1013 ∈ tb_all := wd_o5 (i := 53) rfl rfl
abbrev wv_1015 : Jvm.Cond := (Jvm.Cond.instanceMethod ({ cls := "RouteHouseModel", name := "nameOf", desc := "()I" } : Jvm.MethodName))
theorem wd_1015 : wv_1015 ∈ tb_all := wd_o5 (i := 55) rfl rfl
abbrev wv_1016 : Jvm.Cond := (Jvm.Cond.code ({ cls := "RouteHouseModel", name := "nameOf", desc := "()I" } : Jvm.MethodName) prog_11_method_30_code (1 : Nat) (Option.some Jvm.ClassFile.FieldType.int))
theorem wd_1016 : wv_1016 ∈ tb_all := wd_o5 (i := 56) rfl rfl
abbrev wv_1017 : Jvm.Cond := (Jvm.Cond.methodLink "RouteHouseModel" (189 : Nat) ({ cls := "RouteHouseModel", name := "isWrong", desc := "(IIIZ)Z" } : Jvm.MethodName))
theorem wd_1017 : wv_1017 ∈ tb_all := wd_o5 (i := 57) rfl rfl
abbrev wv_1019 : Jvm.Cond := (Jvm.Cond.instanceMethod ({ cls := "RouteHouseModel", name := "isWrong", desc := "(IIIZ)Z" } : Jvm.MethodName))
theorem wd_1019 : wv_1019 ∈ tb_all := wd_o5 (i := 59) rfl rfl
abbrev wv_1020 : Jvm.Cond := (Jvm.Cond.code ({ cls := "RouteHouseModel", name := "isWrong", desc := "(IIIZ)Z" } : Jvm.MethodName) prog_11_method_32_code (6 : Nat) (Option.some Jvm.ClassFile.FieldType.boolean))
theorem wd_1020 : wv_1020 ∈ tb_all := wd_o5 (i := 60) rfl rfl
abbrev wv_1021 : Jvm.Cond := (Jvm.Cond.methodLink "RouteHouseModel" (193 : Nat) ({ cls := "RouteHouseModel", name := "drop", desc := "(I)V" } : Jvm.MethodName))
theorem wd_1021 : wv_1021 ∈ tb_all := wd_o5 (i := 61) rfl rfl
abbrev wv_1023 : Jvm.Cond := (Jvm.Cond.instanceMethod ({ cls := "RouteHouseModel", name := "drop", desc := "(I)V" } : Jvm.MethodName))
theorem wd_1023 : wv_1023 ∈ tb_all := wd_o5 (i := 63) rfl rfl
abbrev wv_1024 : Jvm.Cond := (Jvm.Cond.code ({ cls := "RouteHouseModel", name := "drop", desc := "(I)V" } : Jvm.MethodName) prog_11_method_29_code (3 : Nat) (Option.none : Option Jvm.ClassFile.FieldType))
theorem wd_1024 : wv_1024 ∈ tb_all := wd_o5 (i := 64) rfl rfl
abbrev wv_1025 : Jvm.Cond := (Jvm.Cond.methodLink "RouteHouseModel" (179 : Nat) ({ cls := "RouteHouseModel", name := "moveEntry", desc := "(II)V" } : Jvm.MethodName))
theorem wd_1025 : wv_1025 ∈ tb_all := wd_o5 (i := 65) rfl rfl
abbrev wv_1027 : Jvm.Cond := (Jvm.Cond.instanceMethod ({ cls := "RouteHouseModel", name := "moveEntry", desc := "(II)V" } : Jvm.MethodName))
theorem wd_1027 : wv_1027 ∈ tb_all := wd_o5 (i := 67) rfl rfl
abbrev wv_1028 : Jvm.Cond := (Jvm.Cond.code ({ cls := "RouteHouseModel", name := "moveEntry", desc := "(II)V" } : Jvm.MethodName) prog_11_method_28_code (4 : Nat) (Option.none : Option Jvm.ClassFile.FieldType))
theorem wd_1028 : wv_1028 ∈ tb_all := wd_o5 (i := 68) rfl rfl
abbrev wv_1029 : Jvm.Cond := (Jvm.Cond.methodLink "RouteHouseModel" (234 : Nat) ({ cls := "RouteHouseModel", name := "own", desc := "(I)I" } : Jvm.MethodName))
theorem wd_1029 : wv_1029 ∈ tb_all := wd_o5 (i := 69) rfl rfl
abbrev wv_1031 : Jvm.Cond := (Jvm.Cond.instanceMethod ({ cls := "RouteHouseModel", name := "own", desc := "(I)I" } : Jvm.MethodName))
theorem wd_1031 : wv_1031 ∈ tb_all := wd_o5 (i := 71) rfl rfl
abbrev wv_1032 : Jvm.Cond := (Jvm.Cond.code ({ cls := "RouteHouseModel", name := "own", desc := "(I)I" } : Jvm.MethodName) prog_11_method_37_code (5 : Nat) (Option.some Jvm.ClassFile.FieldType.int))
theorem wd_1032 : wv_1032 ∈ tb_all := wd_o5 (i := 72) rfl rfl
abbrev wv_1033 : Jvm.Cond := (Jvm.Cond.methodLink "RouteHouseModel" (200 : Nat) ({ cls := "RouteHouseModel", name := "answer", desc := "(I)V" } : Jvm.MethodName))
theorem wd_1033 : wv_1033 ∈ tb_all := wd_o5 (i := 73) rfl rfl
abbrev wv_1035 : Jvm.Cond := (Jvm.Cond.instanceMethod ({ cls := "RouteHouseModel", name := "answer", desc := "(I)V" } : Jvm.MethodName))
theorem wd_1035 : wv_1035 ∈ tb_all := wd_o5 (i := 75) rfl rfl
abbrev wv_1036 : Jvm.Cond := (Jvm.Cond.code ({ cls := "RouteHouseModel", name := "answer", desc := "(I)V" } : Jvm.MethodName) prog_11_method_27_code (5 : Nat) (Option.none : Option Jvm.ClassFile.FieldType))
theorem wd_1036 : wv_1036 ∈ tb_all := wd_o5 (i := 76) rfl rfl
abbrev wv_1041 : Jvm.Cond := (Jvm.Cond.methodLink "RouteHouseModel" (240 : Nat) ({ cls := "RouteHouseModel", name := "expire", desc := "()V" } : Jvm.MethodName))
theorem wd_1041 : wv_1041 ∈ tb_all := wd_o5 (i := 81) rfl rfl
abbrev wv_1043 : Jvm.Cond := (Jvm.Cond.instanceMethod ({ cls := "RouteHouseModel", name := "expire", desc := "()V" } : Jvm.MethodName))
theorem wd_1043 : wv_1043 ∈ tb_all := wd_o5 (i := 83) rfl rfl
abbrev wv_1044 : Jvm.Cond := (Jvm.Cond.code ({ cls := "RouteHouseModel", name := "expire", desc := "()V" } : Jvm.MethodName) prog_11_method_41_code (3 : Nat) (Option.none : Option Jvm.ClassFile.FieldType))
theorem wd_1044 : wv_1044 ∈ tb_all := wd_o5 (i := 84) rfl rfl
theorem wq_0 : Jvm.Cond.selects "RouteHouse" ⟨"RouteHouse", "refuseStrangePort", "(I)V"⟩ ⟨"RouteHouse", "refuseStrangePort", "(I)V"⟩ ∈ tb_all := wd_of (i := 0) rfl rfl
theorem wq_2 : Jvm.Cond.selects "RouteHouse" ⟨"RouteHouse", "refuseStrangeBits", "(I)V"⟩ ⟨"RouteHouse", "refuseStrangeBits", "(I)V"⟩ ∈ tb_all := wd_of (i := 2) rfl rfl
theorem wq_3 : Jvm.Cond.selects "RouteHouse" ⟨"RouteHouse", "refuseStrangePacket", "(I)V"⟩ ⟨"RouteHouse", "refuseStrangePacket", "(I)V"⟩ ∈ tb_all := wd_of (i := 3) rfl rfl
theorem wq_4 : Jvm.Cond.selects "RouteHouse" ⟨"RouteHouse", "takeSound", "(I)I"⟩ ⟨"RouteHouse", "takeSound", "(I)I"⟩ ∈ tb_all := wd_of (i := 4) rfl rfl
theorem wq_5 : Jvm.Cond.selects "RouteHouse" ⟨"RouteHouse", "sendError", "(LRouteHouse$Packet;IIII)V"⟩ ⟨"RouteHouse", "sendError", "(LRouteHouse$Packet;IIII)V"⟩ ∈ tb_all := wd_of (i := 5) rfl rfl
theorem wq_6 : Jvm.Cond.selects "RouteHouse" ⟨"RouteHouse", "sendReply", "(IIII)V"⟩ ⟨"RouteHouse", "sendReply", "(IIII)V"⟩ ∈ tb_all := wd_of (i := 6) rfl rfl
theorem wq_7 : Jvm.Cond.selects "RouteHouse$Outbox" ⟨"RouteHouse$Outbox", "addPiece", "(LRouteHouse$Packet;[BIIII)I"⟩ ⟨"RouteHouse$Outbox", "addPiece", "(LRouteHouse$Packet;[BIIII)I"⟩ ∈ tb_all := wd_of (i := 7) rfl rfl
theorem wq_8 : Jvm.Cond.selects "RouteHouse$Outbox" ⟨"RouteHouse$Outbox", "makeLaterHeader", "(LRouteHouse$Packet;)I"⟩ ⟨"RouteHouse$Outbox", "makeLaterHeader", "(LRouteHouse$Packet;)I"⟩ ∈ tb_all := wd_of (i := 8) rfl rfl
theorem wq_9 : Jvm.Cond.selects "RouteHouse" ⟨"RouteHouse", "isOwnAddress", "(I)Z"⟩ ⟨"RouteHouse", "isOwnAddress", "(I)Z"⟩ ∈ tb_all := wd_of (i := 9) rfl rfl
theorem wq_10 : Jvm.Cond.selects "RouteHouse" ⟨"RouteHouse", "takeOwn", "(I)I"⟩ ⟨"RouteHouse", "takeOwn", "(I)I"⟩ ∈ tb_all := wd_of (i := 10) rfl rfl
theorem wq_11 : Jvm.Cond.selects "RouteHouse$Waits" ⟨"RouteHouse$Waits", "find", "(LRouteHouse$Packet;)I"⟩ ⟨"RouteHouse$Waits", "find", "(LRouteHouse$Packet;)I"⟩ ∈ tb_all := wd_of (i := 11) rfl rfl
theorem wq_12 : Jvm.Cond.selects "RouteHouse$Waits" ⟨"RouteHouse$Waits", "isWrong", "(LRouteHouse$Packet;)Z"⟩ ⟨"RouteHouse$Waits", "isWrong", "(LRouteHouse$Packet;)Z"⟩ ∈ tb_all := wd_of (i := 12) rfl rfl
theorem wq_13 : Jvm.Cond.selects "RouteHouse$Waits" ⟨"RouteHouse$Waits", "begin", "(LRouteHouse$Packet;I)I"⟩ ⟨"RouteHouse$Waits", "begin", "(LRouteHouse$Packet;I)I"⟩ ∈ tb_all := wd_of (i := 13) rfl rfl
theorem wq_14 : Jvm.Cond.selects "RouteHouse" ⟨"RouteHouse", "sendAnswer", "(LRouteHouse$Packet;I)V"⟩ ⟨"RouteHouse", "sendAnswer", "(LRouteHouse$Packet;I)V"⟩ ∈ tb_all := wd_of (i := 14) rfl rfl
theorem wq_15 : Jvm.Cond.selects "RouteHouse" ⟨"RouteHouse", "sendOn", "(I)I"⟩ ⟨"RouteHouse", "sendOn", "(I)I"⟩ ∈ tb_all := wd_of (i := 15) rfl rfl
theorem wq_16 : Jvm.Cond.selects "RouteHouse" ⟨"RouteHouse", "passOne", "()V"⟩ ⟨"RouteHouse", "passOne", "()V"⟩ ∈ tb_all := wd_of (i := 16) rfl rfl
theorem wq_17 : Jvm.Cond.selects "RouteHouseModel" ⟨"RouteHouseModel", "fails", "(ZI)Z"⟩ ⟨"RouteHouseModel", "fails", "(ZI)Z"⟩ ∈ tb_all := wd_of (i := 17) rfl rfl
theorem wq_18 : Jvm.Cond.selects "RouteHouseModel" ⟨"RouteHouseModel", "routeFor", "(II)I"⟩ ⟨"RouteHouseModel", "routeFor", "(II)I"⟩ ∈ tb_all := wd_of (i := 18) rfl rfl
theorem wq_19 : Jvm.Cond.selects "RouteHouseModel" ⟨"RouteHouseModel", "find", "(I)I"⟩ ⟨"RouteHouseModel", "find", "(I)I"⟩ ∈ tb_all := wd_of (i := 19) rfl rfl
theorem wq_20 : Jvm.Cond.selects "RouteHouseModel" ⟨"RouteHouseModel", "judge", "(II)I"⟩ ⟨"RouteHouseModel", "judge", "(II)I"⟩ ∈ tb_all := wd_of (i := 20) rfl rfl
theorem wq_21 : Jvm.Cond.selects "RouteHouseModel" ⟨"RouteHouseModel", "wrongOption", "(I)I"⟩ ⟨"RouteHouseModel", "wrongOption", "(I)I"⟩ ∈ tb_all := wd_of (i := 21) rfl rfl
theorem wq_22 : Jvm.Cond.selects "RouteHouseModel" ⟨"RouteHouseModel", "error", "(IIII)V"⟩ ⟨"RouteHouseModel", "error", "(IIII)V"⟩ ∈ tb_all := wd_of (i := 22) rfl rfl
theorem wq_23 : Jvm.Cond.selects "RouteHouseModel" ⟨"RouteHouseModel", "begin", "(II)V"⟩ ⟨"RouteHouseModel", "begin", "(II)V"⟩ ∈ tb_all := wd_of (i := 23) rfl rfl
theorem wq_24 : Jvm.Cond.selects "RouteHouseModel" ⟨"RouteHouseModel", "emit", "(II)V"⟩ ⟨"RouteHouseModel", "emit", "(II)V"⟩ ∈ tb_all := wd_of (i := 24) rfl rfl
theorem wq_25 : Jvm.Cond.selects "RouteHouseModel" ⟨"RouteHouseModel", "isOwn", "(I)Z"⟩ ⟨"RouteHouseModel", "isOwn", "(I)Z"⟩ ∈ tb_all := wd_of (i := 25) rfl rfl
theorem wq_26 : Jvm.Cond.selects "RouteHouseModel" ⟨"RouteHouseModel", "pass0", "(I)I"⟩ ⟨"RouteHouseModel", "pass0", "(I)I"⟩ ∈ tb_all := wd_of (i := 26) rfl rfl
theorem wq_27 : Jvm.Cond.selects "RouteHouseModel" ⟨"RouteHouseModel", "send", "(II)V"⟩ ⟨"RouteHouseModel", "send", "(II)V"⟩ ∈ tb_all := wd_of (i := 27) rfl rfl
theorem wq_28 : Jvm.Cond.selects "RouteHouseModel" ⟨"RouteHouseModel", "laterHeader", "(I)I"⟩ ⟨"RouteHouseModel", "laterHeader", "(I)I"⟩ ∈ tb_all := wd_of (i := 28) rfl rfl
theorem wq_29 : Jvm.Cond.selects "RouteHouseModel" ⟨"RouteHouseModel", "joins", "(I)Z"⟩ ⟨"RouteHouseModel", "joins", "(I)Z"⟩ ∈ tb_all := wd_of (i := 29) rfl rfl
theorem wq_30 : Jvm.Cond.selects "RouteHouseModel" ⟨"RouteHouseModel", "entry", "()I"⟩ ⟨"RouteHouseModel", "entry", "()I"⟩ ∈ tb_all := wd_of (i := 30) rfl rfl
theorem wq_31 : Jvm.Cond.selects "RouteHouseModel" ⟨"RouteHouseModel", "nameOf", "()I"⟩ ⟨"RouteHouseModel", "nameOf", "()I"⟩ ∈ tb_all := wd_of (i := 31) rfl rfl
theorem wq_32 : Jvm.Cond.selects "RouteHouseModel" ⟨"RouteHouseModel", "isWrong", "(IIIZ)Z"⟩ ⟨"RouteHouseModel", "isWrong", "(IIIZ)Z"⟩ ∈ tb_all := wd_of (i := 32) rfl rfl
theorem wq_33 : Jvm.Cond.selects "RouteHouseModel" ⟨"RouteHouseModel", "drop", "(I)V"⟩ ⟨"RouteHouseModel", "drop", "(I)V"⟩ ∈ tb_all := wd_of (i := 33) rfl rfl
theorem wq_34 : Jvm.Cond.selects "RouteHouseModel" ⟨"RouteHouseModel", "moveEntry", "(II)V"⟩ ⟨"RouteHouseModel", "moveEntry", "(II)V"⟩ ∈ tb_all := wd_of (i := 34) rfl rfl
theorem wq_35 : Jvm.Cond.selects "RouteHouseModel" ⟨"RouteHouseModel", "own", "(I)I"⟩ ⟨"RouteHouseModel", "own", "(I)I"⟩ ∈ tb_all := wd_of (i := 35) rfl rfl
theorem wq_36 : Jvm.Cond.selects "RouteHouseModel" ⟨"RouteHouseModel", "answer", "(I)V"⟩ ⟨"RouteHouseModel", "answer", "(I)V"⟩ ∈ tb_all := wd_of (i := 36) rfl rfl
theorem wq_37 : Jvm.Cond.selects "RouteHouseModel" ⟨"RouteHouseModel", "expire", "()V"⟩ ⟨"RouteHouseModel", "expire", "()V"⟩ ∈ tb_all := wd_of (i := 37) rfl rfl
