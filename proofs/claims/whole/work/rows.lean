section
-- ===== PART A: goes FIRST, ahead of the names: the tables' words, and 'selects' of the private methods out of them =====
/-- a private method of a class that the tables say can be made, by its rows of tables_1 -/
def lw_okq (q : MethodName × Nat) : Prop := (q.1.cls ≠ "java/lang/invoke/MethodHandle" ∧ q.1.cls ≠ "java/lang/invoke/VarHandle") ∧ Cond.instantiable q.1.cls q.2 ∈ tables_1 ∧ Cond.privateMethod q.1 ∈ tables_1 ∧ Cond.instanceMethod q.1 ∈ tables_1
theorem lw_p0 : lw_okq (⟨"RouteHouse", "refuseStrangePort", "(I)V"⟩, 11) := ⟨⟨by decide +kernel, by decide +kernel⟩, List.mem_of_getElem? (i := 21) (by decide +kernel), List.mem_of_getElem? (i := 274) (by decide +kernel), List.mem_of_getElem? (i := 275) (by decide +kernel)⟩
theorem lw_p1 : lw_okq (⟨"java/lang/Throwable", "fillInStackTrace", "(I)Ljava/lang/Throwable;"⟩, 6) := ⟨⟨by decide +kernel, by decide +kernel⟩, List.mem_of_getElem? (i := 317) (by decide +kernel), List.mem_of_getElem? (i := 315) (by decide +kernel), List.mem_of_getElem? (i := 316) (by decide +kernel)⟩
theorem lw_p2 : lw_okq (⟨"RouteHouse", "refuseStrangeBits", "(I)V"⟩, 11) := ⟨⟨by decide +kernel, by decide +kernel⟩, List.mem_of_getElem? (i := 21) (by decide +kernel), List.mem_of_getElem? (i := 377) (by decide +kernel), List.mem_of_getElem? (i := 378) (by decide +kernel)⟩
theorem lw_p3 : lw_okq (⟨"RouteHouse", "refuseStrangePacket", "(I)V"⟩, 11) := ⟨⟨by decide +kernel, by decide +kernel⟩, List.mem_of_getElem? (i := 21) (by decide +kernel), List.mem_of_getElem? (i := 489) (by decide +kernel), List.mem_of_getElem? (i := 490) (by decide +kernel)⟩
theorem lw_p4 : lw_okq (⟨"RouteHouse", "takeSound", "(I)I"⟩, 11) := ⟨⟨by decide +kernel, by decide +kernel⟩, List.mem_of_getElem? (i := 21) (by decide +kernel), List.mem_of_getElem? (i := 533) (by decide +kernel), List.mem_of_getElem? (i := 534) (by decide +kernel)⟩
theorem lw_p5 : lw_okq (⟨"RouteHouse", "sendError", "(LRouteHouse$Packet;IIII)V"⟩, 11) := ⟨⟨by decide +kernel, by decide +kernel⟩, List.mem_of_getElem? (i := 21) (by decide +kernel), List.mem_of_getElem? (i := 545) (by decide +kernel), List.mem_of_getElem? (i := 546) (by decide +kernel)⟩
theorem lw_p6 : lw_okq (⟨"RouteHouse", "sendReply", "(IIII)V"⟩, 11) := ⟨⟨by decide +kernel, by decide +kernel⟩, List.mem_of_getElem? (i := 21) (by decide +kernel), List.mem_of_getElem? (i := 570) (by decide +kernel), List.mem_of_getElem? (i := 571) (by decide +kernel)⟩
theorem lw_p7 : lw_okq (⟨"RouteHouse$Outbox", "addPiece", "(LRouteHouse$Packet;[BIIII)I"⟩, 8) := ⟨⟨by decide +kernel, by decide +kernel⟩, List.mem_of_getElem? (i := 94) (by decide +kernel), List.mem_of_getElem? (i := 582) (by decide +kernel), List.mem_of_getElem? (i := 583) (by decide +kernel)⟩
theorem lw_p8 : lw_okq (⟨"RouteHouse$Outbox", "makeLaterHeader", "(LRouteHouse$Packet;)I"⟩, 8) := ⟨⟨by decide +kernel, by decide +kernel⟩, List.mem_of_getElem? (i := 94) (by decide +kernel), List.mem_of_getElem? (i := 590) (by decide +kernel), List.mem_of_getElem? (i := 591) (by decide +kernel)⟩
theorem lw_p9 : lw_okq (⟨"RouteHouse", "isOwnAddress", "(I)Z"⟩, 11) := ⟨⟨by decide +kernel, by decide +kernel⟩, List.mem_of_getElem? (i := 21) (by decide +kernel), List.mem_of_getElem? (i := 599) (by decide +kernel), List.mem_of_getElem? (i := 600) (by decide +kernel)⟩
theorem lw_p10 : lw_okq (⟨"RouteHouse", "takeOwn", "(I)I"⟩, 11) := ⟨⟨by decide +kernel, by decide +kernel⟩, List.mem_of_getElem? (i := 21) (by decide +kernel), List.mem_of_getElem? (i := 603) (by decide +kernel), List.mem_of_getElem? (i := 604) (by decide +kernel)⟩
theorem lw_p11 : lw_okq (⟨"RouteHouse$Waits", "find", "(LRouteHouse$Packet;)I"⟩, 2) := ⟨⟨by decide +kernel, by decide +kernel⟩, List.mem_of_getElem? (i := 131) (by decide +kernel), List.mem_of_getElem? (i := 615) (by decide +kernel), List.mem_of_getElem? (i := 616) (by decide +kernel)⟩
theorem lw_p12 : lw_okq (⟨"RouteHouse$Waits", "isWrong", "(LRouteHouse$Packet;)Z"⟩, 2) := ⟨⟨by decide +kernel, by decide +kernel⟩, List.mem_of_getElem? (i := 131) (by decide +kernel), List.mem_of_getElem? (i := 630) (by decide +kernel), List.mem_of_getElem? (i := 631) (by decide +kernel)⟩
theorem lw_p13 : lw_okq (⟨"RouteHouse$Waits", "begin", "(LRouteHouse$Packet;I)I"⟩, 2) := ⟨⟨by decide +kernel, by decide +kernel⟩, List.mem_of_getElem? (i := 131) (by decide +kernel), List.mem_of_getElem? (i := 651) (by decide +kernel), List.mem_of_getElem? (i := 652) (by decide +kernel)⟩
theorem lw_p14 : lw_okq (⟨"RouteHouse", "sendAnswer", "(LRouteHouse$Packet;I)V"⟩, 11) := ⟨⟨by decide +kernel, by decide +kernel⟩, List.mem_of_getElem? (i := 21) (by decide +kernel), List.mem_of_getElem? (i := 693) (by decide +kernel), List.mem_of_getElem? (i := 694) (by decide +kernel)⟩
theorem lw_p15 : lw_okq (⟨"RouteHouse", "sendOn", "(I)I"⟩, 11) := ⟨⟨by decide +kernel, by decide +kernel⟩, List.mem_of_getElem? (i := 21) (by decide +kernel), List.mem_of_getElem? (i := 697) (by decide +kernel), List.mem_of_getElem? (i := 698) (by decide +kernel)⟩
def lw_privs_1 : List (MethodName × Nat) := [(⟨"RouteHouse", "refuseStrangePort", "(I)V"⟩, 11), (⟨"java/lang/Throwable", "fillInStackTrace", "(I)Ljava/lang/Throwable;"⟩, 6), (⟨"RouteHouse", "refuseStrangeBits", "(I)V"⟩, 11), (⟨"RouteHouse", "refuseStrangePacket", "(I)V"⟩, 11), (⟨"RouteHouse", "takeSound", "(I)I"⟩, 11), (⟨"RouteHouse", "sendError", "(LRouteHouse$Packet;IIII)V"⟩, 11), (⟨"RouteHouse", "sendReply", "(IIII)V"⟩, 11), (⟨"RouteHouse$Outbox", "addPiece", "(LRouteHouse$Packet;[BIIII)I"⟩, 8), (⟨"RouteHouse$Outbox", "makeLaterHeader", "(LRouteHouse$Packet;)I"⟩, 8), (⟨"RouteHouse", "isOwnAddress", "(I)Z"⟩, 11), (⟨"RouteHouse", "takeOwn", "(I)I"⟩, 11), (⟨"RouteHouse$Waits", "find", "(LRouteHouse$Packet;)I"⟩, 2), (⟨"RouteHouse$Waits", "isWrong", "(LRouteHouse$Packet;)Z"⟩, 2), (⟨"RouteHouse$Waits", "begin", "(LRouteHouse$Packet;I)I"⟩, 2), (⟨"RouteHouse", "sendAnswer", "(LRouteHouse$Packet;I)V"⟩, 11), (⟨"RouteHouse", "sendOn", "(I)I"⟩, 11)]
theorem lw_r1 : ∀ q ∈ lw_privs_1, lw_okq q := List.forall_mem_cons.mpr ⟨lw_p0, List.forall_mem_cons.mpr ⟨lw_p1, List.forall_mem_cons.mpr ⟨lw_p2, List.forall_mem_cons.mpr ⟨lw_p3, List.forall_mem_cons.mpr ⟨lw_p4, List.forall_mem_cons.mpr ⟨lw_p5, List.forall_mem_cons.mpr ⟨lw_p6, List.forall_mem_cons.mpr ⟨lw_p7, List.forall_mem_cons.mpr ⟨lw_p8, List.forall_mem_cons.mpr ⟨lw_p9, List.forall_mem_cons.mpr ⟨lw_p10, List.forall_mem_cons.mpr ⟨lw_p11, List.forall_mem_cons.mpr ⟨lw_p12, List.forall_mem_cons.mpr ⟨lw_p13, List.forall_mem_cons.mpr ⟨lw_p14, List.forall_mem_cons.mpr ⟨lw_p15, fun _ h => absurd h List.not_mem_nil⟩⟩⟩⟩⟩⟩⟩⟩⟩⟩⟩⟩⟩⟩⟩⟩
theorem lw_p16 : lw_okq (⟨"RouteHouse", "passOne", "()V"⟩, 11) := ⟨⟨by decide +kernel, by decide +kernel⟩, List.mem_of_getElem? (i := 21) (by decide +kernel), List.mem_of_getElem? (i := 718) (by decide +kernel), List.mem_of_getElem? (i := 719) (by decide +kernel)⟩
theorem lw_p17 : lw_okq (⟨"RouteHouseModel", "fails", "(ZI)Z"⟩, 43) := ⟨⟨by decide +kernel, by decide +kernel⟩, List.mem_of_getElem? (i := 751) (by decide +kernel), List.mem_of_getElem? (i := 898) (by decide +kernel), List.mem_of_getElem? (i := 899) (by decide +kernel)⟩
theorem lw_p18 : lw_okq (⟨"RouteHouseModel", "routeFor", "(II)I"⟩, 43) := ⟨⟨by decide +kernel, by decide +kernel⟩, List.mem_of_getElem? (i := 751) (by decide +kernel), List.mem_of_getElem? (i := 910) (by decide +kernel), List.mem_of_getElem? (i := 911) (by decide +kernel)⟩
theorem lw_p19 : lw_okq (⟨"RouteHouseModel", "find", "(I)I"⟩, 43) := ⟨⟨by decide +kernel, by decide +kernel⟩, List.mem_of_getElem? (i := 751) (by decide +kernel), List.mem_of_getElem? (i := 925) (by decide +kernel), List.mem_of_getElem? (i := 926) (by decide +kernel)⟩
theorem lw_p20 : lw_okq (⟨"RouteHouseModel", "judge", "(II)I"⟩, 43) := ⟨⟨by decide +kernel, by decide +kernel⟩, List.mem_of_getElem? (i := 751) (by decide +kernel), List.mem_of_getElem? (i := 956) (by decide +kernel), List.mem_of_getElem? (i := 957) (by decide +kernel)⟩
theorem lw_p21 : lw_okq (⟨"RouteHouseModel", "wrongOption", "(I)I"⟩, 43) := ⟨⟨by decide +kernel, by decide +kernel⟩, List.mem_of_getElem? (i := 751) (by decide +kernel), List.mem_of_getElem? (i := 966) (by decide +kernel), List.mem_of_getElem? (i := 967) (by decide +kernel)⟩
theorem lw_p22 : lw_okq (⟨"RouteHouseModel", "error", "(IIII)V"⟩, 43) := ⟨⟨by decide +kernel, by decide +kernel⟩, List.mem_of_getElem? (i := 751) (by decide +kernel), List.mem_of_getElem? (i := 970) (by decide +kernel), List.mem_of_getElem? (i := 971) (by decide +kernel)⟩
theorem lw_p23 : lw_okq (⟨"RouteHouseModel", "begin", "(II)V"⟩, 43) := ⟨⟨by decide +kernel, by decide +kernel⟩, List.mem_of_getElem? (i := 751) (by decide +kernel), List.mem_of_getElem? (i := 977) (by decide +kernel), List.mem_of_getElem? (i := 978) (by decide +kernel)⟩
theorem lw_p24 : lw_okq (⟨"RouteHouseModel", "emit", "(II)V"⟩, 43) := ⟨⟨by decide +kernel, by decide +kernel⟩, List.mem_of_getElem? (i := 751) (by decide +kernel), List.mem_of_getElem? (i := 985) (by decide +kernel), List.mem_of_getElem? (i := 986) (by decide +kernel)⟩
theorem lw_p25 : lw_okq (⟨"RouteHouseModel", "isOwn", "(I)Z"⟩, 43) := ⟨⟨by decide +kernel, by decide +kernel⟩, List.mem_of_getElem? (i := 751) (by decide +kernel), List.mem_of_getElem? (i := 989) (by decide +kernel), List.mem_of_getElem? (i := 990) (by decide +kernel)⟩
theorem lw_p26 : lw_okq (⟨"RouteHouseModel", "pass0", "(I)I"⟩, 43) := ⟨⟨by decide +kernel, by decide +kernel⟩, List.mem_of_getElem? (i := 751) (by decide +kernel), List.mem_of_getElem? (i := 993) (by decide +kernel), List.mem_of_getElem? (i := 994) (by decide +kernel)⟩
theorem lw_p27 : lw_okq (⟨"RouteHouseModel", "send", "(II)V"⟩, 43) := ⟨⟨by decide +kernel, by decide +kernel⟩, List.mem_of_getElem? (i := 751) (by decide +kernel), List.mem_of_getElem? (i := 997) (by decide +kernel), List.mem_of_getElem? (i := 998) (by decide +kernel)⟩
theorem lw_p28 : lw_okq (⟨"RouteHouseModel", "laterHeader", "(I)I"⟩, 43) := ⟨⟨by decide +kernel, by decide +kernel⟩, List.mem_of_getElem? (i := 751) (by decide +kernel), List.mem_of_getElem? (i := 1001) (by decide +kernel), List.mem_of_getElem? (i := 1002) (by decide +kernel)⟩
theorem lw_p29 : lw_okq (⟨"RouteHouseModel", "joins", "(I)Z"⟩, 43) := ⟨⟨by decide +kernel, by decide +kernel⟩, List.mem_of_getElem? (i := 751) (by decide +kernel), List.mem_of_getElem? (i := 1006) (by decide +kernel), List.mem_of_getElem? (i := 1007) (by decide +kernel)⟩
theorem lw_p30 : lw_okq (⟨"RouteHouseModel", "entry", "()I"⟩, 43) := ⟨⟨by decide +kernel, by decide +kernel⟩, List.mem_of_getElem? (i := 751) (by decide +kernel), List.mem_of_getElem? (i := 1010) (by decide +kernel), List.mem_of_getElem? (i := 1011) (by decide +kernel)⟩
theorem lw_p31 : lw_okq (⟨"RouteHouseModel", "nameOf", "()I"⟩, 43) := ⟨⟨by decide +kernel, by decide +kernel⟩, List.mem_of_getElem? (i := 751) (by decide +kernel), List.mem_of_getElem? (i := 1014) (by decide +kernel), List.mem_of_getElem? (i := 1015) (by decide +kernel)⟩
def lw_privs_2 : List (MethodName × Nat) := [(⟨"RouteHouse", "passOne", "()V"⟩, 11), (⟨"RouteHouseModel", "fails", "(ZI)Z"⟩, 43), (⟨"RouteHouseModel", "routeFor", "(II)I"⟩, 43), (⟨"RouteHouseModel", "find", "(I)I"⟩, 43), (⟨"RouteHouseModel", "judge", "(II)I"⟩, 43), (⟨"RouteHouseModel", "wrongOption", "(I)I"⟩, 43), (⟨"RouteHouseModel", "error", "(IIII)V"⟩, 43), (⟨"RouteHouseModel", "begin", "(II)V"⟩, 43), (⟨"RouteHouseModel", "emit", "(II)V"⟩, 43), (⟨"RouteHouseModel", "isOwn", "(I)Z"⟩, 43), (⟨"RouteHouseModel", "pass0", "(I)I"⟩, 43), (⟨"RouteHouseModel", "send", "(II)V"⟩, 43), (⟨"RouteHouseModel", "laterHeader", "(I)I"⟩, 43), (⟨"RouteHouseModel", "joins", "(I)Z"⟩, 43), (⟨"RouteHouseModel", "entry", "()I"⟩, 43), (⟨"RouteHouseModel", "nameOf", "()I"⟩, 43)]
theorem lw_r2 : ∀ q ∈ lw_privs_2, lw_okq q := List.forall_mem_cons.mpr ⟨lw_p16, List.forall_mem_cons.mpr ⟨lw_p17, List.forall_mem_cons.mpr ⟨lw_p18, List.forall_mem_cons.mpr ⟨lw_p19, List.forall_mem_cons.mpr ⟨lw_p20, List.forall_mem_cons.mpr ⟨lw_p21, List.forall_mem_cons.mpr ⟨lw_p22, List.forall_mem_cons.mpr ⟨lw_p23, List.forall_mem_cons.mpr ⟨lw_p24, List.forall_mem_cons.mpr ⟨lw_p25, List.forall_mem_cons.mpr ⟨lw_p26, List.forall_mem_cons.mpr ⟨lw_p27, List.forall_mem_cons.mpr ⟨lw_p28, List.forall_mem_cons.mpr ⟨lw_p29, List.forall_mem_cons.mpr ⟨lw_p30, List.forall_mem_cons.mpr ⟨lw_p31, fun _ h => absurd h List.not_mem_nil⟩⟩⟩⟩⟩⟩⟩⟩⟩⟩⟩⟩⟩⟩⟩⟩
theorem lw_p32 : lw_okq (⟨"RouteHouseModel", "isWrong", "(IIIZ)Z"⟩, 43) := ⟨⟨by decide +kernel, by decide +kernel⟩, List.mem_of_getElem? (i := 751) (by decide +kernel), List.mem_of_getElem? (i := 1018) (by decide +kernel), List.mem_of_getElem? (i := 1019) (by decide +kernel)⟩
theorem lw_p33 : lw_okq (⟨"RouteHouseModel", "drop", "(I)V"⟩, 43) := ⟨⟨by decide +kernel, by decide +kernel⟩, List.mem_of_getElem? (i := 751) (by decide +kernel), List.mem_of_getElem? (i := 1022) (by decide +kernel), List.mem_of_getElem? (i := 1023) (by decide +kernel)⟩
theorem lw_p34 : lw_okq (⟨"RouteHouseModel", "moveEntry", "(II)V"⟩, 43) := ⟨⟨by decide +kernel, by decide +kernel⟩, List.mem_of_getElem? (i := 751) (by decide +kernel), List.mem_of_getElem? (i := 1026) (by decide +kernel), List.mem_of_getElem? (i := 1027) (by decide +kernel)⟩
theorem lw_p35 : lw_okq (⟨"RouteHouseModel", "own", "(I)I"⟩, 43) := ⟨⟨by decide +kernel, by decide +kernel⟩, List.mem_of_getElem? (i := 751) (by decide +kernel), List.mem_of_getElem? (i := 1030) (by decide +kernel), List.mem_of_getElem? (i := 1031) (by decide +kernel)⟩
theorem lw_p36 : lw_okq (⟨"RouteHouseModel", "answer", "(I)V"⟩, 43) := ⟨⟨by decide +kernel, by decide +kernel⟩, List.mem_of_getElem? (i := 751) (by decide +kernel), List.mem_of_getElem? (i := 1034) (by decide +kernel), List.mem_of_getElem? (i := 1035) (by decide +kernel)⟩
theorem lw_p37 : lw_okq (⟨"RouteHouseModel", "expire", "()V"⟩, 43) := ⟨⟨by decide +kernel, by decide +kernel⟩, List.mem_of_getElem? (i := 751) (by decide +kernel), List.mem_of_getElem? (i := 1042) (by decide +kernel), List.mem_of_getElem? (i := 1043) (by decide +kernel)⟩
def lw_privs_3 : List (MethodName × Nat) := [(⟨"RouteHouseModel", "isWrong", "(IIIZ)Z"⟩, 43), (⟨"RouteHouseModel", "drop", "(I)V"⟩, 43), (⟨"RouteHouseModel", "moveEntry", "(II)V"⟩, 43), (⟨"RouteHouseModel", "own", "(I)I"⟩, 43), (⟨"RouteHouseModel", "answer", "(I)V"⟩, 43), (⟨"RouteHouseModel", "expire", "()V"⟩, 43)]
theorem lw_r3 : ∀ q ∈ lw_privs_3, lw_okq q := List.forall_mem_cons.mpr ⟨lw_p32, List.forall_mem_cons.mpr ⟨lw_p33, List.forall_mem_cons.mpr ⟨lw_p34, List.forall_mem_cons.mpr ⟨lw_p35, List.forall_mem_cons.mpr ⟨lw_p36, List.forall_mem_cons.mpr ⟨lw_p37, fun _ h => absurd h List.not_mem_nil⟩⟩⟩⟩⟩⟩
def lw_privs : List (MethodName × Nat) := lw_privs_1 ++ (lw_privs_2 ++ (lw_privs_3))
def lw_tbl : List Cond := k2_sels lw_privs ++ tables_1
theorem lw_privs_ok : ∀ q ∈ lw_privs, lw_okq q := by
  show ∀ q ∈ lw_privs_1 ++ (lw_privs_2 ++ (lw_privs_3)), lw_okq q
  exact List.forall_mem_append.mpr ⟨lw_r1, List.forall_mem_append.mpr ⟨lw_r2, lw_r3⟩⟩
end
section
-- printed by gen_tab.py out of the bytecode: classes, fields, methods, code
def tc_0 : String := "RouteHouse$Delivery"
def tc_1 : String := "RouteHouse$Outbox"
def tc_2 : String := "RouteHouse$Packet"
def tc_3 : String := "RouteHouse$Port"
def tc_4 : String := "RouteHouse$Routes"
def tc_5 : String := "RouteHouse$Waiting"
def tc_6 : String := "RouteHouse$Waits"
def tc_7 : String := "RouteHouse"
def tc_8 : String := "RouteHouseModel"
def tc_9 : String := "RouteHouse$Wire"
def tf_0 : u_T := fun k => match k with
  | 0 => ("RouteHouse$Delivery", "bytes", "[B", true)
  | 1 => ("RouteHouse$Delivery", "times", "I", false)
  | 2 => ("RouteHouse$Delivery", "source", "I", false)
  | 3 => ("RouteHouse$Delivery", "destination", "I", false)
  | _ => ("RouteHouse$Delivery", "count", "I", false)
def tf_1 : u_T := fun k => match k with
  | 0 => ("RouteHouse$Outbox", "bytes", "[B", true)
  | 1 => ("RouteHouse$Outbox", "starts", "[I", true)
  | 2 => ("RouteHouse$Outbox", "lengths", "[I", true)
  | 3 => ("RouteHouse$Outbox", "ways", "[I", true)
  | 4 => ("RouteHouse$Outbox", "nexts", "[I", true)
  | 5 => ("RouteHouse$Outbox", "laterHeader", "[B", true)
  | 6 => ("RouteHouse$Outbox", "count", "I", false)
  | _ => ("RouteHouse$Outbox", "used", "I", false)
def tf_2 : u_T := fun k => match k with
  | 0 => ("RouteHouse$Packet", "row", "[B", true)
  | _ => ("RouteHouse$Packet", "count", "I", false)
def tf_3 : u_T := fun k => match k with
  | 0 => ("RouteHouse$Port", "address", "I", false)
  | 1 => ("RouteHouse$Port", "mtu", "I", false)
  | _ => ("RouteHouse$Port", "isUp", "Z", false)
def tf_4 : u_T := fun k => match k with
  | 0 => ("RouteHouse$Routes", "beginnings", "[I", true)
  | 1 => ("RouteHouse$Routes", "bits", "[I", true)
  | 2 => ("RouteHouse$Routes", "ways", "[I", true)
  | 3 => ("RouteHouse$Routes", "nexts", "[I", true)
  | _ => ("RouteHouse$Routes", "count", "I", false)
def tf_5 : u_T := fun k => match k with
  | 0 => ("RouteHouse$Waiting", "first", "LRouteHouse$Packet;", true)
  | 1 => ("RouteHouse$Waiting", "bytes", "[B", true)
  | 2 => ("RouteHouse$Waiting", "unitsThere", "[Z", true)
  | 3 => ("RouteHouse$Waiting", "hasFirst", "Z", false)
  | 4 => ("RouteHouse$Waiting", "firstPort", "I", false)
  | 5 => ("RouteHouse$Waiting", "source", "I", false)
  | 6 => ("RouteHouse$Waiting", "destination", "I", false)
  | 7 => ("RouteHouse$Waiting", "identity", "I", false)
  | 8 => ("RouteHouse$Waiting", "protocol", "I", false)
  | 9 => ("RouteHouse$Waiting", "since", "I", false)
  | 10 => ("RouteHouse$Waiting", "unitCount", "I", false)
  | 11 => ("RouteHouse$Waiting", "reach", "I", false)
  | _ => ("RouteHouse$Waiting", "isEndKnown", "Z", false)
def tf_6 : u_T := fun k => match k with
  | 0 => ("RouteHouse$Waits", "oldestFirst", "[LRouteHouse$Waiting;", true)
  | _ => ("RouteHouse$Waits", "count", "I", false)
def tf_7 : u_T := fun k => match k with
  | 0 => ("RouteHouse", "ports", "[LRouteHouse$Port;", true)
  | 1 => ("RouteHouse", "routes", "LRouteHouse$Routes;", true)
  | 2 => ("RouteHouse", "tape", "LRouteHouse$Packet;", true)
  | 3 => ("RouteHouse", "whole", "LRouteHouse$Packet;", true)
  | 4 => ("RouteHouse", "reply", "LRouteHouse$Packet;", true)
  | 5 => ("RouteHouse", "outbox", "LRouteHouse$Outbox;", true)
  | 6 => ("RouteHouse", "waits", "LRouteHouse$Waits;", true)
  | 7 => ("RouteHouse", "delivery", "LRouteHouse$Delivery;", true)
  | 8 => ("RouteHouse", "tokens", "I", false)
  | 9 => ("RouteHouse", "replies", "I", false)
  | _ => ("RouteHouse", "time", "I", false)
def tf_8 : u_T := fun k => match k with
  | 0 => ("RouteHouseModel", "addresses", "[I", true)
  | 1 => ("RouteHouseModel", "mtus", "[I", true)
  | 2 => ("RouteHouseModel", "down", "[Z", true)
  | 3 => ("RouteHouseModel", "starts", "[I", true)
  | 4 => ("RouteHouseModel", "lengths", "[I", true)
  | 5 => ("RouteHouseModel", "ports", "[I", true)
  | 6 => ("RouteHouseModel", "nexts", "[I", true)
  | 7 => ("RouteHouseModel", "routes", "I", false)
  | 8 => ("RouteHouseModel", "tape", "[I", true)
  | 9 => ("RouteHouseModel", "taped", "I", false)
  | 10 => ("RouteHouseModel", "p", "[I", true)
  | 11 => ("RouteHouseModel", "q", "[I", true)
  | 12 => ("RouteHouseModel", "size", "I", false)
  | 13 => ("RouteHouseModel", "made", "I", false)
  | 14 => ("RouteHouseModel", "bytes", "[I", true)
  | 15 => ("RouteHouseModel", "from", "[I", true)
  | 16 => ("RouteHouseModel", "sizes", "[I", true)
  | 17 => ("RouteHouseModel", "outPorts", "[I", true)
  | 18 => ("RouteHouseModel", "outNexts", "[I", true)
  | 19 => ("RouteHouseModel", "outs", "I", false)
  | 20 => ("RouteHouseModel", "tokens", "I", false)
  | 21 => ("RouteHouseModel", "sentCount", "I", false)
  | 22 => ("RouteHouseModel", "time", "I", false)
  | 23 => ("RouteHouseModel", "deliveries", "I", false)
  | 24 => ("RouteHouseModel", "deliveredFrom", "I", false)
  | 25 => ("RouteHouseModel", "deliveredTo", "I", false)
  | 26 => ("RouteHouseModel", "deliveredSize", "I", false)
  | 27 => ("RouteHouseModel", "delivered", "[I", true)
  | 28 => ("RouteHouseModel", "waits", "I", false)
  | 29 => ("RouteHouseModel", "sources", "[I", true)
  | 30 => ("RouteHouseModel", "targets", "[I", true)
  | 31 => ("RouteHouseModel", "names", "[I", true)
  | 32 => ("RouteHouseModel", "since", "[I", true)
  | 33 => ("RouteHouseModel", "ends", "[I", true)
  | 34 => ("RouteHouseModel", "tops", "[I", true)
  | 35 => ("RouteHouseModel", "headSizes", "[I", true)
  | 36 => ("RouteHouseModel", "heads", "[I", true)
  | 37 => ("RouteHouseModel", "firsts", "[I", true)
  | 38 => ("RouteHouseModel", "firstSizes", "[I", true)
  | 39 => ("RouteHouseModel", "firstPorts", "[I", true)
  | 40 => ("RouteHouseModel", "parts", "[I", true)
  | 41 => ("RouteHouseModel", "there", "[Z", true)
  | _ => ("RouteHouseModel", "thrown", "I", false)
abbrev vwCl : List vw_C := [(tc_0, tf_0, 5), (tc_1, tf_1, 8), (tc_2, tf_2, 2), (tc_3, tf_3, 3), (tc_4, tf_4, 5), (tc_5, tf_5, 13), (tc_6, tf_6, 2), (tc_7, tf_7, 11), (tc_8, tf_8, 43)]
def tb_fl : List (List FieldType) := [[.array .byte, .int, .int, .int, .int], [.array .byte, .array .int, .array .int, .array .int, .array .int, .array .byte, .int, .int], [.array .byte, .int], [.int, .int, .boolean], [.array .int, .array .int, .array .int, .array .int, .int], [.object "RouteHouse$Packet", .array .byte, .array .boolean, .boolean, .int, .int, .int, .int, .int, .int, .int, .int, .boolean], [.array (.object "RouteHouse$Waiting"), .int], [.array (.object "RouteHouse$Port"), .object "RouteHouse$Routes", .object "RouteHouse$Packet", .object "RouteHouse$Packet", .object "RouteHouse$Packet", .object "RouteHouse$Outbox", .object "RouteHouse$Waits", .object "RouteHouse$Delivery", .int, .int, .int], [.array .int, .array .int, .array .boolean, .array .int, .array .int, .array .int, .array .int, .int, .array .int, .int, .array .int, .array .int, .int, .int, .array .int, .array .int, .array .int, .array .int, .array .int, .int, .int, .int, .int, .int, .int, .int, .int, .array .int, .int, .array .int, .array .int, .array .int, .array .int, .array .int, .array .int, .array .int, .array .int, .array .int, .array .int, .array .int, .array .int, .array .boolean, .int]]
def tb_ft (c k : Nat) : FieldType := (tb_fl.getD c []).getD k .int
def tb_nf (c : Nat) : Nat := (tb_fl.getD c []).length
def tb_xn (q : Nat) : String := (["java/lang/IndexOutOfBoundsException", "java/lang/IllegalArgumentException", "java/lang/UnsupportedOperationException", "java/lang/IllegalStateException"] : List String).getD q ""
def tb_str : List (String × Nat × String) := [("RouteHouse", 211, "no such port"), ("RouteHouse", 68, "no such mtu"), ("RouteHouse", 215, "no such beginning"), ("RouteHouse", 95, "too many routes"), ("RouteHouse", 105, "no such question about a route"), ("RouteHouse", 124, "the tape is full"), ("RouteHouse", 137, "the tape has not so many bytes"), ("RouteHouse", 139, "no header of so many words"), ("RouteHouse", 213, "no such packet"), ("RouteHouse", 176, "no such time to pass"), ("RouteHouse", 184, "no such question about a packet"), ("RouteHouse", 188, "no such byte"), ("RouteHouse", 209, "no such question")]
abbrev tb_R : Type := Nat × Nat × Nat × Int32
def tb_r0 : List (Nat × tb_R) := [(3, 8, 0, 0, 0), (9, 1, 0, 0, 0), (15, 1, 0, 1, 0), (19, 2, 18, 1, 0), (25, 1, 0, 2, 0), (27, 2, 19, 1, 0), (30, 1, 0, 3, 0), (32, 2, 10, 1, 0), (35, 1, 0, 4, 0), (38, 1, 2, 0, 0), (41, 2, 8, 1, 0), (44, 5, 0, 0, 0)]
def tb_r1 : List (Nat × tb_R) := [(3, 8, 0, 0, 0), (11, 1, 1, 0, 0), (15, 1, 1, 1, 0), (19, 1, 1, 2, 0), (22, 1, 1, 3, 0), (25, 1, 1, 4, 0), (28, 1, 1, 5, 0), (31, 1, 1, 6, 0), (35, 1, 1, 7, 0), (38, 2, 10, 1, 0), (44, 1, 2, 0, 0), (47, 2, 8, 1, 0), (50, 2, 5, 1, 0), (54, 2, 6, 1, 0), (58, 5, 0, 0, 0), (64, 2, 119, 0, 0), (70, 2, 121, 0, 0), (74, 2, 123, 0, 0), (78, 2, 22, 1, 0)]
def tb_r2 : List (Nat × tb_R) := [(3, 8, 0, 0, 0), (9, 1, 2, 0, 0), (15, 2, 119, 0, 0), (21, 2, 120, 0, 0), (24, 1, 2, 1, 0), (28, 2, 8, 1, 0), (32, 2, 9, 1, 0), (35, 2, 123, 0, 0), (39, 2, 15, 1, 0), (42, 2, 10, 1, 0), (45, 4, 0, 0, 65535), (46, 2, 22, 1, 0), (50, 2, 18, 1, 0), (53, 2, 17, 1, 0)]
def tb_r3 : List (Nat × tb_R) := [(3, 8, 0, 0, 0), (9, 1, 3, 1, 0), (15, 1, 3, 2, 0)]
def tb_r4 : List (Nat × tb_R) := [(3, 8, 0, 0, 0), (9, 1, 4, 0, 0), (15, 1, 4, 1, 0), (18, 1, 4, 2, 0), (21, 1, 4, 3, 0), (24, 2, 27, 0, 0), (28, 1, 4, 4, 0)]
def tb_r5 : List (Nat × tb_R) := [(3, 8, 0, 0, 0), (9, 3, 2, 2, 0), (11, 2, 7, 2, 0), (14, 1, 5, 0, 0), (20, 1, 5, 1, 0), (24, 1, 5, 2, 0), (28, 2, 18, 1, 0), (32, 1, 5, 5, 0), (35, 2, 19, 1, 0), (38, 1, 5, 6, 0), (40, 2, 11, 1, 0), (43, 1, 5, 7, 0), (45, 2, 17, 1, 0), (48, 1, 5, 8, 0), (50, 1, 5, 9, 0), (53, 1, 5, 3, 0), (57, 1, 5, 10, 0), (60, 1, 5, 11, 0), (63, 1, 5, 12, 0), (66, 2, 15, 1, 0), (69, 2, 10, 1, 0), (72, 2, 13, 1, 0), (76, 1, 2, 0, 0), (79, 2, 8, 1, 0), (82, 5, 0, 0, 0), (88, 6, 0, 0, 0), (94, 1, 5, 4, 0), (97, 2, 121, 0, 0), (103, 2, 119, 0, 0), (107, 2, 123, 0, 0)]
def tb_r6 : List (Nat × tb_R) := [(3, 8, 0, 0, 0), (9, 3, 5, 13, 0), (11, 1, 6, 0, 0), (17, 2, 32, 2, 0), (18, 2, 43, 1, 0), (22, 2, 44, 1, 0), (26, 2, 35, 1, 0), (29, 2, 42, 1, 0), (33, 2, 45, 1, 0), (37, 2, 36, 1, 0), (41, 2, 37, 1, 0), (45, 2, 38, 1, 0), (49, 1, 6, 1, 0), (53, 1, 5, 9, 0), (56, 2, 34, 1, 0), (59, 2, 10, 1, 0), (65, 2, 13, 1, 0), (68, 2, 15, 1, 0), (71, 2, 33, 1, 0)]
def tb_r7 : List (Nat × tb_R) := [(1, 8, 0, 0, 0), (9, 3, 3, 3, 0), (11, 1, 7, 0, 0), (15, 2, 25, 2, 0), (16, 3, 4, 5, 0), (18, 2, 26, 2, 0), (19, 1, 7, 1, 0), (23, 3, 2, 2, 0), (25, 2, 7, 2, 0), (28, 1, 7, 2, 0), (32, 1, 7, 3, 0), (35, 1, 7, 4, 0), (38, 3, 1, 8, 0), (40, 2, 2, 2, 0), (41, 1, 7, 5, 0), (45, 3, 6, 2, 0), (47, 2, 39, 2, 0), (48, 1, 7, 6, 0), (52, 3, 0, 5, 0), (54, 2, 0, 2, 0), (55, 1, 7, 7, 0), (59, 1, 7, 8, 0), (63, 2, 62, 1, 0), (66, 9, 1, 0, 0), (73, 1, 3, 0, 0), (76, 1, 3, 1, 0), (79, 1, 3, 2, 0), (83, 2, 64, 1, 0), (86, 2, 28, 1, 0), (90, 1, 4, 4, 0), (93, 9, 2, 0, 0), (98, 2, 30, 1, 0), (102, 2, 31, 1, 0), (107, 2, 29, 1, 0), (111, 1, 4, 2, 0), (115, 1, 4, 1, 0), (118, 1, 4, 3, 0), (121, 1, 2, 1, 0), (122, 9, 3, 0, 0), (127, 1, 2, 0, 0), (131, 2, 122, 0, 0), (141, 2, 123, 0, 0), (145, 2, 121, 0, 0), (148, 2, 63, 1, 0), (151, 1, 1, 2, 0), (154, 1, 1, 0, 0), (157, 1, 1, 1, 0), (160, 5, 0, 0, 0), (166, 2, 3, 1, 0), (169, 2, 20, 1, 0), (173, 2, 65, 1, 0), (178, 2, 72, 1, 0), (181, 1, 1, 6, 0), (182, 1, 1, 3, 0), (183, 1, 1, 4, 0), (186, 9, 0, 0, 0), (191, 1, 0, 4, 0), (192, 1, 0, 0, 0), (193, 1, 6, 1, 0), (194, 1, 7, 9, 0), (197, 1, 7, 10, 0), (200, 1, 0, 1, 0), (203, 1, 0, 2, 0), (206, 1, 0, 3, 0), (217, 2, 21, 1, 0), (220, 2, 69, 1, 0), (224, 2, 19, 1, 0), (226, 2, 66, 1, 0), (230, 2, 67, 1, 0), (233, 2, 68, 1, 0), (236, 2, 14, 1, 0), (240, 2, 40, 1, 0), (244, 2, 17, 1, 0), (247, 2, 1, 1, 0), (251, 2, 23, 1, 0), (254, 2, 70, 1, 0), (258, 2, 16, 1, 0), (261, 2, 9, 1, 0), (264, 2, 12, 1, 0), (267, 2, 4, 1, 0), (271, 2, 24, 1, 0), (274, 2, 8, 1, 0), (277, 2, 10, 1, 0), (280, 7, 0, 0, 0), (285, 2, 18, 1, 0), (287, 2, 71, 1, 0), (291, 4, 0, 0, 1157627904), (292, 4, 0, 0, 1073807360), (293, 2, 41, 1, 0), (296, 1, 6, 0, 0), (300, 1, 5, 3, 0), (305, 1, 5, 0, 0), (308, 1, 5, 4, 0), (311, 2, 42, 1, 0)]
def tb_r8 : List (Nat × tb_R) := [(1, 8, 0, 0, 0), (7, 1, 8, 0, 0), (13, 1, 8, 1, 0), (16, 1, 8, 2, 0), (20, 1, 8, 3, 0), (23, 1, 8, 4, 0), (26, 1, 8, 5, 0), (29, 1, 8, 6, 0), (32, 1, 8, 8, 0), (35, 1, 8, 10, 0), (38, 1, 8, 11, 0), (41, 1, 8, 14, 0), (44, 1, 8, 15, 0), (47, 1, 8, 16, 0), (50, 1, 8, 17, 0), (53, 1, 8, 18, 0), (56, 1, 8, 20, 0), (60, 1, 8, 27, 0), (63, 1, 8, 29, 0), (66, 1, 8, 30, 0), (69, 1, 8, 31, 0), (72, 1, 8, 32, 0), (75, 1, 8, 33, 0), (78, 1, 8, 34, 0), (81, 1, 8, 35, 0), (84, 1, 8, 36, 0), (87, 1, 8, 37, 0), (90, 1, 8, 38, 0), (93, 1, 8, 39, 0), (96, 1, 8, 40, 0), (99, 1, 8, 41, 0), (102, 1, 8, 42, 0), (105, 2, 76, 0, 0), (109, 2, 75, 1, 0), (113, 1, 8, 7, 0), (116, 2, 79, 0, 0), (120, 2, 80, 1, 0), (123, 2, 83, 1, 0), (127, 1, 8, 9, 0), (130, 4, 0, 0, 65535), (131, 2, 89, 0, 0), (135, 2, 88, 0, 0), (139, 2, 87, 0, 0), (143, 1, 8, 19, 0), (146, 1, 8, 13, 0), (149, 1, 8, 12, 0), (152, 2, 94, 1, 0), (156, 2, 96, 1, 0), (159, 4, 0, 0, 49152), (160, 1, 8, 21, 0), (163, 4, 0, 0, 65536), (164, 2, 91, 0, 0), (167, 2, 90, 0, 0), (170, 2, 97, 1, 0), (173, 2, 95, 1, 0), (176, 1, 8, 28, 0), (179, 2, 100, 1, 0), (182, 2, 102, 1, 0), (186, 2, 103, 1, 0), (189, 2, 104, 1, 0), (193, 2, 101, 1, 0), (197, 1, 8, 22, 0), (200, 2, 99, 1, 0), (203, 2, 98, 1, 0), (207, 1, 8, 23, 0), (210, 1, 8, 24, 0), (213, 1, 8, 25, 0), (216, 1, 8, 26, 0), (219, 2, 108, 0, 0), (222, 2, 107, 1, 0), (225, 2, 106, 1, 0), (228, 2, 110, 1, 0), (231, 2, 105, 1, 0), (234, 2, 109, 1, 0), (237, 2, 111, 1, 0), (240, 2, 113, 1, 0)]
def tb_r9 : List (Nat × tb_R) := [(7, 4, 0, 0, 65535)]
def tb_rcs : List (List (Nat × tb_R)) := [tb_r0, tb_r1, tb_r2, tb_r3, tb_r4, tb_r5, tb_r6, tb_r7, tb_r8, tb_r9]
def tb_lk {α : Type} (z : α) : List (Nat × α) → Nat → α
  | [], _ => z
  | q :: r, x => match Nat.beq q.1 x with
    | true => q.2
    | false => tb_lk z r x
-- 0: RouteHouse$Delivery.<init>()V
def tb_c0 : List (Nat × Option Instr) := [(0, some (.aload_n 0)), (1, some (.invokespecial 3)), (4, some (.aload_n 0)), (5, some (.sipush 4000)), (8, some (.newarray .byte)), (10, some (.putfield 9)), (13, some (.return_))]
-- 1: RouteHouse$Delivery.take(LRouteHouse$Packet;)V
def tb_c1 : List (Nat × Option Instr) := [(0, some (.aload_n 0)), (1, some (.dup)), (2, some (.getfield 15)), (5, some (.iconst 1)), (6, some (.iadd)), (7, some (.putfield 15)), (10, some (.aload_n 0)), (11, some (.aload_n 1)), (12, some (.invokevirtual 19)), (15, some (.putfield 25)), (18, some (.aload_n 0)), (19, some (.aload_n 1)), (20, some (.invokevirtual 27)), (23, some (.putfield 30)), (26, some (.aload_n 0)), (27, some (.aload_n 1)), (28, some (.invokevirtual 32)), (31, some (.putfield 35)), (34, some (.aload_n 1)), (35, some (.getfield 38)), (38, some (.aload_n 1)), (39, some (.invokevirtual 41)), (42, some (.aload_n 0)), (43, some (.getfield 9)), (46, some (.iconst 0)), (47, some (.aload_n 0)), (48, some (.getfield 35)), (51, some (.invokestatic 44)), (54, some (.return_))]
-- 2: RouteHouse$Outbox.<init>()V
def tb_c2 : List (Nat × Option Instr) := [(0, some (.aload_n 0)), (1, some (.invokespecial 3)), (4, some (.aload_n 0)), (5, some (.sipush 5000)), (8, some (.newarray .byte)), (10, some (.putfield 11)), (13, some (.aload_n 0)), (14, some (.bipush 50)), (16, some (.newarray .int)), (18, some (.putfield 15)), (21, some (.aload_n 0)), (22, some (.bipush 50)), (24, some (.newarray .int)), (26, some (.putfield 19)), (29, some (.aload_n 0)), (30, some (.bipush 50)), (32, some (.newarray .int)), (34, some (.putfield 22)), (37, some (.aload_n 0)), (38, some (.bipush 50)), (40, some (.newarray .int)), (42, some (.putfield 25)), (45, some (.aload_n 0)), (46, some (.bipush 60)), (48, some (.newarray .byte)), (50, some (.putfield 28)), (53, some (.return_))]
-- 3: RouteHouse$Outbox.empty()V
def tb_c3 : List (Nat × Option Instr) := [(0, some (.aload_n 0)), (1, some (.iconst 0)), (2, some (.putfield 31)), (5, some (.aload_n 0)), (6, some (.iconst 0)), (7, some (.putfield 35)), (10, some (.return_))]
-- 4: RouteHouse$Outbox.send(LRouteHouse$Packet;III)V
def tb_c4 : List (Nat × Option Instr) := [(0, some (.aload_n 0)), (1, some (.getfield 31)), (4, some (.istore 5)), (6, some (.aload_n 1)), (7, some (.invokevirtual 38)), (10, some (.istore 6)), (12, some (.aload_n 0)), (13, some (.aload_n 1)), (14, some (.aload_n 1)), (15, some (.getfield 44)), (18, some (.aload_n 1)), (19, some (.invokevirtual 47)), (22, some (.iconst 0)), (23, some (.iload 6)), (25, some (.iload_n 2)), (26, some (.invokevirtual 50)), (29, some (.istore 7)), (31, some (.iload 7)), (33, some (.iload 6)), (35, some (.if_icmp .ge 54)), (38, some (.aload_n 0)), (39, some (.aload_n 1)), (40, some (.invokevirtual 54)), (43, some (.istore 8)), (45, some (.iconst 1)), (46, some (.istore 9)), (48, some (.iload 9)), (50, some (.bipush 50)), (52, some (.if_icmp .ge 37)), (55, some (.iload 7)), (57, some (.iload 6)), (59, some (.if_icmp .ge 30)), (62, some (.iload 7)), (64, some (.aload_n 0)), (65, some (.aload_n 1)), (66, some (.aload_n 0)), (67, some (.getfield 28)), (70, some (.iload 8)), (72, some (.iload 7)), (74, some (.iload 6)), (76, some (.iload_n 2)), (77, some (.invokevirtual 50)), (80, some (.iadd)), (81, some (.istore 7)), (83, some (.iinc 9 1)), (86, some (.goto (-38))), (89, some (.iload 5)), (91, some (.istore 8)), (93, some (.iload 8)), (95, some (.aload_n 0)), (96, some (.getfield 31)), (99, some (.if_icmp .ge 26)), (102, some (.aload_n 0)), (103, some (.getfield 22)), (106, some (.iload 8)), (108, some (.iload_n 3)), (109, some (.iastore)), (110, some (.aload_n 0)), (111, some (.getfield 25)), (114, some (.iload 8)), (116, some (.iload 4)), (118, some (.iastore)), (119, some (.iinc 8 1)), (122, some (.goto (-29))), (125, some (.return_))]
-- 5: RouteHouse$Outbox.addPiece(LRouteHouse$Packet;[BIIII)I
def tb_c5 : List (Nat × Option Instr) := [(0, some (.iload 5)), (2, some (.iload 4)), (4, some (.isub)), (5, some (.istore 7)), (7, some (.iload 6)), (9, some (.iload_n 3)), (10, some (.isub)), (11, some (.istore 8)), (13, some (.iload 7)), (15, some (.iload 8)), (17, some (.if_icmp .gt 8)), (20, some (.iload 7)), (22, some (.goto 11)), (25, some (.iload 8)), (27, some (.bipush 8)), (29, some (.idiv)), (30, some (.bipush 8)), (32, some (.imul)), (33, some (.istore 9)), (35, some (.iload_n 3)), (36, some (.iload 9)), (38, some (.iadd)), (39, some (.istore 10)), (41, some (.aload_n 0)), (42, some (.getfield 31)), (45, some (.bipush 50)), (47, some (.if_icmp .ge 16)), (50, some (.iload 10)), (52, some (.sipush 5000)), (55, some (.aload_n 0)), (56, some (.getfield 35)), (59, some (.isub)), (60, some (.if_icmp .le 5)), (63, some (.iconst 0)), (64, some (.ireturn)), (65, some (.aload_n 2)), (66, some (.iconst 0)), (67, some (.aload_n 0)), (68, some (.getfield 11)), (71, some (.aload_n 0)), (72, some (.getfield 35)), (75, some (.iload_n 3)), (76, some (.invokestatic 58)), (79, some (.aload_n 1)), (80, some (.getfield 44)), (83, some (.aload_n 1)), (84, some (.invokevirtual 47)), (87, some (.iload 4)), (89, some (.iadd)), (90, some (.aload_n 0)), (91, some (.getfield 11)), (94, some (.aload_n 0)), (95, some (.getfield 35)), (98, some (.iload_n 3)), (99, some (.iadd)), (100, some (.iload 9)), (102, some (.invokestatic 58)), (105, some (.iload 9)), (107, some (.iload 7)), (109, some (.if_icmp .ge 9)), (112, some (.sipush 8192)), (115, some (.goto 4)), (118, some (.iconst 0)), (119, some (.istore 11)), (121, some (.aload_n 1)), (122, some (.getfield 44)), (125, some (.bipush 6)), (127, some (.invokestatic 64)), (130, some (.iload 4)), (132, some (.bipush 8)), (134, some (.idiv)), (135, some (.iadd)), (136, some (.iload 11)), (138, some (.ior)), (139, some (.istore 12)), (141, some (.aload_n 0)), (142, some (.getfield 11)), (145, some (.aload_n 0)), (146, some (.getfield 35)), (149, some (.iconst 2)), (150, some (.iadd)), (151, some (.iload 10)), (153, some (.invokestatic 70)), (156, some (.aload_n 0)), (157, some (.getfield 11)), (160, some (.aload_n 0)), (161, some (.getfield 35)), (164, some (.bipush 6)), (166, some (.iadd)), (167, some (.iload 12)), (169, some (.invokestatic 70)), (172, some (.aload_n 0)), (173, some (.getfield 35)), (176, some (.bipush 10)), (178, some (.iadd)), (179, some (.istore 13)), (181, some (.aload_n 0)), (182, some (.getfield 11)), (185, some (.iload 13)), (187, some (.aload_n 0)), (188, some (.getfield 11)), (191, some (.aload_n 0)), (192, some (.getfield 35)), (195, some (.iload_n 3)), (196, some (.iload 13)), (198, some (.invokestatic 74)), (201, some (.invokestatic 70)), (204, some (.aload_n 0)), (205, some (.getfield 15)), (208, some (.aload_n 0)), (209, some (.getfield 31)), (212, some (.aload_n 0)), (213, some (.getfield 35)), (216, some (.iastore)), (217, some (.aload_n 0)), (218, some (.getfield 19)), (221, some (.aload_n 0)), (222, some (.getfield 31)), (225, some (.iload 10)), (227, some (.iastore)), (228, some (.aload_n 0)), (229, some (.dup)), (230, some (.getfield 31)), (233, some (.iconst 1)), (234, some (.iadd)), (235, some (.putfield 31)), (238, some (.aload_n 0)), (239, some (.dup)), (240, some (.getfield 35)), (243, some (.iload 10)), (245, some (.iadd)), (246, some (.putfield 35)), (249, some (.iload 9)), (251, some (.ireturn))]
-- 6: RouteHouse$Outbox.makeLaterHeader(LRouteHouse$Packet;)I
def tb_c6 : List (Nat × Option Instr) := [(0, some (.aload_n 1)), (1, some (.getfield 44)), (4, some (.astore_n 2)), (5, some (.aload_n 2)), (6, some (.iconst 0)), (7, some (.aload_n 0)), (8, some (.getfield 28)), (11, some (.iconst 0)), (12, some (.bipush 20)), (14, some (.invokestatic 58)), (17, some (.aload_n 1)), (18, some (.invokevirtual 47)), (21, some (.istore_n 3)), (22, some (.bipush 20)), (24, some (.istore 4)), (26, some (.iconst 1)), (27, some (.istore 5)), (29, some (.bipush 20)), (31, some (.istore 6)), (33, some (.iload 6)), (35, some (.iload_n 3)), (36, some (.if_icmp .ge 62)), (39, some (.aload_n 2)), (40, some (.iload 6)), (42, some (.baload)), (43, some (.ifCond .eq 55)), (46, some (.iload 5)), (48, some (.ifCond .le 50)), (51, some (.aload_n 1)), (52, some (.iload 6)), (54, some (.iload_n 3)), (55, some (.invokevirtual 78)), (58, some (.istore 5)), (60, some (.aload_n 2)), (61, some (.iload 6)), (63, some (.baload)), (64, some (.ifCond .ge 24)), (67, some (.aload_n 2)), (68, some (.iload 6)), (70, some (.aload_n 0)), (71, some (.getfield 28)), (74, some (.iload 4)), (76, some (.iload 5)), (78, some (.invokestatic 58)), (81, some (.iload 4)), (83, some (.iload 5)), (85, some (.iadd)), (86, some (.istore 4)), (88, some (.iload 6)), (90, some (.iload 5)), (92, some (.iadd)), (93, some (.istore 6)), (95, some (.goto (-62))), (98, some (.iload 4)), (100, some (.iconst 4)), (101, some (.irem)), (102, some (.ifCond .eq 24)), (105, some (.iload 4)), (107, some (.bipush 60)), (109, some (.if_icmp .ge 17)), (112, some (.aload_n 0)), (113, some (.getfield 28)), (116, some (.iload 4)), (118, some (.iconst 0)), (119, some (.bastore)), (120, some (.iinc 4 1)), (123, some (.goto (-25))), (126, some (.aload_n 0)), (127, some (.getfield 28)), (130, some (.iconst 0)), (131, some (.bipush 64)), (133, some (.iload 4)), (135, some (.iconst 4)), (136, some (.idiv)), (137, some (.iadd)), (138, some (.i2b)), (139, some (.bastore)), (140, some (.iload 4)), (142, some (.ireturn))]
-- 7: RouteHouse$Packet.<init>(I)V
def tb_c7 : List (Nat × Option Instr) := [(0, some (.aload_n 0)), (1, some (.invokespecial 3)), (4, some (.aload_n 0)), (5, some (.iload_n 1)), (6, some (.newarray .byte)), (8, some (.putfield 9)), (11, some (.return_))]
-- 8: RouteHouse$Packet.headerLength()I
def tb_c8 : List (Nat × Option Instr) := [(0, some (.aload_n 0)), (1, some (.getfield 9)), (4, some (.iconst 0)), (5, some (.baload)), (6, some (.bipush 15)), (8, some (.iand)), (9, some (.iconst 4)), (10, some (.imul)), (11, some (.ireturn))]
-- 9: RouteHouse$Packet.length()I
def tb_c9 : List (Nat × Option Instr) := [(0, some (.aload_n 0)), (1, some (.getfield 9)), (4, some (.iconst 2)), (5, some (.invokestatic 15)), (8, some (.ireturn))]
-- 10: RouteHouse$Packet.dataLength()I
def tb_c10 : List (Nat × Option Instr) := [(0, some (.aload_n 0)), (1, some (.getfield 9)), (4, some (.iconst 2)), (5, some (.invokestatic 15)), (8, some (.aload_n 0)), (9, some (.getfield 9)), (12, some (.iconst 0)), (13, some (.baload)), (14, some (.bipush 15)), (16, some (.iand)), (17, some (.iconst 4)), (18, some (.imul)), (19, some (.isub)), (20, some (.ireturn))]
-- 11: RouteHouse$Packet.identity()I
def tb_c11 : List (Nat × Option Instr) := [(0, some (.aload_n 0)), (1, some (.getfield 9)), (4, some (.iconst 4)), (5, some (.invokestatic 15)), (8, some (.ireturn))]
-- 12: RouteHouse$Packet.isUncut()Z
def tb_c12 : List (Nat × Option Instr) := [(0, some (.aload_n 0)), (1, some (.getfield 9)), (4, some (.bipush 6)), (6, some (.invokestatic 15)), (9, some (.sipush 16384)), (12, some (.iand)), (13, some (.ifCond .eq 7)), (16, some (.iconst 1)), (17, some (.goto 4)), (20, some (.iconst 0)), (21, some (.ireturn))]
-- 13: RouteHouse$Packet.hasMore()Z
def tb_c13 : List (Nat × Option Instr) := [(0, some (.aload_n 0)), (1, some (.getfield 9)), (4, some (.bipush 6)), (6, some (.invokestatic 15)), (9, some (.sipush 8192)), (12, some (.iand)), (13, some (.ifCond .eq 7)), (16, some (.iconst 1)), (17, some (.goto 4)), (20, some (.iconst 0)), (21, some (.ireturn))]
-- 14: RouteHouse$Packet.isPiece()Z
def tb_c14 : List (Nat × Option Instr) := [(0, some (.aload_n 0)), (1, some (.getfield 9)), (4, some (.bipush 6)), (6, some (.invokestatic 15)), (9, some (.sipush 16383)), (12, some (.iand)), (13, some (.ifCond .eq 7)), (16, some (.iconst 1)), (17, some (.goto 4)), (20, some (.iconst 0)), (21, some (.ireturn))]
-- 15: RouteHouse$Packet.dataStart()I
def tb_c15 : List (Nat × Option Instr) := [(0, some (.aload_n 0)), (1, some (.getfield 9)), (4, some (.bipush 6)), (6, some (.invokestatic 15)), (9, some (.sipush 8191)), (12, some (.iand)), (13, some (.bipush 8)), (15, some (.imul)), (16, some (.ireturn))]
-- 16: RouteHouse$Packet.hops()I
def tb_c16 : List (Nat × Option Instr) := [(0, some (.aload_n 0)), (1, some (.getfield 9)), (4, some (.bipush 8)), (6, some (.baload)), (7, some (.sipush 255)), (10, some (.iand)), (11, some (.ireturn))]
-- 17: RouteHouse$Packet.protocol()I
def tb_c17 : List (Nat × Option Instr) := [(0, some (.aload_n 0)), (1, some (.getfield 9)), (4, some (.bipush 9)), (6, some (.baload)), (7, some (.sipush 255)), (10, some (.iand)), (11, some (.ireturn))]
-- 18: RouteHouse$Packet.source()I
def tb_c18 : List (Nat × Option Instr) := [(0, some (.aload_n 0)), (1, some (.getfield 9)), (4, some (.bipush 12)), (6, some (.invokestatic 21)), (9, some (.ireturn))]
-- 19: RouteHouse$Packet.destination()I
def tb_c19 : List (Nat × Option Instr) := [(0, some (.aload_n 0)), (1, some (.getfield 9)), (4, some (.bipush 16)), (6, some (.invokestatic 21)), (9, some (.ireturn))]
-- 20: RouteHouse$Packet.headerFault()I
def tb_c20 : List (Nat × Option Instr) := [(0, some (.aload_n 0)), (1, some (.getfield 24)), (4, some (.bipush 20)), (6, some (.if_icmp .ge 5)), (9, some (.iconst 1)), (10, some (.ireturn)), (11, some (.aload_n 0)), (12, some (.getfield 9)), (15, some (.iconst 0)), (16, some (.baload)), (17, some (.sipush 240)), (20, some (.iand)), (21, some (.bipush 64)), (23, some (.if_icmp .eq 5)), (26, some (.iconst 2)), (27, some (.ireturn)), (28, some (.aload_n 0)), (29, some (.invokevirtual 28)), (32, some (.istore_n 1)), (33, some (.iload_n 1)), (34, some (.bipush 20)), (36, some (.if_icmp .lt 11)), (39, some (.iload_n 1)), (40, some (.aload_n 0)), (41, some (.getfield 24)), (44, some (.if_icmp .le 5)), (47, some (.iconst 3)), (48, some (.ireturn)), (49, some (.aload_n 0)), (50, some (.invokevirtual 32)), (53, some (.istore_n 2)), (54, some (.iload_n 2)), (55, some (.iload_n 1)), (56, some (.if_icmp .lt 11)), (59, some (.iload_n 2)), (60, some (.aload_n 0)), (61, some (.getfield 24)), (64, some (.if_icmp .le 5)), (67, some (.iconst 4)), (68, some (.ireturn)), (69, some (.aload_n 0)), (70, some (.getfield 9)), (73, some (.iconst 0)), (74, some (.iload_n 1)), (75, some (.bipush 10)), (77, some (.invokestatic 35)), (80, some (.aload_n 0)), (81, some (.getfield 9)), (84, some (.bipush 10)), (86, some (.invokestatic 15)), (89, some (.if_icmp .eq 5)), (92, some (.iconst 5)), (93, some (.ireturn)), (94, some (.aload_n 0)), (95, some (.getfield 9)), (98, some (.bipush 12)), (100, some (.baload)), (101, some (.sipush 255)), (104, some (.iand)), (105, some (.istore_n 3)), (106, some (.iload_n 3)), (107, some (.bipush 127)), (109, some (.if_icmp .eq 24)), (112, some (.iload_n 3)), (113, some (.sipush 223)), (116, some (.if_icmp .gt 17)), (119, some (.aload_n 0)), (120, some (.invokevirtual 39)), (123, some (.aload_n 0)), (124, some (.invokevirtual 42)), (127, some (.iadd)), (128, some (.ldc 45)), (130, some (.if_icmp .le 6)), (133, some (.bipush 6)), (135, some (.ireturn)), (136, some (.iconst 0)), (137, some (.ireturn))]
-- 21: RouteHouse$Packet.wrongOption()I
def tb_c21 : List (Nat × Option Instr) := [(0, some (.aload_n 0)), (1, some (.invokevirtual 28)), (4, some (.istore_n 1)), (5, some (.iconst 1)), (6, some (.istore_n 2)), (7, some (.bipush 20)), (9, some (.istore_n 3)), (10, some (.iload_n 3)), (11, some (.iload_n 1)), (12, some (.if_icmp .ge 33)), (15, some (.aload_n 0)), (16, some (.getfield 9)), (19, some (.iload_n 3)), (20, some (.baload)), (21, some (.ifCond .eq 24)), (24, some (.aload_n 0)), (25, some (.iload_n 3)), (26, some (.iload_n 1)), (27, some (.invokevirtual 46)), (30, some (.istore_n 2)), (31, some (.iload_n 2)), (32, some (.iconst 1)), (33, some (.if_icmp .ge 5)), (36, some (.iload_n 3)), (37, some (.ireturn)), (38, some (.iload_n 3)), (39, some (.iload_n 2)), (40, some (.iadd)), (41, some (.istore_n 3)), (42, some (.goto (-32))), (45, some (.iconst (-1))), (46, some (.ireturn))]
-- 22: RouteHouse$Packet.optionSize(II)I
def tb_c22 : List (Nat × Option Instr) := [(0, some (.aload_n 0)), (1, some (.getfield 9)), (4, some (.iload_n 1)), (5, some (.baload)), (6, some (.iconst 1)), (7, some (.if_icmp .ne 5)), (10, some (.iconst 1)), (11, some (.ireturn)), (12, some (.iload_n 1)), (13, some (.iconst 1)), (14, some (.iadd)), (15, some (.iload_n 2)), (16, some (.if_icmp .lt 5)), (19, some (.iconst 0)), (20, some (.ireturn)), (21, some (.aload_n 0)), (22, some (.getfield 9)), (25, some (.iload_n 1)), (26, some (.iconst 1)), (27, some (.iadd)), (28, some (.baload)), (29, some (.sipush 255)), (32, some (.iand)), (33, some (.istore_n 3)), (34, some (.iload_n 3)), (35, some (.iconst 2)), (36, some (.if_icmp .lt 10)), (39, some (.iload_n 1)), (40, some (.iload_n 3)), (41, some (.iadd)), (42, some (.iload_n 2)), (43, some (.if_icmp .le 7)), (46, some (.iconst 0)), (47, some (.goto 4)), (50, some (.iload_n 3)), (51, some (.ireturn))]
-- 23: RouteHouse$Packet.isRequest()Z
def tb_c23 : List (Nat × Option Instr) := [(0, some (.aload_n 0)), (1, some (.invokevirtual 28)), (4, some (.istore_n 1)), (5, some (.aload_n 0)), (6, some (.invokevirtual 42)), (9, some (.istore_n 2)), (10, some (.iload_n 2)), (11, some (.bipush 8)), (13, some (.if_icmp .lt 43)), (16, some (.aload_n 0)), (17, some (.getfield 9)), (20, some (.iload_n 1)), (21, some (.baload)), (22, some (.bipush 8)), (24, some (.if_icmp .ne 32)), (27, some (.aload_n 0)), (28, some (.getfield 9)), (31, some (.iload_n 1)), (32, some (.iload_n 2)), (33, some (.iload_n 1)), (34, some (.iconst 2)), (35, some (.iadd)), (36, some (.invokestatic 35)), (39, some (.aload_n 0)), (40, some (.getfield 9)), (43, some (.iload_n 1)), (44, some (.iconst 2)), (45, some (.iadd)), (46, some (.invokestatic 15)), (49, some (.if_icmp .ne 7)), (52, some (.iconst 1)), (53, some (.goto 4)), (56, some (.iconst 0)), (57, some (.ireturn))]
-- 24: RouteHouse$Packet.mayHaveError()Z
def tb_c24 : List (Nat × Option Instr) := [(0, some (.aload_n 0)), (1, some (.invokevirtual 39)), (4, some (.ifCond .ne 10)), (7, some (.aload_n 0)), (8, some (.invokevirtual 50)), (11, some (.ifCond .ne 5)), (14, some (.iconst 0)), (15, some (.ireturn)), (16, some (.aload_n 0)), (17, some (.invokevirtual 53)), (20, some (.iconst 1)), (21, some (.if_icmp .eq 5)), (24, some (.iconst 1)), (25, some (.ireturn)), (26, some (.aload_n 0)), (27, some (.invokevirtual 42)), (30, some (.ifCond .ne 7)), (33, some (.iconst (-1))), (34, some (.goto 12)), (37, some (.aload_n 0)), (38, some (.getfield 9)), (41, some (.aload_n 0)), (42, some (.invokevirtual 28)), (45, some (.baload)), (46, some (.istore_n 1)), (47, some (.iload_n 1)), (48, some (.bipush 8)), (50, some (.if_icmp .eq 7)), (53, some (.iload_n 1)), (54, some (.ifCond .ne 7)), (57, some (.iconst 1)), (58, some (.goto 4)), (61, some (.iconst 0)), (62, some (.ireturn))]
-- 25: RouteHouse$Port.<init>()V
def tb_c25 : List (Nat × Option Instr) := [(0, some (.aload_n 0)), (1, some (.invokespecial 3)), (4, some (.aload_n 0)), (5, some (.sipush 1500)), (8, some (.putfield 9)), (11, some (.aload_n 0)), (12, some (.iconst 1)), (13, some (.putfield 15)), (16, some (.return_))]
-- 26: RouteHouse$Routes.<init>()V
def tb_c26 : List (Nat × Option Instr) := [(0, some (.aload_n 0)), (1, some (.invokespecial 3)), (4, some (.aload_n 0)), (5, some (.sipush 400)), (8, some (.newarray .int)), (10, some (.putfield 9)), (13, some (.aload_n 0)), (14, some (.sipush 400)), (17, some (.newarray .int)), (19, some (.putfield 15)), (22, some (.aload_n 0)), (23, some (.sipush 400)), (26, some (.newarray .int)), (28, some (.putfield 18)), (31, some (.aload_n 0)), (32, some (.sipush 400)), (35, some (.newarray .int)), (37, some (.putfield 21)), (40, some (.return_))]
-- 27: RouteHouse$Routes.beginning(II)I
def tb_c27 : List (Nat × Option Instr) := [(0, some (.iload_n 1)), (1, some (.ifCond .ne 7)), (4, some (.iconst 0)), (5, some (.goto 11)), (8, some (.iload_n 0)), (9, some (.iconst (-1))), (10, some (.bipush 32)), (12, some (.iload_n 1)), (13, some (.isub)), (14, some (.ishl)), (15, some (.iand)), (16, some (.ireturn))]
-- 28: RouteHouse$Routes.find(II)I
def tb_c28 : List (Nat × Option Instr) := [(0, some (.iload_n 1)), (1, some (.iload_n 2)), (2, some (.invokestatic 24)), (5, some (.istore_n 3)), (6, some (.iconst 0)), (7, some (.istore 4)), (9, some (.iload 4)), (11, some (.aload_n 0)), (12, some (.getfield 28)), (15, some (.if_icmp .ge 34)), (18, some (.aload_n 0)), (19, some (.getfield 15)), (22, some (.iload 4)), (24, some (.iaload)), (25, some (.iload_n 2)), (26, some (.if_icmp .ne 17)), (29, some (.aload_n 0)), (30, some (.getfield 9)), (33, some (.iload 4)), (35, some (.iaload)), (36, some (.iload_n 3)), (37, some (.if_icmp .ne 6)), (40, some (.iload 4)), (42, some (.ireturn)), (43, some (.iinc 4 1)), (46, some (.goto (-37))), (49, some (.iconst (-1))), (50, some (.ireturn))]
-- 29: RouteHouse$Routes.longest(I)I
def tb_c29 : List (Nat × Option Instr) := [(0, some (.iconst (-1))), (1, some (.istore_n 2)), (2, some (.iconst 0)), (3, some (.istore_n 3)), (4, some (.iload_n 3)), (5, some (.aload_n 0)), (6, some (.getfield 28)), (9, some (.if_icmp .ge 62)), (12, some (.iload_n 2)), (13, some (.iconst (-1))), (14, some (.if_icmp .eq 18)), (17, some (.aload_n 0)), (18, some (.getfield 15)), (21, some (.iload_n 3)), (22, some (.iaload)), (23, some (.aload_n 0)), (24, some (.getfield 15)), (27, some (.iload_n 2)), (28, some (.iaload)), (29, some (.if_icmp .le 7)), (32, some (.iconst 1)), (33, some (.goto 4)), (36, some (.iconst 0)), (37, some (.istore 4)), (39, some (.iload 4)), (41, some (.ifCond .eq 24)), (44, some (.aload_n 0)), (45, some (.getfield 9)), (48, some (.iload_n 3)), (49, some (.iaload)), (50, some (.iload_n 1)), (51, some (.aload_n 0)), (52, some (.getfield 15)), (55, some (.iload_n 3)), (56, some (.iaload)), (57, some (.invokestatic 24)), (60, some (.if_icmp .ne 5)), (63, some (.iload_n 3)), (64, some (.istore_n 2)), (65, some (.iinc 3 1)), (68, some (.goto (-64))), (71, some (.iload_n 2)), (72, some (.ireturn))]
-- 30: RouteHouse$Routes.put(IIIII)V
def tb_c30 : List (Nat × Option Instr) := [(0, some (.iload_n 1)), (1, some (.iconst (-1))), (2, some (.if_icmp .ne 10)), (5, some (.aload_n 0)), (6, some (.getfield 28)), (9, some (.goto 4)), (12, some (.iload_n 1)), (13, some (.istore 6)), (15, some (.iload 6)), (17, some (.sipush 400)), (20, some (.if_icmp .lt 4)), (23, some (.return_)), (24, some (.aload_n 0)), (25, some (.getfield 9)), (28, some (.iload 6)), (30, some (.iload_n 2)), (31, some (.iload_n 3)), (32, some (.invokestatic 24)), (35, some (.iastore)), (36, some (.aload_n 0)), (37, some (.getfield 15)), (40, some (.iload 6)), (42, some (.iload_n 3)), (43, some (.iastore)), (44, some (.aload_n 0)), (45, some (.getfield 18)), (48, some (.iload 6)), (50, some (.iload 4)), (52, some (.iastore)), (53, some (.aload_n 0)), (54, some (.getfield 21)), (57, some (.iload 6)), (59, some (.iload 5)), (61, some (.iastore)), (62, some (.iload_n 1)), (63, some (.iconst (-1))), (64, some (.if_icmp .ne 13)), (67, some (.aload_n 0)), (68, some (.dup)), (69, some (.getfield 28)), (72, some (.iconst 1)), (73, some (.iadd)), (74, some (.putfield 28)), (77, some (.return_))]
-- 31: RouteHouse$Routes.remove(I)V
def tb_c31 : List (Nat × Option Instr) := [(0, some (.aload_n 0)), (1, some (.dup)), (2, some (.getfield 28)), (5, some (.iconst 1)), (6, some (.isub)), (7, some (.putfield 28)), (10, some (.aload_n 0)), (11, some (.getfield 9)), (14, some (.iload_n 1)), (15, some (.aload_n 0)), (16, some (.getfield 9)), (19, some (.aload_n 0)), (20, some (.getfield 28)), (23, some (.iaload)), (24, some (.iastore)), (25, some (.aload_n 0)), (26, some (.getfield 15)), (29, some (.iload_n 1)), (30, some (.aload_n 0)), (31, some (.getfield 15)), (34, some (.aload_n 0)), (35, some (.getfield 28)), (38, some (.iaload)), (39, some (.iastore)), (40, some (.aload_n 0)), (41, some (.getfield 18)), (44, some (.iload_n 1)), (45, some (.aload_n 0)), (46, some (.getfield 18)), (49, some (.aload_n 0)), (50, some (.getfield 28)), (53, some (.iaload)), (54, some (.iastore)), (55, some (.aload_n 0)), (56, some (.getfield 21)), (59, some (.iload_n 1)), (60, some (.aload_n 0)), (61, some (.getfield 21)), (64, some (.aload_n 0)), (65, some (.getfield 28)), (68, some (.iaload)), (69, some (.iastore)), (70, some (.return_))]
-- 32: RouteHouse$Waiting.<init>()V
def tb_c32 : List (Nat × Option Instr) := [(0, some (.aload_n 0)), (1, some (.invokespecial 3)), (4, some (.aload_n 0)), (5, some (.new 9)), (8, some (.dup)), (9, some (.bipush 68)), (11, some (.invokespecial 11)), (14, some (.putfield 14)), (17, some (.aload_n 0)), (18, some (.sipush 4000)), (21, some (.newarray .byte)), (23, some (.putfield 20)), (26, some (.aload_n 0)), (27, some (.sipush 500)), (30, some (.newarray .boolean)), (32, some (.putfield 24)), (35, some (.return_))]
-- 33: RouteHouse$Waiting.begin(LRouteHouse$Packet;I)V
def tb_c33 : List (Nat × Option Instr) := [(0, some (.aload_n 0)), (1, some (.aload_n 1)), (2, some (.invokevirtual 28)), (5, some (.putfield 32)), (8, some (.aload_n 0)), (9, some (.aload_n 1)), (10, some (.invokevirtual 35)), (13, some (.putfield 38)), (16, some (.aload_n 0)), (17, some (.aload_n 1)), (18, some (.invokevirtual 40)), (21, some (.putfield 43)), (24, some (.aload_n 0)), (25, some (.aload_n 1)), (26, some (.invokevirtual 45)), (29, some (.putfield 48)), (32, some (.aload_n 0)), (33, some (.iload_n 2)), (34, some (.putfield 50)), (37, some (.aload_n 0)), (38, some (.iconst 0)), (39, some (.putfield 53)), (42, some (.aload_n 0)), (43, some (.iconst 0)), (44, some (.putfield 57)), (47, some (.aload_n 0)), (48, some (.iconst 0)), (49, some (.putfield 60)), (52, some (.aload_n 0)), (53, some (.iconst 0)), (54, some (.putfield 63)), (57, some (.iconst 0)), (58, some (.istore_n 3)), (59, some (.iload_n 3)), (60, some (.aload_n 0)), (61, some (.getfield 24)), (64, some (.arraylength)), (65, some (.if_icmp .ge 16)), (68, some (.aload_n 0)), (69, some (.getfield 24)), (72, some (.iload_n 3)), (73, some (.iconst 0)), (74, some (.bastore)), (75, some (.iinc 3 1)), (78, some (.goto (-19))), (81, some (.return_))]
-- 34: RouteHouse$Waiting.waitsFor(LRouteHouse$Packet;)Z
def tb_c34 : List (Nat × Option Instr) := [(0, some (.aload_n 0)), (1, some (.getfield 32)), (4, some (.aload_n 1)), (5, some (.invokevirtual 28)), (8, some (.if_icmp .ne 40)), (11, some (.aload_n 0)), (12, some (.getfield 38)), (15, some (.aload_n 1)), (16, some (.invokevirtual 35)), (19, some (.if_icmp .ne 29)), (22, some (.aload_n 0)), (23, some (.getfield 43)), (26, some (.aload_n 1)), (27, some (.invokevirtual 40)), (30, some (.if_icmp .ne 18)), (33, some (.aload_n 0)), (34, some (.getfield 48)), (37, some (.aload_n 1)), (38, some (.invokevirtual 45)), (41, some (.if_icmp .ne 7)), (44, some (.iconst 1)), (45, some (.goto 4)), (48, some (.iconst 0)), (49, some (.ireturn))]
-- 35: RouteHouse$Waiting.refuses(LRouteHouse$Packet;)Z
def tb_c35 : List (Nat × Option Instr) := [(0, some (.aload_n 1)), (1, some (.invokevirtual 66)), (4, some (.aload_n 1)), (5, some (.invokevirtual 69)), (8, some (.iadd)), (9, some (.istore_n 2)), (10, some (.aload_n 0)), (11, some (.getfield 63)), (14, some (.ifCond .eq 13)), (17, some (.iload_n 2)), (18, some (.aload_n 0)), (19, some (.getfield 60)), (22, some (.if_icmp .le 5)), (25, some (.iconst 1)), (26, some (.ireturn)), (27, some (.aload_n 1)), (28, some (.invokevirtual 72)), (31, some (.ifCond .ne 15)), (34, some (.iload_n 2)), (35, some (.aload_n 0)), (36, some (.getfield 60)), (39, some (.if_icmp .ge 7)), (42, some (.iconst 1)), (43, some (.goto 4)), (46, some (.iconst 0)), (47, some (.ireturn))]
-- 36: RouteHouse$Waiting.add(LRouteHouse$Packet;I)V
def tb_c36 : List (Nat × Option Instr) := [(0, some (.aload_n 1)), (1, some (.invokevirtual 66)), (4, some (.istore_n 3)), (5, some (.aload_n 1)), (6, some (.invokevirtual 69)), (9, some (.istore 4)), (11, some (.aload_n 1)), (12, some (.getfield 76)), (15, some (.aload_n 1)), (16, some (.invokevirtual 79)), (19, some (.aload_n 0)), (20, some (.getfield 20)), (23, some (.iload_n 3)), (24, some (.iload 4)), (26, some (.invokestatic 82)), (29, some (.iload_n 3)), (30, some (.bipush 8)), (32, some (.idiv)), (33, some (.istore 5)), (35, some (.iload 5)), (37, some (.bipush 8)), (39, some (.imul)), (40, some (.iload_n 3)), (41, some (.iload 4)), (43, some (.iadd)), (44, some (.if_icmp .ge 37)), (47, some (.aload_n 0)), (48, some (.getfield 24)), (51, some (.iload 5)), (53, some (.baload)), (54, some (.ifCond .ne 21)), (57, some (.aload_n 0)), (58, some (.getfield 24)), (61, some (.iload 5)), (63, some (.iconst 1)), (64, some (.bastore)), (65, some (.aload_n 0)), (66, some (.dup)), (67, some (.getfield 57)), (70, some (.iconst 1)), (71, some (.iadd)), (72, some (.putfield 57)), (75, some (.iinc 5 1)), (78, some (.goto (-43))), (81, some (.aload_n 0)), (82, some (.aload_n 0)), (83, some (.getfield 60)), (86, some (.iload_n 3)), (87, some (.iload 4)), (89, some (.iadd)), (90, some (.invokestatic 88)), (93, some (.putfield 60)), (96, some (.aload_n 1)), (97, some (.invokevirtual 72)), (100, some (.ifCond .ne 8)), (103, some (.aload_n 0)), (104, some (.iconst 1)), (105, some (.putfield 63)), (108, some (.iload_n 3)), (109, some (.ifCond .ne 36)), (112, some (.aload_n 1)), (113, some (.getfield 76)), (116, some (.iconst 0)), (117, some (.aload_n 0)), (118, some (.getfield 14)), (121, some (.getfield 76)), (124, some (.iconst 0)), (125, some (.aload_n 1)), (126, some (.invokevirtual 79)), (129, some (.bipush 8)), (131, some (.iadd)), (132, some (.invokestatic 82)), (135, some (.aload_n 0)), (136, some (.iconst 1)), (137, some (.putfield 53)), (140, some (.aload_n 0)), (141, some (.iload_n 2)), (142, some (.putfield 94)), (145, some (.return_))]
-- 37: RouteHouse$Waiting.isComplete()Z
def tb_c37 : List (Nat × Option Instr) := [(0, some (.aload_n 0)), (1, some (.getfield 63)), (4, some (.ifCond .eq 21)), (7, some (.aload_n 0)), (8, some (.getfield 57)), (11, some (.bipush 8)), (13, some (.imul)), (14, some (.aload_n 0)), (15, some (.getfield 60)), (18, some (.if_icmp .lt 7)), (21, some (.iconst 1)), (22, some (.goto 4)), (25, some (.iconst 0)), (26, some (.ireturn))]
-- 38: RouteHouse$Waiting.writeTo(LRouteHouse$Packet;)V
def tb_c38 : List (Nat × Option Instr) := [(0, some (.aload_n 1)), (1, some (.getfield 76)), (4, some (.astore_n 2)), (5, some (.aload_n 0)), (6, some (.getfield 14)), (9, some (.invokevirtual 79)), (12, some (.istore_n 3)), (13, some (.aload_n 0)), (14, some (.getfield 14)), (17, some (.getfield 76)), (20, some (.iconst 0)), (21, some (.aload_n 2)), (22, some (.iconst 0)), (23, some (.iload_n 3)), (24, some (.invokestatic 82)), (27, some (.aload_n 0)), (28, some (.getfield 20)), (31, some (.iconst 0)), (32, some (.aload_n 2)), (33, some (.iload_n 3)), (34, some (.aload_n 0)), (35, some (.getfield 60)), (38, some (.invokestatic 82)), (41, some (.aload_n 2)), (42, some (.iconst 2)), (43, some (.iload_n 3)), (44, some (.aload_n 0)), (45, some (.getfield 60)), (48, some (.iadd)), (49, some (.invokestatic 97)), (52, some (.aload_n 2)), (53, some (.bipush 6)), (55, some (.aload_n 2)), (56, some (.bipush 6)), (58, some (.invokestatic 103)), (61, some (.sipush (-8193))), (64, some (.iand)), (65, some (.invokestatic 97)), (68, some (.aload_n 2)), (69, some (.bipush 10)), (71, some (.aload_n 2)), (72, some (.iconst 0)), (73, some (.iload_n 3)), (74, some (.bipush 10)), (76, some (.invokestatic 107)), (79, some (.invokestatic 97)), (82, some (.return_))]
-- 39: RouteHouse$Waits.<init>()V
def tb_c39 : List (Nat × Option Instr) := [(0, some (.aload_n 0)), (1, some (.invokespecial 3)), (4, some (.aload_n 0)), (5, some (.iconst 4)), (6, some (.anewarray 9)), (9, some (.putfield 11)), (12, some (.iconst 0)), (13, some (.istore_n 1)), (14, some (.iload_n 1)), (15, some (.iconst 4)), (16, some (.if_icmp .ge 22)), (19, some (.aload_n 0)), (20, some (.getfield 11)), (23, some (.iload_n 1)), (24, some (.new 9)), (27, some (.dup)), (28, some (.invokespecial 17)), (31, some (.aastore)), (32, some (.iinc 1 1)), (35, some (.goto (-21))), (38, some (.return_))]
-- 40: RouteHouse$Waits.completes(LRouteHouse$Packet;IILRouteHouse$Packet;)Z
def tb_c40 : List (Nat × Option Instr) := [(0, some (.aload_n 0)), (1, some (.aload_n 1)), (2, some (.invokevirtual 18)), (5, some (.istore 5)), (7, some (.aload_n 0)), (8, some (.aload_n 1)), (9, some (.invokevirtual 22)), (12, some (.ifCond .ne 23)), (15, some (.iload 5)), (17, some (.iconst (-1))), (18, some (.if_icmp .eq 31)), (21, some (.aload_n 0)), (22, some (.getfield 11)), (25, some (.iload 5)), (27, some (.aaload)), (28, some (.aload_n 1)), (29, some (.invokevirtual 26)), (32, some (.ifCond .eq 17)), (35, some (.iload 5)), (37, some (.iconst (-1))), (38, some (.if_icmp .eq 9)), (41, some (.aload_n 0)), (42, some (.iload 5)), (44, some (.invokevirtual 29)), (47, some (.iconst 0)), (48, some (.ireturn)), (49, some (.iload 5)), (51, some (.iconst (-1))), (52, some (.if_icmp .ne 11)), (55, some (.aload_n 0)), (56, some (.aload_n 1)), (57, some (.iload_n 3)), (58, some (.invokevirtual 33)), (61, some (.istore 5)), (63, some (.aload_n 0)), (64, some (.getfield 11)), (67, some (.iload 5)), (69, some (.aaload)), (70, some (.astore 6)), (72, some (.aload 6)), (74, some (.aload_n 1)), (75, some (.iload_n 2)), (76, some (.invokevirtual 37)), (79, some (.aload 6)), (81, some (.invokevirtual 41)), (84, some (.ifCond .ne 5)), (87, some (.iconst 0)), (88, some (.ireturn)), (89, some (.aload 6)), (91, some (.aload 4)), (93, some (.invokevirtual 45)), (96, some (.aload_n 0)), (97, some (.iload 5)), (99, some (.invokevirtual 29)), (102, some (.iconst 1)), (103, some (.ireturn))]
-- 41: RouteHouse$Waits.hasOverdue(I)Z
def tb_c41 : List (Nat × Option Instr) := [(0, some (.aload_n 0)), (1, some (.getfield 49)), (4, some (.ifCond .le 23)), (7, some (.iload_n 1)), (8, some (.aload_n 0)), (9, some (.getfield 11)), (12, some (.iconst 0)), (13, some (.aaload)), (14, some (.getfield 53)), (17, some (.isub)), (18, some (.bipush 30)), (20, some (.if_icmp .lt 7)), (23, some (.iconst 1)), (24, some (.goto 4)), (27, some (.iconst 0)), (28, some (.ireturn))]
-- 42: RouteHouse$Waits.remove(I)V
def tb_c42 : List (Nat × Option Instr) := [(0, some (.aload_n 0)), (1, some (.getfield 11)), (4, some (.iload_n 1)), (5, some (.aaload)), (6, some (.astore_n 2)), (7, some (.aload_n 0)), (8, some (.dup)), (9, some (.getfield 49)), (12, some (.iconst 1)), (13, some (.isub)), (14, some (.putfield 49)), (17, some (.iload_n 1)), (18, some (.istore_n 3)), (19, some (.iload_n 3)), (20, some (.aload_n 0)), (21, some (.getfield 49)), (24, some (.if_icmp .ge 23)), (27, some (.aload_n 0)), (28, some (.getfield 11)), (31, some (.iload_n 3)), (32, some (.aload_n 0)), (33, some (.getfield 11)), (36, some (.iload_n 3)), (37, some (.iconst 1)), (38, some (.iadd)), (39, some (.aaload)), (40, some (.aastore)), (41, some (.iinc 3 1)), (44, some (.goto (-25))), (47, some (.aload_n 0)), (48, some (.getfield 11)), (51, some (.aload_n 0)), (52, some (.getfield 49)), (55, some (.aload_n 2)), (56, some (.aastore)), (57, some (.return_))]
-- 43: RouteHouse$Waits.find(LRouteHouse$Packet;)I
def tb_c43 : List (Nat × Option Instr) := [(0, some (.iconst 0)), (1, some (.istore_n 2)), (2, some (.iload_n 2)), (3, some (.aload_n 0)), (4, some (.getfield 49)), (7, some (.if_icmp .ge 24)), (10, some (.aload_n 0)), (11, some (.getfield 11)), (14, some (.iload_n 2)), (15, some (.aaload)), (16, some (.aload_n 1)), (17, some (.invokevirtual 56)), (20, some (.ifCond .eq 5)), (23, some (.iload_n 2)), (24, some (.ireturn)), (25, some (.iinc 2 1)), (28, some (.goto (-26))), (31, some (.iconst (-1))), (32, some (.ireturn))]
-- 44: RouteHouse$Waits.isWrong(LRouteHouse$Packet;)Z
def tb_c44 : List (Nat × Option Instr) := [(0, some (.aload_n 1)), (1, some (.invokevirtual 59)), (4, some (.istore_n 2)), (5, some (.iload_n 2)), (6, some (.ifCond .eq 29)), (9, some (.aload_n 1)), (10, some (.invokevirtual 65)), (13, some (.ifCond .eq 10)), (16, some (.iload_n 2)), (17, some (.bipush 8)), (19, some (.irem)), (20, some (.ifCond .ne 15)), (23, some (.aload_n 1)), (24, some (.invokevirtual 68)), (27, some (.iload_n 2)), (28, some (.iadd)), (29, some (.sipush 4000)), (32, some (.if_icmp .le 7)), (35, some (.iconst 1)), (36, some (.goto 4)), (39, some (.iconst 0)), (40, some (.ireturn))]
-- 45: RouteHouse$Waits.begin(LRouteHouse$Packet;I)I
def tb_c45 : List (Nat × Option Instr) := [(0, some (.aload_n 0)), (1, some (.getfield 49)), (4, some (.iconst 4)), (5, some (.if_icmp .lt 8)), (8, some (.aload_n 0)), (9, some (.iconst 0)), (10, some (.invokevirtual 29)), (13, some (.aload_n 0)), (14, some (.getfield 11)), (17, some (.aload_n 0)), (18, some (.getfield 49)), (21, some (.aaload)), (22, some (.aload_n 1)), (23, some (.iload_n 2)), (24, some (.invokevirtual 71)), (27, some (.aload_n 0)), (28, some (.dup)), (29, some (.getfield 49)), (32, some (.iconst 1)), (33, some (.iadd)), (34, some (.putfield 49)), (37, some (.aload_n 0)), (38, some (.getfield 49)), (41, some (.iconst 1)), (42, some (.isub)), (43, some (.ireturn))]
-- 46: RouteHouse.<init>()V
def tb_c46 : List (Nat × Option Instr) := [(0, some (.aload_n 0)), (1, some (.invokespecial 1)), (4, some (.aload_n 0)), (5, some (.bipush 8)), (7, some (.anewarray 9)), (10, some (.putfield 11)), (13, some (.iconst 0)), (14, some (.istore_n 1)), (15, some (.iload_n 1)), (16, some (.bipush 8)), (18, some (.if_icmp .ge 22)), (21, some (.aload_n 0)), (22, some (.getfield 11)), (25, some (.iload_n 1)), (26, some (.new 9)), (29, some (.dup)), (30, some (.invokespecial 15)), (33, some (.aastore)), (34, some (.iinc 1 1)), (37, some (.goto (-22))), (40, some (.aload_n 0)), (41, some (.new 16)), (44, some (.dup)), (45, some (.invokespecial 18)), (48, some (.putfield 19)), (51, some (.aload_n 0)), (52, some (.new 23)), (55, some (.dup)), (56, some (.sipush 2000)), (59, some (.invokespecial 25)), (62, some (.putfield 28)), (65, some (.aload_n 0)), (66, some (.new 23)), (69, some (.dup)), (70, some (.sipush 4060)), (73, some (.invokespecial 25)), (76, some (.putfield 32)), (79, some (.aload_n 0)), (80, some (.new 23)), (83, some (.dup)), (84, some (.sipush 4020)), (87, some (.invokespecial 25)), (90, some (.putfield 35)), (93, some (.aload_n 0)), (94, some (.new 38)), (97, some (.dup)), (98, some (.invokespecial 40)), (101, some (.putfield 41)), (104, some (.aload_n 0)), (105, some (.new 45)), (108, some (.dup)), (109, some (.invokespecial 47)), (112, some (.putfield 48)), (115, some (.aload_n 0)), (116, some (.new 52)), (119, some (.dup)), (120, some (.invokespecial 54)), (123, some (.putfield 55)), (126, some (.aload_n 0)), (127, some (.bipush 6)), (129, some (.putfield 59)), (132, some (.return_))]
-- 47: RouteHouse.port(III)V
def tb_c47 : List (Nat × Option Instr) := [(0, some (.aload_n 0)), (1, some (.iload_n 1)), (2, some (.invokevirtual 63)), (5, some (.iload_n 3)), (6, some (.bipush 100)), (8, some (.if_icmp .lt 10)), (11, some (.iload_n 3)), (12, some (.sipush 1500)), (15, some (.if_icmp .le 13)), (18, some (.new 66)), (21, some (.dup)), (22, some (.ldc 68)), (24, some (.invokespecial 70)), (27, some (.athrow)), (28, some (.aload_n 0)), (29, some (.getfield 11)), (32, some (.iload_n 1)), (33, some (.aaload)), (34, some (.iload_n 2)), (35, some (.putfield 73)), (38, some (.aload_n 0)), (39, some (.getfield 11)), (42, some (.iload_n 1)), (43, some (.aaload)), (44, some (.iload_n 3)), (45, some (.putfield 76)), (48, some (.return_))]
-- 48: RouteHouse.up(IZ)Z
def tb_c48 : List (Nat × Option Instr) := [(0, some (.aload_n 0)), (1, some (.iload_n 1)), (2, some (.invokevirtual 63)), (5, some (.aload_n 0)), (6, some (.getfield 11)), (9, some (.iload_n 1)), (10, some (.aaload)), (11, some (.getfield 79)), (14, some (.istore_n 3)), (15, some (.aload_n 0)), (16, some (.getfield 11)), (19, some (.iload_n 1)), (20, some (.aaload)), (21, some (.iload_n 2)), (22, some (.putfield 79)), (25, some (.iload_n 3)), (26, some (.ireturn))]
-- 49: RouteHouse.route(IIII)I
def tb_c49 : List (Nat × Option Instr) := [(0, some (.aload_n 0)), (1, some (.iload_n 2)), (2, some (.invokevirtual 83)), (5, some (.aload_n 0)), (6, some (.iload_n 3)), (7, some (.invokevirtual 63)), (10, some (.aload_n 0)), (11, some (.getfield 19)), (14, some (.iload_n 1)), (15, some (.iload_n 2)), (16, some (.invokevirtual 86)), (19, some (.istore 5)), (21, some (.iload 5)), (23, some (.iconst (-1))), (24, some (.if_icmp .ne 26)), (27, some (.aload_n 0)), (28, some (.getfield 19)), (31, some (.getfield 90)), (34, some (.sipush 400)), (37, some (.if_icmp .lt 13)), (40, some (.new 93)), (43, some (.dup)), (44, some (.ldc 95)), (46, some (.invokespecial 97)), (49, some (.athrow)), (50, some (.aload_n 0)), (51, some (.getfield 19)), (54, some (.iload 5)), (56, some (.iload_n 1)), (57, some (.iload_n 2)), (58, some (.iload_n 3)), (59, some (.iload 4)), (61, some (.invokevirtual 98)), (64, some (.aload_n 0)), (65, some (.getfield 19)), (68, some (.getfield 90)), (71, some (.ireturn))]
-- 50: RouteHouse.unroute(II)Z
def tb_c50 : List (Nat × Option Instr) := [(0, some (.aload_n 0)), (1, some (.iload_n 2)), (2, some (.invokevirtual 83)), (5, some (.aload_n 0)), (6, some (.getfield 19)), (9, some (.iload_n 1)), (10, some (.iload_n 2)), (11, some (.invokevirtual 86)), (14, some (.istore_n 3)), (15, some (.iload_n 3)), (16, some (.iconst (-1))), (17, some (.if_icmp .ne 5)), (20, some (.iconst 0)), (21, some (.ireturn)), (22, some (.aload_n 0)), (23, some (.getfield 19)), (26, some (.iload_n 3)), (27, some (.invokevirtual 102)), (30, some (.iconst 1)), (31, some (.ireturn))]
-- 51: RouteHouse.lookup(II)I
def tb_c51 : List (Nat × Option Instr) := [(0, some (.iload_n 2)), (1, some (.ifCond .lt 8)), (4, some (.iload_n 2)), (5, some (.iconst 2)), (6, some (.if_icmp .le 13)), (9, some (.new 66)), (12, some (.dup)), (13, some (.ldc 105)), (15, some (.invokespecial 70)), (18, some (.athrow)), (19, some (.aload_n 0)), (20, some (.getfield 19)), (23, some (.iload_n 1)), (24, some (.invokevirtual 107)), (27, some (.istore_n 3)), (28, some (.iload_n 3)), (29, some (.iconst (-1))), (30, some (.if_icmp .ne 14)), (33, some (.iload_n 2)), (34, some (.iconst 2)), (35, some (.if_icmp .ne 7)), (38, some (.iconst 0)), (39, some (.goto 4)), (42, some (.iconst (-1))), (43, some (.ireturn)), (44, some (.iload_n 2)), (45, some (.ifCond .ne 13)), (48, some (.aload_n 0)), (49, some (.getfield 19)), (52, some (.getfield 111)), (55, some (.iload_n 3)), (56, some (.iaload)), (57, some (.ireturn)), (58, some (.iload_n 2)), (59, some (.iconst 1)), (60, some (.if_icmp .ne 15)), (63, some (.aload_n 0)), (64, some (.getfield 19)), (67, some (.getfield 115)), (70, some (.iload_n 3)), (71, some (.iaload)), (72, some (.goto 12)), (75, some (.aload_n 0)), (76, some (.getfield 19)), (79, some (.getfield 118)), (82, some (.iload_n 3)), (83, some (.iaload)), (84, some (.ireturn))]
-- 52: RouteHouse.feed(IIIII)I
def tb_c52 : List (Nat × Option Instr) := [(0, some (.aload_n 0)), (1, some (.getfield 28)), (4, some (.getfield 121)), (7, some (.istore 6)), (9, some (.iload 6)), (11, some (.bipush 20)), (13, some (.iadd)), (14, some (.sipush 2000)), (17, some (.if_icmp .le 13)), (20, some (.new 122)), (23, some (.dup)), (24, some (.ldc 124)), (26, some (.invokespecial 126)), (29, some (.athrow)), (30, some (.aload_n 0)), (31, some (.getfield 28)), (34, some (.getfield 127)), (37, some (.iload 6)), (39, some (.iload_n 1)), (40, some (.invokestatic 131)), (43, some (.aload_n 0)), (44, some (.getfield 28)), (47, some (.getfield 127)), (50, some (.iload 6)), (52, some (.iconst 4)), (53, some (.iadd)), (54, some (.iload_n 2)), (55, some (.invokestatic 131)), (58, some (.aload_n 0)), (59, some (.getfield 28)), (62, some (.getfield 127)), (65, some (.iload 6)), (67, some (.bipush 8)), (69, some (.iadd)), (70, some (.iload_n 3)), (71, some (.invokestatic 131)), (74, some (.aload_n 0)), (75, some (.getfield 28)), (78, some (.getfield 127)), (81, some (.iload 6)), (83, some (.bipush 12)), (85, some (.iadd)), (86, some (.iload 4)), (88, some (.invokestatic 131)), (91, some (.aload_n 0)), (92, some (.getfield 28)), (95, some (.getfield 127)), (98, some (.iload 6)), (100, some (.bipush 16)), (102, some (.iadd)), (103, some (.iload 5)), (105, some (.invokestatic 131)), (108, some (.aload_n 0)), (109, some (.getfield 28)), (112, some (.iload 6)), (114, some (.bipush 20)), (116, some (.iadd)), (117, some (.putfield 121)), (120, some (.aload_n 0)), (121, some (.getfield 28)), (124, some (.getfield 121)), (127, some (.ireturn))]
-- 53: RouteHouse.end(I)V
def tb_c53 : List (Nat × Option Instr) := [(0, some (.iload_n 1)), (1, some (.ifCond .lt 14)), (4, some (.iload_n 1)), (5, some (.aload_n 0)), (6, some (.getfield 28)), (9, some (.getfield 121)), (12, some (.if_icmp .le 13)), (15, some (.new 66)), (18, some (.dup)), (19, some (.ldc 137)), (21, some (.invokespecial 70)), (24, some (.athrow)), (25, some (.aload_n 0)), (26, some (.getfield 28)), (29, some (.iload_n 1)), (30, some (.putfield 121)), (33, some (.return_))]
-- 54: RouteHouse.sum(I)V
def tb_c54 : List (Nat × Option Instr) := [(0, some (.iload_n 1)), (1, some (.iconst 5)), (2, some (.if_icmp .lt 22)), (5, some (.iload_n 1)), (6, some (.bipush 15)), (8, some (.if_icmp .gt 16)), (11, some (.iload_n 1)), (12, some (.iconst 4)), (13, some (.imul)), (14, some (.aload_n 0)), (15, some (.getfield 28)), (18, some (.getfield 121)), (21, some (.if_icmp .le 13)), (24, some (.new 66)), (27, some (.dup)), (28, some (.ldc 139)), (30, some (.invokespecial 70)), (33, some (.athrow)), (34, some (.aload_n 0)), (35, some (.getfield 28)), (38, some (.getfield 127)), (41, some (.bipush 10)), (43, some (.aload_n 0)), (44, some (.getfield 28)), (47, some (.getfield 127)), (50, some (.iconst 0)), (51, some (.iload_n 1)), (52, some (.iconst 4)), (53, some (.imul)), (54, some (.bipush 10)), (56, some (.invokestatic 141)), (59, some (.invokestatic 145)), (62, some (.return_))]
-- 55: RouteHouse.copy(I)I
def tb_c55 : List (Nat × Option Instr) := [(0, some (.aload_n 0)), (1, some (.iload_n 1)), (2, some (.invokevirtual 148)), (5, some (.aload_n 0)), (6, some (.getfield 28)), (9, some (.aload_n 0)), (10, some (.getfield 41)), (13, some (.getfield 151)), (16, some (.iload_n 1)), (17, some (.iaload)), (18, some (.putfield 121)), (21, some (.aload_n 0)), (22, some (.getfield 41)), (25, some (.getfield 154)), (28, some (.aload_n 0)), (29, some (.getfield 41)), (32, some (.getfield 157)), (35, some (.iload_n 1)), (36, some (.iaload)), (37, some (.aload_n 0)), (38, some (.getfield 28)), (41, some (.getfield 127)), (44, some (.iconst 0)), (45, some (.aload_n 0)), (46, some (.getfield 28)), (49, some (.getfield 121)), (52, some (.invokestatic 160)), (55, some (.aload_n 0)), (56, some (.getfield 28)), (59, some (.getfield 121)), (62, some (.ireturn))]
-- 56: RouteHouse.receive(I)I
def tb_c56 : List (Nat × Option Instr) := [(0, some (.aload_n 0)), (1, some (.iload_n 1)), (2, some (.invokevirtual 63)), (5, some (.aload_n 0)), (6, some (.getfield 41)), (9, some (.invokevirtual 166)), (12, some (.aload_n 0)), (13, some (.getfield 28)), (16, some (.invokevirtual 169)), (19, some (.istore_n 2)), (20, some (.iload_n 2)), (21, some (.ifCond .ne 9)), (24, some (.aload_n 0)), (25, some (.iload_n 1)), (26, some (.invokevirtual 173)), (29, some (.istore_n 2)), (30, some (.aload_n 0)), (31, some (.getfield 28)), (34, some (.iconst 0)), (35, some (.putfield 121)), (38, some (.iload_n 2)), (39, some (.ireturn))]
-- 57: RouteHouse.pass(I)I
def tb_c57 : List (Nat × Option Instr) := [(0, some (.iload_n 1)), (1, some (.ifCond .lt 9)), (4, some (.iload_n 1)), (5, some (.bipush 100)), (7, some (.if_icmp .le 13)), (10, some (.new 66)), (13, some (.dup)), (14, some (.ldc 176)), (16, some (.invokespecial 70)), (19, some (.athrow)), (20, some (.aload_n 0)), (21, some (.getfield 41)), (24, some (.invokevirtual 166)), (27, some (.iconst 0)), (28, some (.istore_n 2)), (29, some (.iload_n 2)), (30, some (.iload_n 1)), (31, some (.if_icmp .ge 13)), (34, some (.aload_n 0)), (35, some (.invokevirtual 178)), (38, some (.iinc 2 1)), (41, some (.goto (-12))), (44, some (.aload_n 0)), (45, some (.getfield 41)), (48, some (.getfield 181)), (51, some (.ireturn))]
-- 58: RouteHouse.sent(II)I
def tb_c58 : List (Nat × Option Instr) := [(0, some (.aload_n 0)), (1, some (.iload_n 1)), (2, some (.invokevirtual 148)), (5, some (.iload_n 2)), (6, some (.tableswitch 56 0 2 #[26, 36, 46])), (32, some (.aload_n 0)), (33, some (.getfield 41)), (36, some (.getfield 151)), (39, some (.iload_n 1)), (40, some (.iaload)), (41, some (.ireturn)), (42, some (.aload_n 0)), (43, some (.getfield 41)), (46, some (.getfield 182)), (49, some (.iload_n 1)), (50, some (.iaload)), (51, some (.ireturn)), (52, some (.aload_n 0)), (53, some (.getfield 41)), (56, some (.getfield 183)), (59, some (.iload_n 1)), (60, some (.iaload)), (61, some (.ireturn)), (62, some (.new 66)), (65, some (.dup)), (66, some (.ldc 184)), (68, some (.invokespecial 70)), (71, some (.athrow))]
-- 59: RouteHouse.out(II)I
def tb_c59 : List (Nat × Option Instr) := [(0, some (.aload_n 0)), (1, some (.iload_n 1)), (2, some (.invokevirtual 148)), (5, some (.iload_n 2)), (6, some (.ifCond .lt 16)), (9, some (.iload_n 2)), (10, some (.aload_n 0)), (11, some (.getfield 41)), (14, some (.getfield 151)), (17, some (.iload_n 1)), (18, some (.iaload)), (19, some (.if_icmp .lt 13)), (22, some (.new 186)), (25, some (.dup)), (26, some (.ldc 188)), (28, some (.invokespecial 190)), (31, some (.athrow)), (32, some (.aload_n 0)), (33, some (.getfield 41)), (36, some (.getfield 154)), (39, some (.aload_n 0)), (40, some (.getfield 41)), (43, some (.getfield 157)), (46, some (.iload_n 1)), (47, some (.iaload)), (48, some (.iload_n 2)), (49, some (.iadd)), (50, some (.baload)), (51, some (.sipush 255)), (54, some (.iand)), (55, some (.ireturn))]
-- 60: RouteHouse.data(I)I
def tb_c60 : List (Nat × Option Instr) := [(0, some (.iload_n 1)), (1, some (.ifCond .lt 14)), (4, some (.iload_n 1)), (5, some (.aload_n 0)), (6, some (.getfield 55)), (9, some (.getfield 191)), (12, some (.if_icmp .lt 7)), (15, some (.iconst (-1))), (16, some (.goto 16)), (19, some (.aload_n 0)), (20, some (.getfield 55)), (23, some (.getfield 192)), (26, some (.iload_n 1)), (27, some (.baload)), (28, some (.sipush 255)), (31, some (.iand)), (32, some (.ireturn))]
-- 61: RouteHouse.about(I)I
def tb_c61 : List (Nat × Option Instr) := [(0, some (.iload_n 1)), (1, some (.tableswitch 138 0 10 #[59, 67, 75, 83, 88, 93, 98, 106, 114, 122, 130])), (60, some (.aload_n 0)), (61, some (.getfield 19)), (64, some (.getfield 90)), (67, some (.ireturn)), (68, some (.aload_n 0)), (69, some (.getfield 41)), (72, some (.getfield 181)), (75, some (.ireturn)), (76, some (.aload_n 0)), (77, some (.getfield 48)), (80, some (.getfield 193)), (83, some (.ireturn)), (84, some (.aload_n 0)), (85, some (.getfield 59)), (88, some (.ireturn)), (89, some (.aload_n 0)), (90, some (.getfield 194)), (93, some (.ireturn)), (94, some (.aload_n 0)), (95, some (.getfield 197)), (98, some (.ireturn)), (99, some (.aload_n 0)), (100, some (.getfield 55)), (103, some (.getfield 200)), (106, some (.ireturn)), (107, some (.aload_n 0)), (108, some (.getfield 55)), (111, some (.getfield 203)), (114, some (.ireturn)), (115, some (.aload_n 0)), (116, some (.getfield 55)), (119, some (.getfield 206)), (122, some (.ireturn)), (123, some (.aload_n 0)), (124, some (.getfield 55)), (127, some (.getfield 191)), (130, some (.ireturn)), (131, some (.aload_n 0)), (132, some (.getfield 28)), (135, some (.getfield 121)), (138, some (.ireturn)), (139, some (.new 66)), (142, some (.dup)), (143, some (.ldc 209)), (145, some (.invokespecial 70)), (148, some (.athrow))]
-- 62: RouteHouse.refuseStrangePort(I)V
def tb_c62 : List (Nat × Option Instr) := [(0, some (.iload_n 1)), (1, some (.ifCond .lt 9)), (4, some (.iload_n 1)), (5, some (.bipush 8)), (7, some (.if_icmp .lt 13)), (10, some (.new 186)), (13, some (.dup)), (14, some (.ldc 211)), (16, some (.invokespecial 190)), (19, some (.athrow)), (20, some (.return_))]
-- 63: RouteHouse.refuseStrangePacket(I)V
def tb_c63 : List (Nat × Option Instr) := [(0, some (.iload_n 1)), (1, some (.ifCond .lt 14)), (4, some (.iload_n 1)), (5, some (.aload_n 0)), (6, some (.getfield 41)), (9, some (.getfield 181)), (12, some (.if_icmp .lt 13)), (15, some (.new 186)), (18, some (.dup)), (19, some (.ldc 213)), (21, some (.invokespecial 190)), (24, some (.athrow)), (25, some (.return_))]
-- 64: RouteHouse.refuseStrangeBits(I)V
def tb_c64 : List (Nat × Option Instr) := [(0, some (.iload_n 1)), (1, some (.ifCond .lt 9)), (4, some (.iload_n 1)), (5, some (.bipush 32)), (7, some (.if_icmp .le 13)), (10, some (.new 66)), (13, some (.dup)), (14, some (.ldc 215)), (16, some (.invokespecial 70)), (19, some (.athrow)), (20, some (.return_))]
-- 65: RouteHouse.takeSound(I)I
def tb_c65 : List (Nat × Option Instr) := [(0, some (.aload_n 0)), (1, some (.getfield 28)), (4, some (.invokevirtual 217)), (7, some (.istore_n 2)), (8, some (.iload_n 2)), (9, some (.iconst (-1))), (10, some (.if_icmp .eq 22)), (13, some (.aload_n 0)), (14, some (.aload_n 0)), (15, some (.getfield 28)), (18, some (.iload_n 1)), (19, some (.bipush 12)), (21, some (.iconst 0)), (22, some (.iload_n 2)), (23, some (.bipush 24)), (25, some (.ishl)), (26, some (.invokevirtual 220)), (29, some (.bipush 7)), (31, some (.ireturn)), (32, some (.aload_n 0)), (33, some (.aload_n 0)), (34, some (.getfield 28)), (37, some (.invokevirtual 224)), (40, some (.invokevirtual 226)), (43, some (.ifCond .eq 11)), (46, some (.aload_n 0)), (47, some (.iload_n 1)), (48, some (.invokevirtual 230)), (51, some (.goto 8)), (54, some (.aload_n 0)), (55, some (.iload_n 1)), (56, some (.invokevirtual 233)), (59, some (.ireturn))]
-- 66: RouteHouse.isOwnAddress(I)Z
def tb_c66 : List (Nat × Option Instr) := [(0, some (.iload_n 1)), (1, some (.ifCond .ne 5)), (4, some (.iconst 0)), (5, some (.ireturn)), (6, some (.iconst 0)), (7, some (.istore_n 2)), (8, some (.iload_n 2)), (9, some (.bipush 8)), (11, some (.if_icmp .ge 24)), (14, some (.aload_n 0)), (15, some (.getfield 11)), (18, some (.iload_n 2)), (19, some (.aaload)), (20, some (.getfield 73)), (23, some (.iload_n 1)), (24, some (.if_icmp .ne 5)), (27, some (.iconst 1)), (28, some (.ireturn)), (29, some (.iinc 2 1)), (32, some (.goto (-24))), (35, some (.iconst 0)), (36, some (.ireturn))]
-- 67: RouteHouse.takeOwn(I)I
def tb_c67 : List (Nat × Option Instr) := [(0, some (.aload_n 0)), (1, some (.getfield 28)), (4, some (.astore_n 2)), (5, some (.aload_n 0)), (6, some (.getfield 28)), (9, some (.invokevirtual 236)), (12, some (.ifCond .eq 34)), (15, some (.aload_n 0)), (16, some (.getfield 48)), (19, some (.aload_n 0)), (20, some (.getfield 28)), (23, some (.iload_n 1)), (24, some (.aload_n 0)), (25, some (.getfield 197)), (28, some (.aload_n 0)), (29, some (.getfield 32)), (32, some (.invokevirtual 240)), (35, some (.ifCond .ne 6)), (38, some (.bipush 10)), (40, some (.ireturn)), (41, some (.aload_n 0)), (42, some (.getfield 32)), (45, some (.astore_n 2)), (46, some (.aload_n 2)), (47, some (.invokevirtual 244)), (50, some (.istore_n 3)), (51, some (.iload_n 3)), (52, some (.bipush 17)), (54, some (.if_icmp .ne 14)), (57, some (.aload_n 0)), (58, some (.getfield 55)), (61, some (.aload_n 2)), (62, some (.invokevirtual 247)), (65, some (.bipush 13)), (67, some (.ireturn)), (68, some (.iload_n 3)), (69, some (.iconst 1)), (70, some (.if_icmp .eq 15)), (73, some (.aload_n 0)), (74, some (.aload_n 2)), (75, some (.iload_n 1)), (76, some (.iconst 3)), (77, some (.iconst 2)), (78, some (.iconst 0)), (79, some (.invokevirtual 220)), (82, some (.bipush 14)), (84, some (.ireturn)), (85, some (.aload_n 2)), (86, some (.invokevirtual 251)), (89, some (.ifCond .ne 6)), (92, some (.bipush 12)), (94, some (.ireturn)), (95, some (.aload_n 0)), (96, some (.aload_n 2)), (97, some (.iload_n 1)), (98, some (.invokevirtual 254)), (101, some (.bipush 11)), (103, some (.ireturn))]
-- 68: RouteHouse.sendOn(I)I
def tb_c68 : List (Nat × Option Instr) := [(0, some (.aload_n 0)), (1, some (.getfield 28)), (4, some (.invokevirtual 224)), (7, some (.istore_n 2)), (8, some (.iload_n 2)), (9, some (.bipush 24)), (11, some (.iushr)), (12, some (.istore_n 3)), (13, some (.iload_n 3)), (14, some (.ifCond .eq 16)), (17, some (.iload_n 3)), (18, some (.bipush 127)), (20, some (.if_icmp .eq 10)), (23, some (.iload_n 3)), (24, some (.sipush 223)), (27, some (.if_icmp .le 6)), (30, some (.bipush 20)), (32, some (.ireturn)), (33, some (.aload_n 0)), (34, some (.getfield 28)), (37, some (.invokevirtual 258)), (40, some (.istore 4)), (42, some (.iload 4)), (44, some (.iconst 2)), (45, some (.if_icmp .ge 19)), (48, some (.aload_n 0)), (49, some (.aload_n 0)), (50, some (.getfield 28)), (53, some (.iload_n 1)), (54, some (.bipush 11)), (56, some (.iconst 0)), (57, some (.iconst 0)), (58, some (.invokevirtual 220)), (61, some (.bipush 21)), (63, some (.ireturn)), (64, some (.aload_n 0)), (65, some (.getfield 19)), (68, some (.iload_n 2)), (69, some (.invokevirtual 107)), (72, some (.istore 5)), (74, some (.iload 5)), (76, some (.iconst (-1))), (77, some (.if_icmp .ne 18)), (80, some (.aload_n 0)), (81, some (.aload_n 0)), (82, some (.getfield 28)), (85, some (.iload_n 1)), (86, some (.iconst 3)), (87, some (.iconst 0)), (88, some (.iconst 0)), (89, some (.invokevirtual 220)), (92, some (.bipush 22)), (94, some (.ireturn)), (95, some (.aload_n 0)), (96, some (.getfield 19)), (99, some (.getfield 111)), (102, some (.iload 5)), (104, some (.iaload)), (105, some (.istore 6)), (107, some (.aload_n 0)), (108, some (.getfield 11)), (111, some (.iload 6)), (113, some (.aaload)), (114, some (.getfield 79)), (117, some (.ifCond .ne 18)), (120, some (.aload_n 0)), (121, some (.aload_n 0)), (122, some (.getfield 28)), (125, some (.iload_n 1)), (126, some (.iconst 3)), (127, some (.iconst 1)), (128, some (.iconst 0)), (129, some (.invokevirtual 220)), (132, some (.bipush 23)), (134, some (.ireturn)), (135, some (.aload_n 0)), (136, some (.getfield 11)), (139, some (.iload 6)), (141, some (.aaload)), (142, some (.getfield 76)), (145, some (.istore 7)), (147, some (.aload_n 0)), (148, some (.getfield 28)), (151, some (.invokevirtual 261)), (154, some (.iload 7)), (156, some (.if_icmp .le 7)), (159, some (.iconst 1)), (160, some (.goto 4)), (163, some (.iconst 0)), (164, some (.istore 8)), (166, some (.iload 8)), (168, some (.ifCond .eq 29)), (171, some (.aload_n 0)), (172, some (.getfield 28)), (175, some (.invokevirtual 264)), (178, some (.ifCond .eq 19)), (181, some (.aload_n 0)), (182, some (.aload_n 0)), (183, some (.getfield 28)), (186, some (.iload_n 1)), (187, some (.iconst 3)), (188, some (.iconst 4)), (189, some (.iload 7)), (191, some (.invokevirtual 220)), (194, some (.bipush 24)), (196, some (.ireturn)), (197, some (.aload_n 0)), (198, some (.getfield 28)), (201, some (.getfield 127)), (204, some (.bipush 8)), (206, some (.iload 4)), (208, some (.iconst 1)), (209, some (.isub)), (210, some (.i2b)), (211, some (.bastore)), (212, some (.aload_n 0)), (213, some (.getfield 41)), (216, some (.aload_n 0)), (217, some (.getfield 28)), (220, some (.iload 7)), (222, some (.iload 6)), (224, some (.aload_n 0)), (225, some (.getfield 19)), (228, some (.getfield 118)), (231, some (.iload 5)), (233, some (.iaload)), (234, some (.ifCond .ne 7)), (237, some (.iload_n 2)), (238, some (.goto 13)), (241, some (.aload_n 0)), (242, some (.getfield 19)), (245, some (.getfield 118)), (248, some (.iload 5)), (250, some (.iaload)), (251, some (.invokevirtual 267)), (254, some (.iload 8)), (256, some (.ifCond .eq 8)), (259, some (.bipush 26)), (261, some (.goto 5)), (264, some (.bipush 25)), (266, some (.ireturn))]
-- 69: RouteHouse.sendError(LRouteHouse$Packet;IIII)V
def tb_c69 : List (Nat × Option Instr) := [(0, some (.aload_n 0)), (1, some (.getfield 11)), (4, some (.iload_n 2)), (5, some (.aaload)), (6, some (.getfield 79)), (9, some (.ifCond .eq 17)), (12, some (.aload_n 0)), (13, some (.getfield 59)), (16, some (.ifCond .eq 10)), (19, some (.aload_n 1)), (20, some (.invokevirtual 271)), (23, some (.ifCond .ne 4)), (26, some (.return_)), (27, some (.aload_n 0)), (28, some (.dup)), (29, some (.getfield 59)), (32, some (.iconst 1)), (33, some (.isub)), (34, some (.putfield 59)), (37, some (.aload_n 1)), (38, some (.invokevirtual 274)), (41, some (.bipush 8)), (43, some (.aload_n 1)), (44, some (.invokevirtual 277)), (47, some (.invokestatic 280)), (50, some (.iadd)), (51, some (.istore 6)), (53, some (.aload_n 0)), (54, some (.getfield 35)), (57, some (.getfield 127)), (60, some (.bipush 20)), (62, some (.iload_n 3)), (63, some (.bipush 24)), (65, some (.ishl)), (66, some (.iload 4)), (68, some (.bipush 16)), (70, some (.ishl)), (71, some (.ior)), (72, some (.invokestatic 131)), (75, some (.aload_n 0)), (76, some (.getfield 35)), (79, some (.getfield 127)), (82, some (.bipush 24)), (84, some (.iload 5)), (86, some (.invokestatic 131)), (89, some (.aload_n 1)), (90, some (.getfield 127)), (93, some (.iconst 0)), (94, some (.aload_n 0)), (95, some (.getfield 35)), (98, some (.getfield 127)), (101, some (.bipush 28)), (103, some (.iload 6)), (105, some (.invokestatic 160)), (108, some (.aload_n 0)), (109, some (.bipush 8)), (111, some (.iload 6)), (113, some (.iadd)), (114, some (.iload_n 2)), (115, some (.aload_n 0)), (116, some (.getfield 11)), (119, some (.iload_n 2)), (120, some (.aaload)), (121, some (.getfield 73)), (124, some (.aload_n 1)), (125, some (.invokevirtual 285)), (128, some (.invokevirtual 287)), (131, some (.return_))]
-- 70: RouteHouse.sendAnswer(LRouteHouse$Packet;I)V
def tb_c70 : List (Nat × Option Instr) := [(0, some (.aload_n 0)), (1, some (.getfield 11)), (4, some (.iload_n 2)), (5, some (.aaload)), (6, some (.getfield 79)), (9, some (.ifCond .ne 4)), (12, some (.return_)), (13, some (.aload_n 1)), (14, some (.invokevirtual 277)), (17, some (.istore_n 3)), (18, some (.aload_n 1)), (19, some (.getfield 127)), (22, some (.aload_n 1)), (23, some (.invokevirtual 274)), (26, some (.aload_n 0)), (27, some (.getfield 35)), (30, some (.getfield 127)), (33, some (.bipush 20)), (35, some (.iload_n 3)), (36, some (.invokestatic 160)), (39, some (.aload_n 0)), (40, some (.getfield 35)), (43, some (.getfield 127)), (46, some (.bipush 20)), (48, some (.iconst 0)), (49, some (.bastore)), (50, some (.aload_n 0)), (51, some (.iload_n 3)), (52, some (.iload_n 2)), (53, some (.aload_n 1)), (54, some (.invokevirtual 224)), (57, some (.aload_n 1)), (58, some (.invokevirtual 285)), (61, some (.invokevirtual 287)), (64, some (.return_))]
-- 71: RouteHouse.sendReply(IIII)V
def tb_c71 : List (Nat × Option Instr) := [(0, some (.aload_n 0)), (1, some (.getfield 35)), (4, some (.getfield 127)), (7, some (.astore 5)), (9, some (.aload 5)), (11, some (.iconst 0)), (12, some (.ldc_w 291)), (15, some (.bipush 20)), (17, some (.iload_n 1)), (18, some (.iadd)), (19, some (.ior)), (20, some (.invokestatic 131)), (23, some (.aload 5)), (25, some (.iconst 4)), (26, some (.aload_n 0)), (27, some (.getfield 194)), (30, some (.bipush 16)), (32, some (.ishl)), (33, some (.invokestatic 131)), (36, some (.aload 5)), (38, some (.bipush 8)), (40, some (.ldc_w 292)), (43, some (.invokestatic 131)), (46, some (.aload 5)), (48, some (.bipush 12)), (50, some (.iload_n 3)), (51, some (.invokestatic 131)), (54, some (.aload 5)), (56, some (.bipush 16)), (58, some (.iload 4)), (60, some (.invokestatic 131)), (63, some (.bipush 22)), (65, some (.istore 6)), (67, some (.aload 5)), (69, some (.iload 6)), (71, some (.aload 5)), (73, some (.bipush 20)), (75, some (.iload_n 1)), (76, some (.iload 6)), (78, some (.invokestatic 141)), (81, some (.invokestatic 145)), (84, some (.aload_n 0)), (85, some (.dup)), (86, some (.getfield 194)), (89, some (.iconst 1)), (90, some (.iadd)), (91, some (.putfield 194)), (94, some (.aload_n 0)), (95, some (.getfield 41)), (98, some (.aload_n 0)), (99, some (.getfield 35)), (102, some (.aload_n 0)), (103, some (.getfield 11)), (106, some (.iload_n 2)), (107, some (.aaload)), (108, some (.getfield 76)), (111, some (.iload_n 2)), (112, some (.iconst 0)), (113, some (.invokevirtual 267)), (116, some (.return_))]
-- 72: RouteHouse.passOne()V
def tb_c72 : List (Nat × Option Instr) := [(0, some (.aload_n 0)), (1, some (.dup)), (2, some (.getfield 197)), (5, some (.iconst 1)), (6, some (.iadd)), (7, some (.putfield 197)), (10, some (.aload_n 0)), (11, some (.getfield 197)), (14, some (.bipush 10)), (16, some (.irem)), (17, some (.ifCond .ne 22)), (20, some (.aload_n 0)), (21, some (.getfield 59)), (24, some (.bipush 6)), (26, some (.if_icmp .ge 13)), (29, some (.aload_n 0)), (30, some (.dup)), (31, some (.getfield 59)), (34, some (.iconst 1)), (35, some (.iadd)), (36, some (.putfield 59)), (39, some (.iconst 0)), (40, some (.istore_n 1)), (41, some (.iload_n 1)), (42, some (.iconst 4)), (43, some (.if_icmp .ge 64)), (46, some (.aload_n 0)), (47, some (.getfield 48)), (50, some (.aload_n 0)), (51, some (.getfield 197)), (54, some (.invokevirtual 293)), (57, some (.ifCond .eq 50)), (60, some (.aload_n 0)), (61, some (.getfield 48)), (64, some (.getfield 296)), (67, some (.iconst 0)), (68, some (.aaload)), (69, some (.astore_n 2)), (70, some (.aload_n 2)), (71, some (.getfield 300)), (74, some (.ifCond .eq 19)), (77, some (.aload_n 0)), (78, some (.aload_n 2)), (79, some (.getfield 305)), (82, some (.aload_n 2)), (83, some (.getfield 308)), (86, some (.bipush 11)), (88, some (.iconst 1)), (89, some (.iconst 0)), (90, some (.invokevirtual 220)), (93, some (.aload_n 0)), (94, some (.getfield 48)), (97, some (.iconst 0)), (98, some (.invokevirtual 311)), (101, some (.iinc 1 1)), (104, some (.goto (-63))), (107, some (.return_))]
-- 73: RouteHouseModel.<init>()V
def tb_c73 : List (Nat × Option Instr) := [(0, some (.aload_n 0)), (1, some (.invokespecial 1)), (4, some (.aload_n 0)), (5, some (.bipush 8)), (7, some (.newarray .int)), (9, some (.putfield 7)), (12, some (.aload_n 0)), (13, some (.bipush 8)), (15, some (.newarray .int)), (17, some (.putfield 13)), (20, some (.aload_n 0)), (21, some (.bipush 8)), (23, some (.newarray .boolean)), (25, some (.putfield 16)), (28, some (.aload_n 0)), (29, some (.sipush 400)), (32, some (.newarray .int)), (34, some (.putfield 20)), (37, some (.aload_n 0)), (38, some (.sipush 400)), (41, some (.newarray .int)), (43, some (.putfield 23)), (46, some (.aload_n 0)), (47, some (.sipush 400)), (50, some (.newarray .int)), (52, some (.putfield 26)), (55, some (.aload_n 0)), (56, some (.sipush 400)), (59, some (.newarray .int)), (61, some (.putfield 29)), (64, some (.aload_n 0)), (65, some (.sipush 2000)), (68, some (.newarray .int)), (70, some (.putfield 32)), (73, some (.aload_n 0)), (74, some (.sipush 4100)), (77, some (.newarray .int)), (79, some (.putfield 35)), (82, some (.aload_n 0)), (83, some (.sipush 4200)), (86, some (.newarray .int)), (88, some (.putfield 38)), (91, some (.aload_n 0)), (92, some (.sipush 24000)), (95, some (.newarray .int)), (97, some (.putfield 41)), (100, some (.aload_n 0)), (101, some (.sipush 300)), (104, some (.newarray .int)), (106, some (.putfield 44)), (109, some (.aload_n 0)), (110, some (.sipush 300)), (113, some (.newarray .int)), (115, some (.putfield 47)), (118, some (.aload_n 0)), (119, some (.sipush 300)), (122, some (.newarray .int)), (124, some (.putfield 50)), (127, some (.aload_n 0)), (128, some (.sipush 300)), (131, some (.newarray .int)), (133, some (.putfield 53)), (136, some (.aload_n 0)), (137, some (.bipush 6)), (139, some (.putfield 56)), (142, some (.aload_n 0)), (143, some (.sipush 4000)), (146, some (.newarray .int)), (148, some (.putfield 60)), (151, some (.aload_n 0)), (152, some (.iconst 4)), (153, some (.newarray .int)), (155, some (.putfield 63)), (158, some (.aload_n 0)), (159, some (.iconst 4)), (160, some (.newarray .int)), (162, some (.putfield 66)), (165, some (.aload_n 0)), (166, some (.iconst 4)), (167, some (.newarray .int)), (169, some (.putfield 69)), (172, some (.aload_n 0)), (173, some (.iconst 4)), (174, some (.newarray .int)), (176, some (.putfield 72)), (179, some (.aload_n 0)), (180, some (.iconst 4)), (181, some (.newarray .int)), (183, some (.putfield 75)), (186, some (.aload_n 0)), (187, some (.iconst 4)), (188, some (.newarray .int)), (190, some (.putfield 78)), (193, some (.aload_n 0)), (194, some (.iconst 4)), (195, some (.newarray .int)), (197, some (.putfield 81)), (200, some (.aload_n 0)), (201, some (.sipush 240)), (204, some (.newarray .int)), (206, some (.putfield 84)), (209, some (.aload_n 0)), (210, some (.bipush 32)), (212, some (.newarray .int)), (214, some (.putfield 87)), (217, some (.aload_n 0)), (218, some (.iconst 4)), (219, some (.newarray .int)), (221, some (.putfield 90)), (224, some (.aload_n 0)), (225, some (.iconst 4)), (226, some (.newarray .int)), (228, some (.putfield 93)), (231, some (.aload_n 0)), (232, some (.sipush 16000)), (235, some (.newarray .int)), (237, some (.putfield 96)), (240, some (.aload_n 0)), (241, some (.sipush 16000)), (244, some (.newarray .boolean)), (246, some (.putfield 99)), (249, some (.iconst 0)), (250, some (.istore_n 1)), (251, some (.iload_n 1)), (252, some (.bipush 8)), (254, some (.if_icmp .ge 18)), (257, some (.aload_n 0)), (258, some (.getfield 13)), (261, some (.iload_n 1)), (262, some (.sipush 1500)), (265, some (.iastore)), (266, some (.iinc 1 1)), (269, some (.goto (-18))), (272, some (.return_))]
-- 74: RouteHouseModel.thrown()I
def tb_c74 : List (Nat × Option Instr) := [(0, some (.aload_n 0)), (1, some (.getfield 102)), (4, some (.ireturn))]
-- 75: RouteHouseModel.fails(ZI)Z
def tb_c75 : List (Nat × Option Instr) := [(0, some (.aload_n 0)), (1, some (.iload_n 1)), (2, some (.ifCond .eq 7)), (5, some (.iload_n 2)), (6, some (.goto 4)), (9, some (.iconst 0)), (10, some (.putfield 102)), (13, some (.iload_n 1)), (14, some (.ireturn))]
-- 76: RouteHouseModel.isPort(I)Z
def tb_c76 : List (Nat × Option Instr) := [(0, some (.iload_n 0)), (1, some (.ifCond .lt 13)), (4, some (.iload_n 0)), (5, some (.bipush 8)), (7, some (.if_icmp .ge 7)), (10, some (.iconst 1)), (11, some (.goto 4)), (14, some (.iconst 0)), (15, some (.ireturn))]
-- 77: RouteHouseModel.port(III)V
def tb_c77 : List (Nat × Option Instr) := [(0, some (.aload_n 0)), (1, some (.iload_n 1)), (2, some (.invokestatic 105)), (5, some (.ifCond .ne 7)), (8, some (.iconst 1)), (9, some (.goto 4)), (12, some (.iconst 0)), (13, some (.iconst 1)), (14, some (.invokevirtual 109)), (17, some (.ifCond .ne 29)), (20, some (.aload_n 0)), (21, some (.iload_n 3)), (22, some (.bipush 100)), (24, some (.if_icmp .lt 10)), (27, some (.iload_n 3)), (28, some (.sipush 1500)), (31, some (.if_icmp .le 7)), (34, some (.iconst 1)), (35, some (.goto 4)), (38, some (.iconst 0)), (39, some (.iconst 2)), (40, some (.invokevirtual 109)), (43, some (.ifCond .eq 4)), (46, some (.return_)), (47, some (.aload_n 0)), (48, some (.getfield 7)), (51, some (.iload_n 1)), (52, some (.iload_n 2)), (53, some (.iastore)), (54, some (.aload_n 0)), (55, some (.getfield 13)), (58, some (.iload_n 1)), (59, some (.iload_n 3)), (60, some (.iastore)), (61, some (.return_))]
-- 78: RouteHouseModel.up(IZ)Z
def tb_c78 : List (Nat × Option Instr) := [(0, some (.aload_n 0)), (1, some (.iload_n 1)), (2, some (.invokestatic 105)), (5, some (.ifCond .ne 7)), (8, some (.iconst 1)), (9, some (.goto 4)), (12, some (.iconst 0)), (13, some (.iconst 1)), (14, some (.invokevirtual 109)), (17, some (.ifCond .eq 5)), (20, some (.iconst 0)), (21, some (.ireturn)), (22, some (.aload_n 0)), (23, some (.getfield 16)), (26, some (.iload_n 1)), (27, some (.baload)), (28, some (.ifCond .ne 7)), (31, some (.iconst 1)), (32, some (.goto 4)), (35, some (.iconst 0)), (36, some (.istore_n 3)), (37, some (.aload_n 0)), (38, some (.getfield 16)), (41, some (.iload_n 1)), (42, some (.iload_n 2)), (43, some (.ifCond .ne 7)), (46, some (.iconst 1)), (47, some (.goto 4)), (50, some (.iconst 0)), (51, some (.bastore)), (52, some (.iload_n 3)), (53, some (.ireturn))]
-- 79: RouteHouseModel.start(II)I
def tb_c79 : List (Nat × Option Instr) := [(0, some (.iload_n 1)), (1, some (.ifCond .ne 7)), (4, some (.iconst 0)), (5, some (.goto 14)), (8, some (.iload_n 0)), (9, some (.bipush 32)), (11, some (.iload_n 1)), (12, some (.isub)), (13, some (.ishr)), (14, some (.bipush 32)), (16, some (.iload_n 1)), (17, some (.isub)), (18, some (.ishl)), (19, some (.ireturn))]
-- 80: RouteHouseModel.routeFor(II)I
def tb_c80 : List (Nat × Option Instr) := [(0, some (.iconst 0)), (1, some (.istore_n 3)), (2, some (.iload_n 3)), (3, some (.aload_n 0)), (4, some (.getfield 113)), (7, some (.if_icmp .ge 35)), (10, some (.aload_n 0)), (11, some (.getfield 23)), (14, some (.iload_n 3)), (15, some (.iaload)), (16, some (.iload_n 2)), (17, some (.if_icmp .ne 19)), (20, some (.aload_n 0)), (21, some (.getfield 20)), (24, some (.iload_n 3)), (25, some (.iaload)), (26, some (.iload_n 1)), (27, some (.iload_n 2)), (28, some (.invokestatic 116)), (31, some (.if_icmp .ne 5)), (34, some (.iload_n 3)), (35, some (.ireturn)), (36, some (.iinc 3 1)), (39, some (.goto (-37))), (42, some (.iconst (-1))), (43, some (.ireturn))]
-- 81: RouteHouseModel.route(IIII)I
def tb_c81 : List (Nat × Option Instr) := [(0, some (.aload_n 0)), (1, some (.iload_n 2)), (2, some (.ifCond .lt 9)), (5, some (.iload_n 2)), (6, some (.bipush 32)), (8, some (.if_icmp .le 7)), (11, some (.iconst 1)), (12, some (.goto 4)), (15, some (.iconst 0)), (16, some (.iconst 1)), (17, some (.invokevirtual 109)), (20, some (.ifCond .ne 23)), (23, some (.aload_n 0)), (24, some (.iload_n 3)), (25, some (.invokestatic 105)), (28, some (.ifCond .ne 7)), (31, some (.iconst 1)), (32, some (.goto 4)), (35, some (.iconst 0)), (36, some (.iconst 2)), (37, some (.invokevirtual 109)), (40, some (.ifCond .eq 5)), (43, some (.iconst 0)), (44, some (.ireturn)), (45, some (.aload_n 0)), (46, some (.iload_n 1)), (47, some (.iload_n 2)), (48, some (.invokevirtual 120)), (51, some (.istore 5)), (53, some (.aload_n 0)), (54, some (.iload 5)), (56, some (.iconst (-1))), (57, some (.if_icmp .ne 17)), (60, some (.aload_n 0)), (61, some (.getfield 113)), (64, some (.sipush 400)), (67, some (.if_icmp .ne 7)), (70, some (.iconst 1)), (71, some (.goto 4)), (74, some (.iconst 0)), (75, some (.iconst 3)), (76, some (.invokevirtual 109)), (79, some (.ifCond .eq 5)), (82, some (.iconst 0)), (83, some (.ireturn)), (84, some (.iload 5)), (86, some (.iconst (-1))), (87, some (.if_icmp .ne 19)), (90, some (.aload_n 0)), (91, some (.getfield 113)), (94, some (.istore 5)), (96, some (.aload_n 0)), (97, some (.dup)), (98, some (.getfield 113)), (101, some (.iconst 1)), (102, some (.iadd)), (103, some (.putfield 113)), (106, some (.aload_n 0)), (107, some (.getfield 20)), (110, some (.iload 5)), (112, some (.iload_n 1)), (113, some (.iload_n 2)), (114, some (.invokestatic 116)), (117, some (.iastore)), (118, some (.aload_n 0)), (119, some (.getfield 23)), (122, some (.iload 5)), (124, some (.iload_n 2)), (125, some (.iastore)), (126, some (.aload_n 0)), (127, some (.getfield 26)), (130, some (.iload 5)), (132, some (.iload_n 3)), (133, some (.iastore)), (134, some (.aload_n 0)), (135, some (.getfield 29)), (138, some (.iload 5)), (140, some (.iload 4)), (142, some (.iastore)), (143, some (.aload_n 0)), (144, some (.getfield 113)), (147, some (.ireturn))]
-- 82: RouteHouseModel.unroute(II)Z
def tb_c82 : List (Nat × Option Instr) := [(0, some (.aload_n 0)), (1, some (.iload_n 2)), (2, some (.ifCond .lt 9)), (5, some (.iload_n 2)), (6, some (.bipush 32)), (8, some (.if_icmp .le 7)), (11, some (.iconst 1)), (12, some (.goto 4)), (15, some (.iconst 0)), (16, some (.iconst 1)), (17, some (.invokevirtual 109)), (20, some (.ifCond .eq 5)), (23, some (.iconst 0)), (24, some (.ireturn)), (25, some (.aload_n 0)), (26, some (.iload_n 1)), (27, some (.iload_n 2)), (28, some (.invokevirtual 120)), (31, some (.istore_n 3)), (32, some (.iload_n 3)), (33, some (.iconst (-1))), (34, some (.if_icmp .ne 5)), (37, some (.iconst 0)), (38, some (.ireturn)), (39, some (.aload_n 0)), (40, some (.dup)), (41, some (.getfield 113)), (44, some (.iconst 1)), (45, some (.isub)), (46, some (.putfield 113)), (49, some (.aload_n 0)), (50, some (.getfield 20)), (53, some (.iload_n 3)), (54, some (.aload_n 0)), (55, some (.getfield 20)), (58, some (.aload_n 0)), (59, some (.getfield 113)), (62, some (.iaload)), (63, some (.iastore)), (64, some (.aload_n 0)), (65, some (.getfield 23)), (68, some (.iload_n 3)), (69, some (.aload_n 0)), (70, some (.getfield 23)), (73, some (.aload_n 0)), (74, some (.getfield 113)), (77, some (.iaload)), (78, some (.iastore)), (79, some (.aload_n 0)), (80, some (.getfield 26)), (83, some (.iload_n 3)), (84, some (.aload_n 0)), (85, some (.getfield 26)), (88, some (.aload_n 0)), (89, some (.getfield 113)), (92, some (.iaload)), (93, some (.iastore)), (94, some (.aload_n 0)), (95, some (.getfield 29)), (98, some (.iload_n 3)), (99, some (.aload_n 0)), (100, some (.getfield 29)), (103, some (.aload_n 0)), (104, some (.getfield 113)), (107, some (.iaload)), (108, some (.iastore)), (109, some (.iconst 1)), (110, some (.ireturn))]
-- 83: RouteHouseModel.find(I)I
def tb_c83 : List (Nat × Option Instr) := [(0, some (.iconst (-1))), (1, some (.istore_n 2)), (2, some (.iconst 0)), (3, some (.istore_n 3)), (4, some (.iload_n 3)), (5, some (.aload_n 0)), (6, some (.getfield 113)), (9, some (.if_icmp .ge 50)), (12, some (.aload_n 0)), (13, some (.getfield 20)), (16, some (.iload_n 3)), (17, some (.iaload)), (18, some (.iload_n 1)), (19, some (.aload_n 0)), (20, some (.getfield 23)), (23, some (.iload_n 3)), (24, some (.iaload)), (25, some (.invokestatic 116)), (28, some (.if_icmp .ne 25)), (31, some (.iload_n 2)), (32, some (.iconst (-1))), (33, some (.if_icmp .eq 18)), (36, some (.aload_n 0)), (37, some (.getfield 23)), (40, some (.iload_n 3)), (41, some (.iaload)), (42, some (.aload_n 0)), (43, some (.getfield 23)), (46, some (.iload_n 2)), (47, some (.iaload)), (48, some (.if_icmp .le 5)), (51, some (.iload_n 3)), (52, some (.istore_n 2)), (53, some (.iinc 3 1)), (56, some (.goto (-52))), (59, some (.iload_n 2)), (60, some (.ireturn))]
-- 84: RouteHouseModel.lookup(II)I
def tb_c84 : List (Nat × Option Instr) := [(0, some (.aload_n 0)), (1, some (.iload_n 2)), (2, some (.ifCond .lt 8)), (5, some (.iload_n 2)), (6, some (.iconst 2)), (7, some (.if_icmp .le 7)), (10, some (.iconst 1)), (11, some (.goto 4)), (14, some (.iconst 0)), (15, some (.iconst 1)), (16, some (.invokevirtual 109)), (19, some (.ifCond .eq 5)), (22, some (.iconst 0)), (23, some (.ireturn)), (24, some (.aload_n 0)), (25, some (.iload_n 1)), (26, some (.invokevirtual 123)), (29, some (.istore_n 3)), (30, some (.iload_n 2)), (31, some (.iconst 2)), (32, some (.if_icmp .ne 19)), (35, some (.iload_n 3)), (36, some (.iconst (-1))), (37, some (.if_icmp .ne 7)), (40, some (.iconst 0)), (41, some (.goto 9)), (44, some (.aload_n 0)), (45, some (.getfield 29)), (48, some (.iload_n 3)), (49, some (.iaload)), (50, some (.ireturn)), (51, some (.iload_n 3)), (52, some (.iconst (-1))), (53, some (.if_icmp .ne 7)), (56, some (.iconst (-1))), (57, some (.goto 22)), (60, some (.iload_n 2)), (61, some (.ifCond .ne 12)), (64, some (.aload_n 0)), (65, some (.getfield 26)), (68, some (.iload_n 3)), (69, some (.iaload)), (70, some (.goto 9)), (73, some (.aload_n 0)), (74, some (.getfield 23)), (77, some (.iload_n 3)), (78, some (.iaload)), (79, some (.ireturn))]
-- 85: RouteHouseModel.feed(IIIII)I
def tb_c85 : List (Nat × Option Instr) := [(0, some (.aload_n 0)), (1, some (.aload_n 0)), (2, some (.getfield 127)), (5, some (.bipush 20)), (7, some (.iadd)), (8, some (.sipush 2000)), (11, some (.if_icmp .le 7)), (14, some (.iconst 1)), (15, some (.goto 4)), (18, some (.iconst 0)), (19, some (.iconst 1)), (20, some (.invokevirtual 109)), (23, some (.ifCond .eq 5)), (26, some (.iconst 0)), (27, some (.ireturn)), (28, some (.iconst 0)), (29, some (.istore 6)), (31, some (.iload 6)), (33, some (.bipush 20)), (35, some (.if_icmp .ge 86)), (38, some (.iload 6)), (40, some (.iconst 4)), (41, some (.if_icmp .ge 7)), (44, some (.iload_n 1)), (45, some (.goto 39)), (48, some (.iload 6)), (50, some (.bipush 8)), (52, some (.if_icmp .ge 7)), (55, some (.iload_n 2)), (56, some (.goto 28)), (59, some (.iload 6)), (61, some (.bipush 12)), (63, some (.if_icmp .ge 7)), (66, some (.iload_n 3)), (67, some (.goto 17)), (70, some (.iload 6)), (72, some (.bipush 16)), (74, some (.if_icmp .ge 8)), (77, some (.iload 4)), (79, some (.goto 5)), (82, some (.iload 5)), (84, some (.istore 7)), (86, some (.aload_n 0)), (87, some (.getfield 32)), (90, some (.aload_n 0)), (91, some (.getfield 127)), (94, some (.iload 6)), (96, some (.iadd)), (97, some (.iload 7)), (99, some (.bipush 24)), (101, some (.bipush 8)), (103, some (.iload 6)), (105, some (.iconst 4)), (106, some (.irem)), (107, some (.imul)), (108, some (.isub)), (109, some (.ishr)), (110, some (.sipush 255)), (113, some (.iand)), (114, some (.iastore)), (115, some (.iinc 6 1)), (118, some (.goto (-87))), (121, some (.aload_n 0)), (122, some (.dup)), (123, some (.getfield 127)), (126, some (.bipush 20)), (128, some (.iadd)), (129, some (.putfield 127)), (132, some (.aload_n 0)), (133, some (.getfield 127)), (136, some (.ireturn))]
-- 86: RouteHouseModel.end(I)V
def tb_c86 : List (Nat × Option Instr) := [(0, some (.aload_n 0)), (1, some (.iload_n 1)), (2, some (.ifCond .lt 11)), (5, some (.iload_n 1)), (6, some (.aload_n 0)), (7, some (.getfield 127)), (10, some (.if_icmp .le 7)), (13, some (.iconst 1)), (14, some (.goto 4)), (17, some (.iconst 0)), (18, some (.iconst 1)), (19, some (.invokevirtual 109)), (22, some (.ifCond .eq 4)), (25, some (.return_)), (26, some (.aload_n 0)), (27, some (.iload_n 1)), (28, some (.putfield 127)), (31, some (.return_))]
-- 87: RouteHouseModel.sumOf([IIII)I
def tb_c87 : List (Nat × Option Instr) := [(0, some (.iconst 0)), (1, some (.istore 4)), (3, some (.iconst 0)), (4, some (.istore 5)), (6, some (.iload 5)), (8, some (.iload_n 2)), (9, some (.if_icmp .ge 70)), (12, some (.iload 5)), (14, some (.iload_n 3)), (15, some (.if_icmp .eq 11)), (18, some (.iload 5)), (20, some (.iload_n 3)), (21, some (.iconst 1)), (22, some (.iadd)), (23, some (.if_icmp .ne 7)), (26, some (.iconst 0)), (27, some (.goto 9)), (30, some (.aload_n 0)), (31, some (.iload_n 1)), (32, some (.iload 5)), (34, some (.iadd)), (35, some (.iaload)), (36, some (.istore 6)), (38, some (.iload 4)), (40, some (.iload 5)), (42, some (.iconst 2)), (43, some (.irem)), (44, some (.ifCond .ne 11)), (47, some (.iload 6)), (49, some (.bipush 8)), (51, some (.ishl)), (52, some (.goto 5)), (55, some (.iload 6)), (57, some (.iadd)), (58, some (.istore 4)), (60, some (.iload 4)), (62, some (.ldc 130)), (64, some (.iand)), (65, some (.iload 4)), (67, some (.bipush 16)), (69, some (.ishr)), (70, some (.iadd)), (71, some (.istore 4)), (73, some (.iinc 5 1)), (76, some (.goto (-70))), (79, some (.iload 4)), (81, some (.iconst (-1))), (82, some (.ixor)), (83, some (.ldc 130)), (85, some (.iand)), (86, some (.ireturn))]
-- 88: RouteHouseModel.putTwo([III)V
def tb_c88 : List (Nat × Option Instr) := [(0, some (.aload_n 0)), (1, some (.iload_n 1)), (2, some (.iload_n 2)), (3, some (.bipush 8)), (5, some (.ishr)), (6, some (.sipush 255)), (9, some (.iand)), (10, some (.iastore)), (11, some (.aload_n 0)), (12, some (.iload_n 1)), (13, some (.iconst 1)), (14, some (.iadd)), (15, some (.iload_n 2)), (16, some (.sipush 255)), (19, some (.iand)), (20, some (.iastore)), (21, some (.return_))]
-- 89: RouteHouseModel.two([II)I
def tb_c89 : List (Nat × Option Instr) := [(0, some (.aload_n 0)), (1, some (.iload_n 1)), (2, some (.iaload)), (3, some (.bipush 8)), (5, some (.ishl)), (6, some (.aload_n 0)), (7, some (.iload_n 1)), (8, some (.iconst 1)), (9, some (.iadd)), (10, some (.iaload)), (11, some (.ior)), (12, some (.ireturn))]
-- 90: RouteHouseModel.four([II)I
def tb_c90 : List (Nat × Option Instr) := [(0, some (.aload_n 0)), (1, some (.iload_n 1)), (2, some (.invokestatic 131)), (5, some (.bipush 16)), (7, some (.ishl)), (8, some (.aload_n 0)), (9, some (.iload_n 1)), (10, some (.iconst 2)), (11, some (.iadd)), (12, some (.invokestatic 131)), (15, some (.ior)), (16, some (.ireturn))]
-- 91: RouteHouseModel.putFour([III)V
def tb_c91 : List (Nat × Option Instr) := [(0, some (.aload_n 0)), (1, some (.iload_n 1)), (2, some (.iload_n 2)), (3, some (.bipush 16)), (5, some (.iushr)), (6, some (.invokestatic 135)), (9, some (.aload_n 0)), (10, some (.iload_n 1)), (11, some (.iconst 2)), (12, some (.iadd)), (13, some (.iload_n 2)), (14, some (.ldc 130)), (16, some (.iand)), (17, some (.invokestatic 135)), (20, some (.return_))]
-- 92: RouteHouseModel.sum(I)V
def tb_c92 : List (Nat × Option Instr) := [(0, some (.aload_n 0)), (1, some (.iload_n 1)), (2, some (.iconst 5)), (3, some (.if_icmp .lt 19)), (6, some (.iload_n 1)), (7, some (.bipush 15)), (9, some (.if_icmp .gt 13)), (12, some (.iconst 4)), (13, some (.iload_n 1)), (14, some (.imul)), (15, some (.aload_n 0)), (16, some (.getfield 127)), (19, some (.if_icmp .le 7)), (22, some (.iconst 1)), (23, some (.goto 4)), (26, some (.iconst 0)), (27, some (.iconst 1)), (28, some (.invokevirtual 109)), (31, some (.ifCond .eq 4)), (34, some (.return_)), (35, some (.aload_n 0)), (36, some (.getfield 32)), (39, some (.bipush 10)), (41, some (.aload_n 0)), (42, some (.getfield 32)), (45, some (.iconst 0)), (46, some (.iconst 4)), (47, some (.iload_n 1)), (48, some (.imul)), (49, some (.bipush 10)), (51, some (.invokestatic 139)), (54, some (.invokestatic 135)), (57, some (.return_))]
-- 93: RouteHouseModel.copy(I)I
def tb_c93 : List (Nat × Option Instr) := [(0, some (.aload_n 0)), (1, some (.iload_n 1)), (2, some (.ifCond .lt 11)), (5, some (.iload_n 1)), (6, some (.aload_n 0)), (7, some (.getfield 143)), (10, some (.if_icmp .lt 7)), (13, some (.iconst 1)), (14, some (.goto 4)), (17, some (.iconst 0)), (18, some (.iconst 1)), (19, some (.invokevirtual 109)), (22, some (.ifCond .eq 5)), (25, some (.iconst 0)), (26, some (.ireturn)), (27, some (.iconst 0)), (28, some (.istore_n 2)), (29, some (.iload_n 2)), (30, some (.aload_n 0)), (31, some (.getfield 47)), (34, some (.iload_n 1)), (35, some (.iaload)), (36, some (.if_icmp .ge 28)), (39, some (.aload_n 0)), (40, some (.getfield 32)), (43, some (.iload_n 2)), (44, some (.aload_n 0)), (45, some (.getfield 41)), (48, some (.aload_n 0)), (49, some (.getfield 44)), (52, some (.iload_n 1)), (53, some (.iaload)), (54, some (.iload_n 2)), (55, some (.iadd)), (56, some (.iaload)), (57, some (.iastore)), (58, some (.iinc 2 1)), (61, some (.goto (-32))), (64, some (.aload_n 0)), (65, some (.aload_n 0)), (66, some (.getfield 47)), (69, some (.iload_n 1)), (70, some (.iaload)), (71, some (.putfield 127)), (74, some (.aload_n 0)), (75, some (.getfield 127)), (78, some (.ireturn))]
-- 94: RouteHouseModel.emit(II)V
def tb_c94 : List (Nat × Option Instr) := [(0, some (.iconst 4)), (1, some (.aload_n 0)), (2, some (.getfield 38)), (5, some (.iconst 0)), (6, some (.iaload)), (7, some (.bipush 15)), (9, some (.iand)), (10, some (.imul)), (11, some (.istore_n 3)), (12, some (.aload_n 0)), (13, some (.getfield 38)), (16, some (.iconst 2)), (17, some (.aload_n 0)), (18, some (.getfield 146)), (21, some (.invokestatic 135)), (24, some (.aload_n 0)), (25, some (.getfield 38)), (28, some (.bipush 10)), (30, some (.aload_n 0)), (31, some (.getfield 38)), (34, some (.iconst 0)), (35, some (.iload_n 3)), (36, some (.bipush 10)), (38, some (.invokestatic 139)), (41, some (.invokestatic 135)), (44, some (.aload_n 0)), (45, some (.getfield 44)), (48, some (.aload_n 0)), (49, some (.getfield 143)), (52, some (.aload_n 0)), (53, some (.getfield 143)), (56, some (.ifCond .ne 7)), (59, some (.iconst 0)), (60, some (.goto 26)), (63, some (.aload_n 0)), (64, some (.getfield 44)), (67, some (.aload_n 0)), (68, some (.getfield 143)), (71, some (.iconst 1)), (72, some (.isub)), (73, some (.iaload)), (74, some (.aload_n 0)), (75, some (.getfield 47)), (78, some (.aload_n 0)), (79, some (.getfield 143)), (82, some (.iconst 1)), (83, some (.isub)), (84, some (.iaload)), (85, some (.iadd)), (86, some (.iastore)), (87, some (.aload_n 0)), (88, some (.getfield 47)), (91, some (.aload_n 0)), (92, some (.getfield 143)), (95, some (.aload_n 0)), (96, some (.getfield 146)), (99, some (.iastore)), (100, some (.aload_n 0)), (101, some (.getfield 50)), (104, some (.aload_n 0)), (105, some (.getfield 143)), (108, some (.iload_n 1)), (109, some (.iastore)), (110, some (.aload_n 0)), (111, some (.getfield 53)), (114, some (.aload_n 0)), (115, some (.getfield 143)), (118, some (.iload_n 2)), (119, some (.iastore)), (120, some (.iconst 0)), (121, some (.istore 4)), (123, some (.iload 4)), (125, some (.aload_n 0)), (126, some (.getfield 146)), (129, some (.if_icmp .ge 33)), (132, some (.aload_n 0)), (133, some (.getfield 41)), (136, some (.aload_n 0)), (137, some (.getfield 44)), (140, some (.aload_n 0)), (141, some (.getfield 143)), (144, some (.iaload)), (145, some (.iload 4)), (147, some (.iadd)), (148, some (.aload_n 0)), (149, some (.getfield 38)), (152, some (.iload 4)), (154, some (.iaload)), (155, some (.iastore)), (156, some (.iinc 4 1)), (159, some (.goto (-36))), (162, some (.aload_n 0)), (163, some (.dup)), (164, some (.getfield 143)), (167, some (.iconst 1)), (168, some (.iadd)), (169, some (.putfield 143)), (172, some (.return_))]
-- 95: RouteHouseModel.send(II)V
def tb_c95 : List (Nat × Option Instr) := [(0, some (.iconst 4)), (1, some (.aload_n 0)), (2, some (.getfield 35)), (5, some (.iconst 0)), (6, some (.iaload)), (7, some (.bipush 15)), (9, some (.iand)), (10, some (.imul)), (11, some (.istore_n 3)), (12, some (.aload_n 0)), (13, some (.getfield 149)), (16, some (.aload_n 0)), (17, some (.getfield 13)), (20, some (.iload_n 1)), (21, some (.iaload)), (22, some (.if_icmp .gt 50)), (25, some (.iconst 0)), (26, some (.istore 4)), (28, some (.iload 4)), (30, some (.aload_n 0)), (31, some (.getfield 149)), (34, some (.if_icmp .ge 23)), (37, some (.aload_n 0)), (38, some (.getfield 38)), (41, some (.iload 4)), (43, some (.aload_n 0)), (44, some (.getfield 35)), (47, some (.iload 4)), (49, some (.iaload)), (50, some (.iastore)), (51, some (.iinc 4 1)), (54, some (.goto (-26))), (57, some (.aload_n 0)), (58, some (.aload_n 0)), (59, some (.getfield 149)), (62, some (.putfield 146)), (65, some (.aload_n 0)), (66, some (.iload_n 1)), (67, some (.iload_n 2)), (68, some (.invokevirtual 152)), (71, some (.return_)), (72, some (.aload_n 0)), (73, some (.getfield 35)), (76, some (.bipush 6)), (78, some (.invokestatic 131)), (81, some (.istore 4)), (83, some (.iload_n 3)), (84, some (.istore 5)), (86, some (.iconst 1)), (87, some (.istore 6)), (89, some (.iload 5)), (91, some (.aload_n 0)), (92, some (.getfield 149)), (95, some (.if_icmp .ge 224)), (98, some (.iconst 0)), (99, some (.istore 7)), (101, some (.iload 7)), (103, some (.iload_n 3)), (104, some (.if_icmp .ge 23)), (107, some (.aload_n 0)), (108, some (.getfield 38)), (111, some (.iload 7)), (113, some (.aload_n 0)), (114, some (.getfield 35)), (117, some (.iload 7)), (119, some (.iaload)), (120, some (.iastore)), (121, some (.iinc 7 1)), (124, some (.goto (-23))), (127, some (.iload 6)), (129, some (.ifCond .eq 7)), (132, some (.iload_n 3)), (133, some (.goto 8)), (136, some (.aload_n 0)), (137, some (.iload_n 3)), (138, some (.invokevirtual 156)), (141, some (.istore 7)), (143, some (.aload_n 0)), (144, some (.getfield 149)), (147, some (.iload 5)), (149, some (.isub)), (150, some (.istore 8)), (152, some (.iload 7)), (154, some (.iload 8)), (156, some (.iadd)), (157, some (.aload_n 0)), (158, some (.getfield 13)), (161, some (.iload_n 1)), (162, some (.iaload)), (163, some (.if_icmp .gt 7)), (166, some (.iconst 1)), (167, some (.goto 4)), (170, some (.iconst 0)), (171, some (.istore 9)), (173, some (.iload 9)), (175, some (.ifCond .eq 8)), (178, some (.iload 8)), (180, some (.goto 18)), (183, some (.aload_n 0)), (184, some (.getfield 13)), (187, some (.iload_n 1)), (188, some (.iaload)), (189, some (.iload 7)), (191, some (.isub)), (192, some (.bipush 8)), (194, some (.idiv)), (195, some (.bipush 8)), (197, some (.imul)), (198, some (.istore 10)), (200, some (.iconst 0)), (201, some (.istore 11)), (203, some (.iload 11)), (205, some (.iload 10)), (207, some (.if_icmp .ge 29)), (210, some (.aload_n 0)), (211, some (.getfield 38)), (214, some (.iload 7)), (216, some (.iload 11)), (218, some (.iadd)), (219, some (.aload_n 0)), (220, some (.getfield 35)), (223, some (.iload 5)), (225, some (.iload 11)), (227, some (.iadd)), (228, some (.iaload)), (229, some (.iastore)), (230, some (.iinc 11 1)), (233, some (.goto (-30))), (236, some (.aload_n 0)), (237, some (.iload 7)), (239, some (.iload 10)), (241, some (.iadd)), (242, some (.putfield 146)), (245, some (.iload 4)), (247, some (.sipush 8191)), (250, some (.iand)), (251, some (.iload 5)), (253, some (.iload_n 3)), (254, some (.isub)), (255, some (.bipush 8)), (257, some (.idiv)), (258, some (.iadd)), (259, some (.istore 11)), (261, some (.aload_n 0)), (262, some (.getfield 38)), (265, some (.bipush 6)), (267, some (.iload 4)), (269, some (.ldc 159)), (271, some (.iand)), (272, some (.iload 9)), (274, some (.ifCond .eq 12)), (277, some (.iload 4)), (279, some (.sipush 8192)), (282, some (.iand)), (283, some (.goto 6)), (286, some (.sipush 8192)), (289, some (.ior)), (290, some (.iload 11)), (292, some (.sipush 8191)), (295, some (.iand)), (296, some (.ior)), (297, some (.invokestatic 135)), (300, some (.aload_n 0)), (301, some (.iload_n 1)), (302, some (.iload_n 2)), (303, some (.invokevirtual 152)), (306, some (.iload 5)), (308, some (.iload 10)), (310, some (.iadd)), (311, some (.istore 5)), (313, some (.iconst 0)), (314, some (.istore 6)), (316, some (.goto (-227))), (319, some (.return_))]
-- 96: RouteHouseModel.laterHeader(I)I
def tb_c96 : List (Nat × Option Instr) := [(0, some (.bipush 20)), (2, some (.istore_n 2)), (3, some (.bipush 20)), (5, some (.istore_n 3)), (6, some (.iload_n 3)), (7, some (.iload_n 1)), (8, some (.if_icmp .ge 116)), (11, some (.aload_n 0)), (12, some (.getfield 38)), (15, some (.iload_n 3)), (16, some (.iaload)), (17, some (.ifCond .eq 107)), (20, some (.aload_n 0)), (21, some (.getfield 38)), (24, some (.iload_n 3)), (25, some (.iaload)), (26, some (.iconst 1)), (27, some (.if_icmp .ne 7)), (30, some (.iconst 1)), (31, some (.goto 11)), (34, some (.aload_n 0)), (35, some (.getfield 38)), (38, some (.iload_n 3)), (39, some (.iconst 1)), (40, some (.iadd)), (41, some (.iaload)), (42, some (.istore 4)), (44, some (.aload_n 0)), (45, some (.getfield 38)), (48, some (.iload_n 3)), (49, some (.iaload)), (50, some (.sipush 128)), (53, some (.if_icmp .lt 7)), (56, some (.iconst 1)), (57, some (.goto 4)), (60, some (.iconst 0)), (61, some (.istore 5)), (63, some (.iconst 0)), (64, some (.istore 6)), (66, some (.iload 6)), (68, some (.iload 4)), (70, some (.if_icmp .ge 32)), (73, some (.iload 5)), (75, some (.ifCond .eq 27)), (78, some (.aload_n 0)), (79, some (.getfield 38)), (82, some (.iload_n 2)), (83, some (.iload 6)), (85, some (.iadd)), (86, some (.aload_n 0)), (87, some (.getfield 38)), (90, some (.iload_n 3)), (91, some (.iload 6)), (93, some (.iadd)), (94, some (.iaload)), (95, some (.iastore)), (96, some (.iinc 6 1)), (99, some (.goto (-33))), (102, some (.iload_n 2)), (103, some (.iload 5)), (105, some (.ifCond .eq 8)), (108, some (.iload 4)), (110, some (.goto 4)), (113, some (.iconst 0)), (114, some (.iadd)), (115, some (.istore_n 2)), (116, some (.iload_n 3)), (117, some (.iload 4)), (119, some (.iadd)), (120, some (.istore_n 3)), (121, some (.goto (-115))), (124, some (.iload_n 2)), (125, some (.iconst 4)), (126, some (.irem)), (127, some (.ifCond .le 16)), (130, some (.aload_n 0)), (131, some (.getfield 38)), (134, some (.iload_n 2)), (135, some (.iconst 0)), (136, some (.iastore)), (137, some (.iinc 2 1)), (140, some (.goto (-16))), (143, some (.aload_n 0)), (144, some (.getfield 38)), (147, some (.iconst 0)), (148, some (.bipush 64)), (150, some (.iload_n 2)), (151, some (.iconst 4)), (152, some (.idiv)), (153, some (.ior)), (154, some (.iastore)), (155, some (.iload_n 2)), (156, some (.ireturn))]
-- 97: RouteHouseModel.begin(II)V
def tb_c97 : List (Nat × Option Instr) := [(0, some (.iconst 0)), (1, some (.istore_n 3)), (2, some (.iload_n 3)), (3, some (.bipush 20)), (5, some (.if_icmp .ge 16)), (8, some (.aload_n 0)), (9, some (.getfield 38)), (12, some (.iload_n 3)), (13, some (.iconst 0)), (14, some (.iastore)), (15, some (.iinc 3 1)), (18, some (.goto (-16))), (21, some (.aload_n 0)), (22, some (.getfield 38)), (25, some (.iconst 0)), (26, some (.bipush 69)), (28, some (.iastore)), (29, some (.aload_n 0)), (30, some (.getfield 38)), (33, some (.iconst 4)), (34, some (.aload_n 0)), (35, some (.getfield 160)), (38, some (.ldc 163)), (40, some (.irem)), (41, some (.invokestatic 135)), (44, some (.aload_n 0)), (45, some (.getfield 38)), (48, some (.bipush 8)), (50, some (.bipush 64)), (52, some (.iastore)), (53, some (.aload_n 0)), (54, some (.getfield 38)), (57, some (.bipush 9)), (59, some (.iconst 1)), (60, some (.iastore)), (61, some (.aload_n 0)), (62, some (.getfield 38)), (65, some (.bipush 12)), (67, some (.iload_n 1)), (68, some (.invokestatic 164)), (71, some (.aload_n 0)), (72, some (.getfield 38)), (75, some (.bipush 16)), (77, some (.iload_n 2)), (78, some (.invokestatic 164)), (81, some (.aload_n 0)), (82, some (.dup)), (83, some (.getfield 160)), (86, some (.iconst 1)), (87, some (.iadd)), (88, some (.putfield 160)), (91, some (.return_))]
-- 98: RouteHouseModel.error(IIII)V
def tb_c98 : List (Nat × Option Instr) := [(0, some (.iconst 4)), (1, some (.aload_n 0)), (2, some (.getfield 35)), (5, some (.iconst 0)), (6, some (.iaload)), (7, some (.bipush 15)), (9, some (.iand)), (10, some (.imul)), (11, some (.istore 5)), (13, some (.aload_n 0)), (14, some (.getfield 35)), (17, some (.bipush 9)), (19, some (.iaload)), (20, some (.iconst 1)), (21, some (.if_icmp .ne 38)), (24, some (.aload_n 0)), (25, some (.getfield 149)), (28, some (.iload 5)), (30, some (.if_icmp .eq 25)), (33, some (.aload_n 0)), (34, some (.getfield 35)), (37, some (.iload 5)), (39, some (.iaload)), (40, some (.bipush 8)), (42, some (.if_icmp .eq 17)), (45, some (.aload_n 0)), (46, some (.getfield 35)), (49, some (.iload 5)), (51, some (.iaload)), (52, some (.ifCond .eq 7)), (55, some (.iconst 1)), (56, some (.goto 4)), (59, some (.iconst 0)), (60, some (.istore 6)), (62, some (.aload_n 0)), (63, some (.getfield 16)), (66, some (.iload_n 1)), (67, some (.baload)), (68, some (.ifCond .ne 43)), (71, some (.iload 6)), (73, some (.ifCond .ne 38)), (76, some (.aload_n 0)), (77, some (.getfield 35)), (80, some (.bipush 6)), (82, some (.invokestatic 131)), (85, some (.sipush 8191)), (88, some (.iand)), (89, some (.ifCond .gt 22)), (92, some (.aload_n 0)), (93, some (.getfield 35)), (96, some (.bipush 12)), (98, some (.invokestatic 167)), (101, some (.ifCond .eq 10)), (104, some (.aload_n 0)), (105, some (.getfield 56)), (108, some (.ifCond .ne 4)), (111, some (.return_)), (112, some (.aload_n 0)), (113, some (.dup)), (114, some (.getfield 56)), (117, some (.iconst 1)), (118, some (.isub)), (119, some (.putfield 56)), (122, some (.aload_n 0)), (123, some (.aload_n 0)), (124, some (.getfield 7)), (127, some (.iload_n 1)), (128, some (.iaload)), (129, some (.aload_n 0)), (130, some (.getfield 35)), (133, some (.bipush 12)), (135, some (.invokestatic 167)), (138, some (.invokevirtual 170)), (141, some (.aload_n 0)), (142, some (.getfield 38)), (145, some (.bipush 20)), (147, some (.iload_n 2)), (148, some (.iastore)), (149, some (.aload_n 0)), (150, some (.getfield 38)), (153, some (.bipush 21)), (155, some (.iload_n 3)), (156, some (.iastore)), (157, some (.aload_n 0)), (158, some (.getfield 38)), (161, some (.bipush 22)), (163, some (.iconst 0)), (164, some (.invokestatic 135)), (167, some (.aload_n 0)), (168, some (.getfield 38)), (171, some (.bipush 24)), (173, some (.iload 4)), (175, some (.invokestatic 164)), (178, some (.aload_n 0)), (179, some (.getfield 149)), (182, some (.iload 5)), (184, some (.bipush 8)), (186, some (.iadd)), (187, some (.if_icmp .ge 10)), (190, some (.aload_n 0)), (191, some (.getfield 149)), (194, some (.goto 8)), (197, some (.iload 5)), (199, some (.bipush 8)), (201, some (.iadd)), (202, some (.istore 7)), (204, some (.iconst 0)), (205, some (.istore 8)), (207, some (.iload 8)), (209, some (.iload 7)), (211, some (.if_icmp .ge 26)), (214, some (.aload_n 0)), (215, some (.getfield 38)), (218, some (.bipush 28)), (220, some (.iload 8)), (222, some (.iadd)), (223, some (.aload_n 0)), (224, some (.getfield 35)), (227, some (.iload 8)), (229, some (.iaload)), (230, some (.iastore)), (231, some (.iinc 8 1)), (234, some (.goto (-27))), (237, some (.aload_n 0)), (238, some (.bipush 28)), (240, some (.iload 7)), (242, some (.iadd)), (243, some (.putfield 146)), (246, some (.aload_n 0)), (247, some (.getfield 38)), (250, some (.bipush 22)), (252, some (.aload_n 0)), (253, some (.getfield 38)), (256, some (.bipush 20)), (258, some (.aload_n 0)), (259, some (.getfield 146)), (262, some (.bipush 20)), (264, some (.isub)), (265, some (.iconst 2)), (266, some (.invokestatic 139)), (269, some (.invokestatic 135)), (272, some (.aload_n 0)), (273, some (.iload_n 1)), (274, some (.iconst 0)), (275, some (.invokevirtual 152)), (278, some (.return_))]
-- 99: RouteHouseModel.answer(I)V
def tb_c99 : List (Nat × Option Instr) := [(0, some (.aload_n 0)), (1, some (.getfield 16)), (4, some (.iload_n 1)), (5, some (.baload)), (6, some (.ifCond .eq 4)), (9, some (.return_)), (10, some (.iconst 4)), (11, some (.aload_n 0)), (12, some (.getfield 35)), (15, some (.iconst 0)), (16, some (.iaload)), (17, some (.bipush 15)), (19, some (.iand)), (20, some (.imul)), (21, some (.istore_n 2)), (22, some (.aload_n 0)), (23, some (.getfield 149)), (26, some (.iload_n 2)), (27, some (.isub)), (28, some (.istore_n 3)), (29, some (.aload_n 0)), (30, some (.aload_n 0)), (31, some (.getfield 35)), (34, some (.bipush 16)), (36, some (.invokestatic 167)), (39, some (.aload_n 0)), (40, some (.getfield 35)), (43, some (.bipush 12)), (45, some (.invokestatic 167)), (48, some (.invokevirtual 170)), (51, some (.iconst 0)), (52, some (.istore 4)), (54, some (.iload 4)), (56, some (.iload_n 3)), (57, some (.if_icmp .ge 28)), (60, some (.aload_n 0)), (61, some (.getfield 38)), (64, some (.bipush 20)), (66, some (.iload 4)), (68, some (.iadd)), (69, some (.aload_n 0)), (70, some (.getfield 35)), (73, some (.iload_n 2)), (74, some (.iload 4)), (76, some (.iadd)), (77, some (.iaload)), (78, some (.iastore)), (79, some (.iinc 4 1)), (82, some (.goto (-28))), (85, some (.aload_n 0)), (86, some (.getfield 38)), (89, some (.bipush 20)), (91, some (.iconst 0)), (92, some (.iastore)), (93, some (.aload_n 0)), (94, some (.getfield 38)), (97, some (.bipush 22)), (99, some (.aload_n 0)), (100, some (.getfield 38)), (103, some (.bipush 20)), (105, some (.iload_n 3)), (106, some (.iconst 2)), (107, some (.invokestatic 139)), (110, some (.invokestatic 135)), (113, some (.aload_n 0)), (114, some (.bipush 20)), (116, some (.iload_n 3)), (117, some (.iadd)), (118, some (.putfield 149)), (121, some (.iconst 0)), (122, some (.istore 4)), (124, some (.iload 4)), (126, some (.aload_n 0)), (127, some (.getfield 149)), (130, some (.if_icmp .ge 23)), (133, some (.aload_n 0)), (134, some (.getfield 35)), (137, some (.iload 4)), (139, some (.aload_n 0)), (140, some (.getfield 38)), (143, some (.iload 4)), (145, some (.iaload)), (146, some (.iastore)), (147, some (.iinc 4 1)), (150, some (.goto (-26))), (153, some (.aload_n 0)), (154, some (.iload_n 1)), (155, some (.iconst 0)), (156, some (.invokevirtual 173)), (159, some (.return_))]
-- 100: RouteHouseModel.moveEntry(II)V
def tb_c100 : List (Nat × Option Instr) := [(0, some (.aload_n 0)), (1, some (.getfield 63)), (4, some (.iload_n 1)), (5, some (.aload_n 0)), (6, some (.getfield 63)), (9, some (.iload_n 2)), (10, some (.iaload)), (11, some (.iastore)), (12, some (.aload_n 0)), (13, some (.getfield 66)), (16, some (.iload_n 1)), (17, some (.aload_n 0)), (18, some (.getfield 66)), (21, some (.iload_n 2)), (22, some (.iaload)), (23, some (.iastore)), (24, some (.aload_n 0)), (25, some (.getfield 69)), (28, some (.iload_n 1)), (29, some (.aload_n 0)), (30, some (.getfield 69)), (33, some (.iload_n 2)), (34, some (.iaload)), (35, some (.iastore)), (36, some (.aload_n 0)), (37, some (.getfield 72)), (40, some (.iload_n 1)), (41, some (.aload_n 0)), (42, some (.getfield 72)), (45, some (.iload_n 2)), (46, some (.iaload)), (47, some (.iastore)), (48, some (.aload_n 0)), (49, some (.getfield 75)), (52, some (.iload_n 1)), (53, some (.aload_n 0)), (54, some (.getfield 75)), (57, some (.iload_n 2)), (58, some (.iaload)), (59, some (.iastore)), (60, some (.aload_n 0)), (61, some (.getfield 78)), (64, some (.iload_n 1)), (65, some (.aload_n 0)), (66, some (.getfield 78)), (69, some (.iload_n 2)), (70, some (.iaload)), (71, some (.iastore)), (72, some (.aload_n 0)), (73, some (.getfield 81)), (76, some (.iload_n 1)), (77, some (.aload_n 0)), (78, some (.getfield 81)), (81, some (.iload_n 2)), (82, some (.iaload)), (83, some (.iastore)), (84, some (.aload_n 0)), (85, some (.getfield 90)), (88, some (.iload_n 1)), (89, some (.aload_n 0)), (90, some (.getfield 90)), (93, some (.iload_n 2)), (94, some (.iaload)), (95, some (.iastore)), (96, some (.aload_n 0)), (97, some (.getfield 93)), (100, some (.iload_n 1)), (101, some (.aload_n 0)), (102, some (.getfield 93)), (105, some (.iload_n 2)), (106, some (.iaload)), (107, some (.iastore)), (108, some (.iconst 0)), (109, some (.istore_n 3)), (110, some (.iload_n 3)), (111, some (.bipush 60)), (113, some (.if_icmp .ge 31)), (116, some (.aload_n 0)), (117, some (.getfield 84)), (120, some (.bipush 60)), (122, some (.iload_n 1)), (123, some (.imul)), (124, some (.iload_n 3)), (125, some (.iadd)), (126, some (.aload_n 0)), (127, some (.getfield 84)), (130, some (.bipush 60)), (132, some (.iload_n 2)), (133, some (.imul)), (134, some (.iload_n 3)), (135, some (.iadd)), (136, some (.iaload)), (137, some (.iastore)), (138, some (.iinc 3 1)), (141, some (.goto (-31))), (144, some (.iconst 0)), (145, some (.istore_n 3)), (146, some (.iload_n 3)), (147, some (.bipush 8)), (149, some (.if_icmp .ge 31)), (152, some (.aload_n 0)), (153, some (.getfield 87)), (156, some (.bipush 8)), (158, some (.iload_n 1)), (159, some (.imul)), (160, some (.iload_n 3)), (161, some (.iadd)), (162, some (.aload_n 0)), (163, some (.getfield 87)), (166, some (.bipush 8)), (168, some (.iload_n 2)), (169, some (.imul)), (170, some (.iload_n 3)), (171, some (.iadd)), (172, some (.iaload)), (173, some (.iastore)), (174, some (.iinc 3 1)), (177, some (.goto (-31))), (180, some (.iconst 0)), (181, some (.istore_n 3)), (182, some (.iload_n 3)), (183, some (.sipush 4000)), (186, some (.if_icmp .ge 57)), (189, some (.aload_n 0)), (190, some (.getfield 96)), (193, some (.sipush 4000)), (196, some (.iload_n 1)), (197, some (.imul)), (198, some (.iload_n 3)), (199, some (.iadd)), (200, some (.aload_n 0)), (201, some (.getfield 96)), (204, some (.sipush 4000)), (207, some (.iload_n 2)), (208, some (.imul)), (209, some (.iload_n 3)), (210, some (.iadd)), (211, some (.iaload)), (212, some (.iastore)), (213, some (.aload_n 0)), (214, some (.getfield 99)), (217, some (.sipush 4000)), (220, some (.iload_n 1)), (221, some (.imul)), (222, some (.iload_n 3)), (223, some (.iadd)), (224, some (.aload_n 0)), (225, some (.getfield 99)), (228, some (.sipush 4000)), (231, some (.iload_n 2)), (232, some (.imul)), (233, some (.iload_n 3)), (234, some (.iadd)), (235, some (.baload)), (236, some (.bastore)), (237, some (.iinc 3 1)), (240, some (.goto (-58))), (243, some (.return_))]
-- 101: RouteHouseModel.drop(I)V
def tb_c101 : List (Nat × Option Instr) := [(0, some (.iload_n 1)), (1, some (.istore_n 2)), (2, some (.iload_n 2)), (3, some (.iconst 1)), (4, some (.iadd)), (5, some (.aload_n 0)), (6, some (.getfield 176)), (9, some (.if_icmp .ge 17)), (12, some (.aload_n 0)), (13, some (.iload_n 2)), (14, some (.iload_n 2)), (15, some (.iconst 1)), (16, some (.iadd)), (17, some (.invokevirtual 179)), (20, some (.iinc 2 1)), (23, some (.goto (-21))), (26, some (.aload_n 0)), (27, some (.dup)), (28, some (.getfield 176)), (31, some (.iconst 1)), (32, some (.isub)), (33, some (.putfield 176)), (36, some (.return_))]
-- 102: RouteHouseModel.nameOf()I
def tb_c102 : List (Nat × Option Instr) := [(0, some (.aload_n 0)), (1, some (.getfield 35)), (4, some (.iconst 4)), (5, some (.invokestatic 131)), (8, some (.bipush 8)), (10, some (.ishl)), (11, some (.aload_n 0)), (12, some (.getfield 35)), (15, some (.bipush 9)), (17, some (.iaload)), (18, some (.ior)), (19, some (.ireturn))]
-- 103: RouteHouseModel.entry()I
def tb_c103 : List (Nat × Option Instr) := [(0, some (.iconst 0)), (1, some (.istore_n 1)), (2, some (.iload_n 1)), (3, some (.aload_n 0)), (4, some (.getfield 176)), (7, some (.if_icmp .ge 60)), (10, some (.aload_n 0)), (11, some (.getfield 63)), (14, some (.iload_n 1)), (15, some (.iaload)), (16, some (.aload_n 0)), (17, some (.getfield 35)), (20, some (.bipush 12)), (22, some (.invokestatic 167)), (25, some (.if_icmp .ne 36)), (28, some (.aload_n 0)), (29, some (.getfield 66)), (32, some (.iload_n 1)), (33, some (.iaload)), (34, some (.aload_n 0)), (35, some (.getfield 35)), (38, some (.bipush 16)), (40, some (.invokestatic 167)), (43, some (.if_icmp .ne 18)), (46, some (.aload_n 0)), (47, some (.getfield 69)), (50, some (.iload_n 1)), (51, some (.iaload)), (52, some (.aload_n 0)), (53, some (.invokevirtual 182)), (56, some (.if_icmp .ne 5)), (59, some (.iload_n 1)), (60, some (.ireturn)), (61, some (.iinc 1 1)), (64, some (.goto (-62))), (67, some (.iconst (-1))), (68, some (.ireturn))]
-- 104: RouteHouseModel.isWrong(IIIZ)Z
def tb_c104 : List (Nat × Option Instr) := [(0, some (.iload_n 2)), (1, some (.iload_n 3)), (2, some (.iadd)), (3, some (.istore 5)), (5, some (.iload_n 3)), (6, some (.ifCond .eq 23)), (9, some (.iload 4)), (11, some (.ifCond .eq 10)), (14, some (.iload_n 3)), (15, some (.bipush 8)), (17, some (.irem)), (18, some (.ifCond .gt 11)), (21, some (.iload 5)), (23, some (.sipush 4000)), (26, some (.if_icmp .le 5)), (29, some (.iconst 1)), (30, some (.ireturn)), (31, some (.iload_n 1)), (32, some (.iconst (-1))), (33, some (.if_icmp .ne 5)), (36, some (.iconst 0)), (37, some (.ireturn)), (38, some (.aload_n 0)), (39, some (.getfield 75)), (42, some (.iload_n 1)), (43, some (.iaload)), (44, some (.ifCond .lt 36)), (47, some (.iload 5)), (49, some (.aload_n 0)), (50, some (.getfield 75)), (53, some (.iload_n 1)), (54, some (.iaload)), (55, some (.if_icmp .gt 19)), (58, some (.iload 4)), (60, some (.ifCond .ne 18)), (63, some (.iload 5)), (65, some (.aload_n 0)), (66, some (.getfield 75)), (69, some (.iload_n 1)), (70, some (.iaload)), (71, some (.if_icmp .eq 7)), (74, some (.iconst 1)), (75, some (.goto 4)), (78, some (.iconst 0)), (79, some (.ireturn)), (80, some (.iload 4)), (82, some (.ifCond .ne 18)), (85, some (.iload 5)), (87, some (.aload_n 0)), (88, some (.getfield 78)), (91, some (.iload_n 1)), (92, some (.iaload)), (93, some (.if_icmp .ge 7)), (96, some (.iconst 1)), (97, some (.goto 4)), (100, some (.iconst 0)), (101, some (.ireturn))]
-- 105: RouteHouseModel.joins(I)Z
def tb_c105 : List (Nat × Option Instr) := [(0, some (.iconst 4)), (1, some (.aload_n 0)), (2, some (.getfield 35)), (5, some (.iconst 0)), (6, some (.iaload)), (7, some (.bipush 15)), (9, some (.iand)), (10, some (.imul)), (11, some (.istore_n 2)), (12, some (.bipush 8)), (14, some (.aload_n 0)), (15, some (.getfield 35)), (18, some (.bipush 6)), (20, some (.invokestatic 131)), (23, some (.sipush 8191)), (26, some (.iand)), (27, some (.imul)), (28, some (.istore_n 3)), (29, some (.aload_n 0)), (30, some (.getfield 35)), (33, some (.bipush 6)), (35, some (.iaload)), (36, some (.bipush 32)), (38, some (.iand)), (39, some (.ifCond .le 7)), (42, some (.iconst 1)), (43, some (.goto 4)), (46, some (.iconst 0)), (47, some (.istore 4)), (49, some (.aload_n 0)), (50, some (.getfield 149)), (53, some (.iload_n 2)), (54, some (.isub)), (55, some (.istore 5)), (57, some (.aload_n 0)), (58, some (.invokevirtual 186)), (61, some (.istore 6)), (63, some (.aload_n 0)), (64, some (.iload 6)), (66, some (.iload_n 3)), (67, some (.iload 5)), (69, some (.iload 4)), (71, some (.invokevirtual 189)), (74, some (.ifCond .eq 17)), (77, some (.iload 6)), (79, some (.iconst (-1))), (80, some (.if_icmp .eq 9)), (83, some (.aload_n 0)), (84, some (.iload 6)), (86, some (.invokevirtual 193)), (89, some (.iconst 0)), (90, some (.ireturn)), (91, some (.iload 6)), (93, some (.iconst (-1))), (94, some (.if_icmp .ne 142)), (97, some (.aload_n 0)), (98, some (.getfield 176)), (101, some (.iconst 4)), (102, some (.if_icmp .ne 8)), (105, some (.aload_n 0)), (106, some (.iconst 0)), (107, some (.invokevirtual 193)), (110, some (.aload_n 0)), (111, some (.getfield 176)), (114, some (.istore 6)), (116, some (.aload_n 0)), (117, some (.dup)), (118, some (.getfield 176)), (121, some (.iconst 1)), (122, some (.iadd)), (123, some (.putfield 176)), (126, some (.aload_n 0)), (127, some (.getfield 63)), (130, some (.iload 6)), (132, some (.aload_n 0)), (133, some (.getfield 35)), (136, some (.bipush 12)), (138, some (.invokestatic 167)), (141, some (.iastore)), (142, some (.aload_n 0)), (143, some (.getfield 66)), (146, some (.iload 6)), (148, some (.aload_n 0)), (149, some (.getfield 35)), (152, some (.bipush 16)), (154, some (.invokestatic 167)), (157, some (.iastore)), (158, some (.aload_n 0)), (159, some (.getfield 69)), (162, some (.iload 6)), (164, some (.aload_n 0)), (165, some (.invokevirtual 182)), (168, some (.iastore)), (169, some (.aload_n 0)), (170, some (.getfield 72)), (173, some (.iload 6)), (175, some (.aload_n 0)), (176, some (.getfield 197)), (179, some (.iastore)), (180, some (.aload_n 0)), (181, some (.getfield 75)), (184, some (.iload 6)), (186, some (.iconst (-1))), (187, some (.iastore)), (188, some (.aload_n 0)), (189, some (.getfield 78)), (192, some (.iload 6)), (194, some (.iconst 0)), (195, some (.iastore)), (196, some (.aload_n 0)), (197, some (.getfield 81)), (200, some (.iload 6)), (202, some (.iconst 0)), (203, some (.iastore)), (204, some (.iconst 0)), (205, some (.istore 7)), (207, some (.iload 7)), (209, some (.sipush 4000)), (212, some (.if_icmp .ge 24)), (215, some (.aload_n 0)), (216, some (.getfield 99)), (219, some (.sipush 4000)), (222, some (.iload 6)), (224, some (.imul)), (225, some (.iload 7)), (227, some (.iadd)), (228, some (.iconst 0)), (229, some (.bastore)), (230, some (.iinc 7 1)), (233, some (.goto (-26))), (236, some (.iconst 0)), (237, some (.istore 7)), (239, some (.iload 7)), (241, some (.iload 5)), (243, some (.if_icmp .ge 51)), (246, some (.aload_n 0)), (247, some (.getfield 96)), (250, some (.sipush 4000)), (253, some (.iload 6)), (255, some (.imul)), (256, some (.iload_n 3)), (257, some (.iadd)), (258, some (.iload 7)), (260, some (.iadd)), (261, some (.aload_n 0)), (262, some (.getfield 35)), (265, some (.iload_n 2)), (266, some (.iload 7)), (268, some (.iadd)), (269, some (.iaload)), (270, some (.iastore)), (271, some (.aload_n 0)), (272, some (.getfield 99)), (275, some (.sipush 4000)), (278, some (.iload 6)), (280, some (.imul)), (281, some (.iload_n 3)), (282, some (.iadd)), (283, some (.iload 7)), (285, some (.iadd)), (286, some (.iconst 1)), (287, some (.bastore)), (288, some (.iinc 7 1)), (291, some (.goto (-52))), (294, some (.iload_n 3)), (295, some (.ifCond .ne 118)), (298, some (.aload_n 0)), (299, some (.getfield 81)), (302, some (.iload 6)), (304, some (.iload_n 2)), (305, some (.iastore)), (306, some (.iconst 0)), (307, some (.istore 7)), (309, some (.iload 7)), (311, some (.iload_n 2)), (312, some (.if_icmp .ge 29)), (315, some (.aload_n 0)), (316, some (.getfield 84)), (319, some (.bipush 60)), (321, some (.iload 6)), (323, some (.imul)), (324, some (.iload 7)), (326, some (.iadd)), (327, some (.aload_n 0)), (328, some (.getfield 35)), (331, some (.iload 7)), (333, some (.iaload)), (334, some (.iastore)), (335, some (.iinc 7 1)), (338, some (.goto (-29))), (341, some (.aload_n 0)), (342, some (.getfield 90)), (345, some (.iload 6)), (347, some (.iload 5)), (349, some (.bipush 8)), (351, some (.if_icmp .ge 8)), (354, some (.iload 5)), (356, some (.goto 5)), (359, some (.bipush 8)), (361, some (.iastore)), (362, some (.iconst 0)), (363, some (.istore 7)), (365, some (.iload 7)), (367, some (.aload_n 0)), (368, some (.getfield 90)), (371, some (.iload 6)), (373, some (.iaload)), (374, some (.if_icmp .ge 31)), (377, some (.aload_n 0)), (378, some (.getfield 87)), (381, some (.bipush 8)), (383, some (.iload 6)), (385, some (.imul)), (386, some (.iload 7)), (388, some (.iadd)), (389, some (.aload_n 0)), (390, some (.getfield 35)), (393, some (.iload_n 2)), (394, some (.iload 7)), (396, some (.iadd)), (397, some (.iaload)), (398, some (.iastore)), (399, some (.iinc 7 1)), (402, some (.goto (-37))), (405, some (.aload_n 0)), (406, some (.getfield 93)), (409, some (.iload 6)), (411, some (.iload_n 1)), (412, some (.iastore)), (413, some (.aload_n 0)), (414, some (.getfield 78)), (417, some (.iload 6)), (419, some (.iload_n 3)), (420, some (.iload 5)), (422, some (.iadd)), (423, some (.aload_n 0)), (424, some (.getfield 78)), (427, some (.iload 6)), (429, some (.iaload)), (430, some (.if_icmp .le 10)), (433, some (.iload_n 3)), (434, some (.iload 5)), (436, some (.iadd)), (437, some (.goto 10)), (440, some (.aload_n 0)), (441, some (.getfield 78)), (444, some (.iload 6)), (446, some (.iaload)), (447, some (.iastore)), (448, some (.iload 4)), (450, some (.ifCond .ne 14)), (453, some (.aload_n 0)), (454, some (.getfield 75)), (457, some (.iload 6)), (459, some (.iload_n 3)), (460, some (.iload 5)), (462, some (.iadd)), (463, some (.iastore)), (464, some (.aload_n 0)), (465, some (.getfield 75)), (468, some (.iload 6)), (470, some (.iaload)), (471, some (.ifCond .ge 5)), (474, some (.iconst 0)), (475, some (.ireturn)), (476, some (.iconst 0)), (477, some (.istore 7)), (479, some (.iload 7)), (481, some (.aload_n 0)), (482, some (.getfield 75)), (485, some (.iload 6)), (487, some (.iaload)), (488, some (.if_icmp .ge 28)), (491, some (.aload_n 0)), (492, some (.getfield 99)), (495, some (.sipush 4000)), (498, some (.iload 6)), (500, some (.imul)), (501, some (.iload 7)), (503, some (.iadd)), (504, some (.baload)), (505, some (.ifCond .ne 5)), (508, some (.iconst 0)), (509, some (.ireturn)), (510, some (.iinc 7 1)), (513, some (.goto (-34))), (516, some (.aload_n 0)), (517, some (.getfield 81)), (520, some (.iload 6)), (522, some (.iaload)), (523, some (.istore 7)), (525, some (.iconst 0)), (526, some (.istore 8)), (528, some (.iload 8)), (530, some (.iload 7)), (532, some (.if_icmp .ge 29)), (535, some (.aload_n 0)), (536, some (.getfield 35)), (539, some (.iload 8)), (541, some (.aload_n 0)), (542, some (.getfield 84)), (545, some (.bipush 60)), (547, some (.iload 6)), (549, some (.imul)), (550, some (.iload 8)), (552, some (.iadd)), (553, some (.iaload)), (554, some (.iastore)), (555, some (.iinc 8 1)), (558, some (.goto (-30))), (561, some (.iconst 0)), (562, some (.istore 8)), (564, some (.iload 8)), (566, some (.aload_n 0)), (567, some (.getfield 75)), (570, some (.iload 6)), (572, some (.iaload)), (573, some (.if_icmp .ge 33)), (576, some (.aload_n 0)), (577, some (.getfield 35)), (580, some (.iload 7)), (582, some (.iload 8)), (584, some (.iadd)), (585, some (.aload_n 0)), (586, some (.getfield 96)), (589, some (.sipush 4000)), (592, some (.iload 6)), (594, some (.imul)), (595, some (.iload 8)), (597, some (.iadd)), (598, some (.iaload)), (599, some (.iastore)), (600, some (.iinc 8 1)), (603, some (.goto (-39))), (606, some (.aload_n 0)), (607, some (.iload 7)), (609, some (.aload_n 0)), (610, some (.getfield 75)), (613, some (.iload 6)), (615, some (.iaload)), (616, some (.iadd)), (617, some (.putfield 149)), (620, some (.aload_n 0)), (621, some (.getfield 35)), (624, some (.bipush 6)), (626, some (.aload_n 0)), (627, some (.getfield 35)), (630, some (.bipush 6)), (632, some (.iaload)), (633, some (.bipush (-33))), (635, some (.iand)), (636, some (.iastore)), (637, some (.aload_n 0)), (638, some (.getfield 35)), (641, some (.iconst 2)), (642, some (.aload_n 0)), (643, some (.getfield 149)), (646, some (.invokestatic 135)), (649, some (.aload_n 0)), (650, some (.getfield 35)), (653, some (.bipush 10)), (655, some (.aload_n 0)), (656, some (.getfield 35)), (659, some (.iconst 0)), (660, some (.iload 7)), (662, some (.bipush 10)), (664, some (.invokestatic 139)), (667, some (.invokestatic 135)), (670, some (.aload_n 0)), (671, some (.iload 6)), (673, some (.invokevirtual 193)), (676, some (.iconst 1)), (677, some (.ireturn))]
-- 106: RouteHouseModel.isOwn(I)Z
def tb_c106 : List (Nat × Option Instr) := [(0, some (.iconst 0)), (1, some (.istore_n 2)), (2, some (.iload_n 2)), (3, some (.bipush 8)), (5, some (.if_icmp .ge 25)), (8, some (.iload_n 1)), (9, some (.ifCond .eq 15)), (12, some (.aload_n 0)), (13, some (.getfield 7)), (16, some (.iload_n 2)), (17, some (.iaload)), (18, some (.iload_n 1)), (19, some (.if_icmp .ne 5)), (22, some (.iconst 1)), (23, some (.ireturn)), (24, some (.iinc 2 1)), (27, some (.goto (-25))), (30, some (.iconst 0)), (31, some (.ireturn))]
-- 107: RouteHouseModel.wrongOption(I)I
def tb_c107 : List (Nat × Option Instr) := [(0, some (.bipush 20)), (2, some (.istore_n 2)), (3, some (.iload_n 2)), (4, some (.iload_n 1)), (5, some (.if_icmp .ge 81)), (8, some (.aload_n 0)), (9, some (.getfield 35)), (12, some (.iload_n 2)), (13, some (.iaload)), (14, some (.ifCond .eq 72)), (17, some (.aload_n 0)), (18, some (.getfield 35)), (21, some (.iload_n 2)), (22, some (.iaload)), (23, some (.iconst 1)), (24, some (.if_icmp .ne 7)), (27, some (.iconst 1)), (28, some (.goto 22)), (31, some (.iload_n 2)), (32, some (.iconst 1)), (33, some (.iadd)), (34, some (.iload_n 1)), (35, some (.if_icmp .ge 14)), (38, some (.aload_n 0)), (39, some (.getfield 35)), (42, some (.iload_n 2)), (43, some (.iconst 1)), (44, some (.iadd)), (45, some (.iaload)), (46, some (.goto 4)), (49, some (.iconst 0)), (50, some (.istore_n 3)), (51, some (.iload_n 3)), (52, some (.ifCond .eq 25)), (55, some (.iload_n 3)), (56, some (.iconst 1)), (57, some (.if_icmp .ne 13)), (60, some (.aload_n 0)), (61, some (.getfield 35)), (64, some (.iload_n 2)), (65, some (.iaload)), (66, some (.iconst 1)), (67, some (.if_icmp .ne 10)), (70, some (.iload_n 2)), (71, some (.iload_n 3)), (72, some (.iadd)), (73, some (.iload_n 1)), (74, some (.if_icmp .le 5)), (77, some (.iload_n 2)), (78, some (.ireturn)), (79, some (.iload_n 2)), (80, some (.iload_n 3)), (81, some (.iadd)), (82, some (.istore_n 2)), (83, some (.goto (-80))), (86, some (.iconst (-1))), (87, some (.ireturn))]
-- 108: RouteHouseModel.isStrange(I)Z
def tb_c108 : List (Nat × Option Instr) := [(0, some (.iload_n 0)), (1, some (.bipush 127)), (3, some (.if_icmp .eq 10)), (6, some (.iload_n 0)), (7, some (.sipush 223)), (10, some (.if_icmp .le 7)), (13, some (.iconst 1)), (14, some (.goto 4)), (17, some (.iconst 0)), (18, some (.ireturn))]
-- 109: RouteHouseModel.own(I)I
def tb_c109 : List (Nat × Option Instr) := [(0, some (.iconst 4)), (1, some (.aload_n 0)), (2, some (.getfield 35)), (5, some (.iconst 0)), (6, some (.iaload)), (7, some (.bipush 15)), (9, some (.iand)), (10, some (.imul)), (11, some (.istore_n 2)), (12, some (.aload_n 0)), (13, some (.getfield 149)), (16, some (.iload_n 2)), (17, some (.isub)), (18, some (.istore_n 3)), (19, some (.aload_n 0)), (20, some (.getfield 35)), (23, some (.bipush 9)), (25, some (.iaload)), (26, some (.iconst 1)), (27, some (.if_icmp .ne 73)), (30, some (.iload_n 3)), (31, some (.bipush 8)), (33, some (.if_icmp .lt 41)), (36, some (.aload_n 0)), (37, some (.getfield 35)), (40, some (.iload_n 2)), (41, some (.iaload)), (42, some (.bipush 8)), (44, some (.if_icmp .ne 30)), (47, some (.aload_n 0)), (48, some (.getfield 35)), (51, some (.iload_n 2)), (52, some (.iload_n 3)), (53, some (.iconst 2)), (54, some (.invokestatic 139)), (57, some (.aload_n 0)), (58, some (.getfield 35)), (61, some (.iload_n 2)), (62, some (.iconst 2)), (63, some (.iadd)), (64, some (.invokestatic 131)), (67, some (.if_icmp .ne 7)), (70, some (.iconst 1)), (71, some (.goto 4)), (74, some (.iconst 0)), (75, some (.istore 4)), (77, some (.iload 4)), (79, some (.ifCond .eq 8)), (82, some (.aload_n 0)), (83, some (.iload_n 1)), (84, some (.invokevirtual 200)), (87, some (.iload 4)), (89, some (.ifCond .eq 8)), (92, some (.bipush 11)), (94, some (.goto 5)), (97, some (.bipush 12)), (99, some (.ireturn)), (100, some (.aload_n 0)), (101, some (.getfield 35)), (104, some (.bipush 9)), (106, some (.iaload)), (107, some (.bipush 17)), (109, some (.if_icmp .eq 14)), (112, some (.aload_n 0)), (113, some (.iload_n 1)), (114, some (.iconst 3)), (115, some (.iconst 2)), (116, some (.iconst 0)), (117, some (.invokevirtual 203)), (120, some (.bipush 14)), (122, some (.ireturn)), (123, some (.aload_n 0)), (124, some (.dup)), (125, some (.getfield 207)), (128, some (.iconst 1)), (129, some (.iadd)), (130, some (.putfield 207)), (133, some (.aload_n 0)), (134, some (.aload_n 0)), (135, some (.getfield 35)), (138, some (.bipush 12)), (140, some (.invokestatic 167)), (143, some (.putfield 210)), (146, some (.aload_n 0)), (147, some (.aload_n 0)), (148, some (.getfield 35)), (151, some (.bipush 16)), (153, some (.invokestatic 167)), (156, some (.putfield 213)), (159, some (.aload_n 0)), (160, some (.iload_n 3)), (161, some (.putfield 216)), (164, some (.iconst 0)), (165, some (.istore 4)), (167, some (.iload 4)), (169, some (.iload_n 3)), (170, some (.if_icmp .ge 25)), (173, some (.aload_n 0)), (174, some (.getfield 60)), (177, some (.iload 4)), (179, some (.aload_n 0)), (180, some (.getfield 35)), (183, some (.iload_n 2)), (184, some (.iload 4)), (186, some (.iadd)), (187, some (.iaload)), (188, some (.iastore)), (189, some (.iinc 4 1)), (192, some (.goto (-25))), (195, some (.bipush 13)), (197, some (.ireturn))]
-- 110: RouteHouseModel.pass0(I)I
def tb_c110 : List (Nat × Option Instr) := [(0, some (.aload_n 0)), (1, some (.getfield 35)), (4, some (.bipush 16)), (6, some (.iaload)), (7, some (.ifCond .eq 16)), (10, some (.aload_n 0)), (11, some (.getfield 35)), (14, some (.bipush 16)), (16, some (.iaload)), (17, some (.invokestatic 219)), (20, some (.ifCond .eq 6)), (23, some (.bipush 20)), (25, some (.ireturn)), (26, some (.aload_n 0)), (27, some (.getfield 35)), (30, some (.bipush 8)), (32, some (.iaload)), (33, some (.iconst 2)), (34, some (.if_icmp .ge 15)), (37, some (.aload_n 0)), (38, some (.iload_n 1)), (39, some (.bipush 11)), (41, some (.iconst 0)), (42, some (.iconst 0)), (43, some (.invokevirtual 203)), (46, some (.bipush 21)), (48, some (.ireturn)), (49, some (.aload_n 0)), (50, some (.aload_n 0)), (51, some (.getfield 35)), (54, some (.bipush 16)), (56, some (.invokestatic 167)), (59, some (.invokevirtual 123)), (62, some (.istore_n 2)), (63, some (.iload_n 2)), (64, some (.iconst (-1))), (65, some (.if_icmp .ne 14)), (68, some (.aload_n 0)), (69, some (.iload_n 1)), (70, some (.iconst 3)), (71, some (.iconst 0)), (72, some (.iconst 0)), (73, some (.invokevirtual 203)), (76, some (.bipush 22)), (78, some (.ireturn)), (79, some (.aload_n 0)), (80, some (.getfield 16)), (83, some (.aload_n 0)), (84, some (.getfield 26)), (87, some (.iload_n 2)), (88, some (.iaload)), (89, some (.baload)), (90, some (.ifCond .eq 14)), (93, some (.aload_n 0)), (94, some (.iload_n 1)), (95, some (.iconst 3)), (96, some (.iconst 1)), (97, some (.iconst 0)), (98, some (.invokevirtual 203)), (101, some (.bipush 23)), (103, some (.ireturn)), (104, some (.aload_n 0)), (105, some (.getfield 149)), (108, some (.aload_n 0)), (109, some (.getfield 13)), (112, some (.aload_n 0)), (113, some (.getfield 26)), (116, some (.iload_n 2)), (117, some (.iaload)), (118, some (.iaload)), (119, some (.if_icmp .le 7)), (122, some (.iconst 1)), (123, some (.goto 4)), (126, some (.iconst 0)), (127, some (.istore_n 3)), (128, some (.iload_n 3)), (129, some (.ifCond .eq 37)), (132, some (.aload_n 0)), (133, some (.getfield 35)), (136, some (.bipush 6)), (138, some (.iaload)), (139, some (.bipush 64)), (141, some (.iand)), (142, some (.ifCond .le 24)), (145, some (.aload_n 0)), (146, some (.iload_n 1)), (147, some (.iconst 3)), (148, some (.iconst 4)), (149, some (.aload_n 0)), (150, some (.getfield 13)), (153, some (.aload_n 0)), (154, some (.getfield 26)), (157, some (.iload_n 2)), (158, some (.iaload)), (159, some (.iaload)), (160, some (.invokevirtual 203)), (163, some (.bipush 24)), (165, some (.ireturn)), (166, some (.aload_n 0)), (167, some (.getfield 35)), (170, some (.bipush 8)), (172, some (.dup2)), (173, some (.iaload)), (174, some (.iconst 1)), (175, some (.isub)), (176, some (.iastore)), (177, some (.aload_n 0)), (178, some (.aload_n 0)), (179, some (.getfield 26)), (182, some (.iload_n 2)), (183, some (.iaload)), (184, some (.aload_n 0)), (185, some (.getfield 29)), (188, some (.iload_n 2)), (189, some (.iaload)), (190, some (.ifCond .ne 15)), (193, some (.aload_n 0)), (194, some (.getfield 35)), (197, some (.bipush 16)), (199, some (.invokestatic 167)), (202, some (.goto 9)), (205, some (.aload_n 0)), (206, some (.getfield 29)), (209, some (.iload_n 2)), (210, some (.iaload)), (211, some (.invokevirtual 173)), (214, some (.iload_n 3)), (215, some (.ifCond .eq 8)), (218, some (.bipush 26)), (220, some (.goto 5)), (223, some (.bipush 25)), (225, some (.ireturn))]
-- 111: RouteHouseModel.judge(II)I
def tb_c111 : List (Nat × Option Instr) := [(0, some (.iload_n 2)), (1, some (.bipush 20)), (3, some (.if_icmp .ge 5)), (6, some (.iconst 1)), (7, some (.ireturn)), (8, some (.aload_n 0)), (9, some (.getfield 35)), (12, some (.iconst 0)), (13, some (.iaload)), (14, some (.iconst 4)), (15, some (.ishr)), (16, some (.iconst 4)), (17, some (.if_icmp .eq 5)), (20, some (.iconst 2)), (21, some (.ireturn)), (22, some (.iconst 4)), (23, some (.aload_n 0)), (24, some (.getfield 35)), (27, some (.iconst 0)), (28, some (.iaload)), (29, some (.bipush 15)), (31, some (.iand)), (32, some (.imul)), (33, some (.istore_n 3)), (34, some (.iload_n 3)), (35, some (.bipush 20)), (37, some (.if_icmp .lt 8)), (40, some (.iload_n 3)), (41, some (.iload_n 2)), (42, some (.if_icmp .le 5)), (45, some (.iconst 3)), (46, some (.ireturn)), (47, some (.aload_n 0)), (48, some (.aload_n 0)), (49, some (.getfield 35)), (52, some (.iconst 2)), (53, some (.invokestatic 131)), (56, some (.putfield 149)), (59, some (.aload_n 0)), (60, some (.getfield 149)), (63, some (.iload_n 3)), (64, some (.if_icmp .lt 11)), (67, some (.aload_n 0)), (68, some (.getfield 149)), (71, some (.iload_n 2)), (72, some (.if_icmp .le 5)), (75, some (.iconst 4)), (76, some (.ireturn)), (77, some (.aload_n 0)), (78, some (.getfield 35)), (81, some (.iconst 0)), (82, some (.iload_n 3)), (83, some (.bipush 10)), (85, some (.invokestatic 139)), (88, some (.aload_n 0)), (89, some (.getfield 35)), (92, some (.bipush 10)), (94, some (.invokestatic 131)), (97, some (.if_icmp .eq 5)), (100, some (.iconst 5)), (101, some (.ireturn)), (102, some (.bipush 8)), (104, some (.aload_n 0)), (105, some (.getfield 35)), (108, some (.bipush 6)), (110, some (.invokestatic 131)), (113, some (.sipush 8191)), (116, some (.iand)), (117, some (.imul)), (118, some (.istore 4)), (120, some (.aload_n 0)), (121, some (.getfield 35)), (124, some (.bipush 12)), (126, some (.iaload)), (127, some (.invokestatic 219)), (130, some (.ifCond .ne 17)), (133, some (.iload 4)), (135, some (.aload_n 0)), (136, some (.getfield 149)), (139, some (.iadd)), (140, some (.iload_n 3)), (141, some (.isub)), (142, some (.ldc 130)), (144, some (.if_icmp .le 6)), (147, some (.bipush 6)), (149, some (.ireturn)), (150, some (.aload_n 0)), (151, some (.iload_n 3)), (152, some (.invokevirtual 222)), (155, some (.istore 5)), (157, some (.iload 5)), (159, some (.iconst (-1))), (160, some (.if_icmp .eq 19)), (163, some (.aload_n 0)), (164, some (.iload_n 1)), (165, some (.bipush 12)), (167, some (.iconst 0)), (168, some (.iload 5)), (170, some (.bipush 24)), (172, some (.ishl)), (173, some (.invokevirtual 203)), (176, some (.bipush 7)), (178, some (.ireturn)), (179, some (.aload_n 0)), (180, some (.aload_n 0)), (181, some (.getfield 35)), (184, some (.bipush 16)), (186, some (.invokestatic 167)), (189, some (.invokevirtual 225)), (192, some (.ifCond .ne 9)), (195, some (.aload_n 0)), (196, some (.iload_n 1)), (197, some (.invokevirtual 228)), (200, some (.ireturn)), (201, some (.iload 4)), (203, some (.ifCond .gt 16)), (206, some (.aload_n 0)), (207, some (.getfield 35)), (210, some (.bipush 6)), (212, some (.iaload)), (213, some (.bipush 32)), (215, some (.iand)), (216, some (.ifCond .le 7)), (219, some (.iconst 1)), (220, some (.goto 4)), (223, some (.iconst 0)), (224, some (.istore 6)), (226, some (.iload 6)), (228, some (.ifCond .eq 16)), (231, some (.aload_n 0)), (232, some (.iload_n 1)), (233, some (.invokevirtual 231)), (236, some (.ifCond .ne 8)), (239, some (.bipush 10)), (241, some (.goto 8)), (244, some (.aload_n 0)), (245, some (.iload_n 1)), (246, some (.invokevirtual 234)), (249, some (.ireturn))]
-- 112: RouteHouseModel.receive(I)I
def tb_c112 : List (Nat × Option Instr) := [(0, some (.aload_n 0)), (1, some (.iload_n 1)), (2, some (.invokestatic 105)), (5, some (.ifCond .ne 7)), (8, some (.iconst 1)), (9, some (.goto 4)), (12, some (.iconst 0)), (13, some (.iconst 1)), (14, some (.invokevirtual 109)), (17, some (.ifCond .eq 5)), (20, some (.iconst 0)), (21, some (.ireturn)), (22, some (.aload_n 0)), (23, some (.getfield 127)), (26, some (.istore_n 2)), (27, some (.iconst 0)), (28, some (.istore_n 3)), (29, some (.iload_n 3)), (30, some (.iload_n 2)), (31, some (.if_icmp .ge 21)), (34, some (.aload_n 0)), (35, some (.getfield 35)), (38, some (.iload_n 3)), (39, some (.aload_n 0)), (40, some (.getfield 32)), (43, some (.iload_n 3)), (44, some (.iaload)), (45, some (.iastore)), (46, some (.iinc 3 1)), (49, some (.goto (-20))), (52, some (.aload_n 0)), (53, some (.iconst 0)), (54, some (.putfield 127)), (57, some (.aload_n 0)), (58, some (.iconst 0)), (59, some (.putfield 143)), (62, some (.aload_n 0)), (63, some (.iload_n 1)), (64, some (.iload_n 2)), (65, some (.invokevirtual 237)), (68, some (.ireturn))]
-- 113: RouteHouseModel.expire()V
def tb_c113 : List (Nat × Option Instr) := [(0, some (.aload_n 0)), (1, some (.getfield 81)), (4, some (.iconst 0)), (5, some (.iaload)), (6, some (.istore_n 1)), (7, some (.iload_n 1)), (8, some (.ifCond .le 86)), (11, some (.iconst 0)), (12, some (.istore_n 2)), (13, some (.iload_n 2)), (14, some (.iload_n 1)), (15, some (.if_icmp .ge 21)), (18, some (.aload_n 0)), (19, some (.getfield 35)), (22, some (.iload_n 2)), (23, some (.aload_n 0)), (24, some (.getfield 84)), (27, some (.iload_n 2)), (28, some (.iaload)), (29, some (.iastore)), (30, some (.iinc 2 1)), (33, some (.goto (-20))), (36, some (.iconst 0)), (37, some (.istore_n 2)), (38, some (.iload_n 2)), (39, some (.aload_n 0)), (40, some (.getfield 90)), (43, some (.iconst 0)), (44, some (.iaload)), (45, some (.if_icmp .ge 23)), (48, some (.aload_n 0)), (49, some (.getfield 35)), (52, some (.iload_n 1)), (53, some (.iload_n 2)), (54, some (.iadd)), (55, some (.aload_n 0)), (56, some (.getfield 87)), (59, some (.iload_n 2)), (60, some (.iaload)), (61, some (.iastore)), (62, some (.iinc 2 1)), (65, some (.goto (-27))), (68, some (.aload_n 0)), (69, some (.iload_n 1)), (70, some (.aload_n 0)), (71, some (.getfield 90)), (74, some (.iconst 0)), (75, some (.iaload)), (76, some (.iadd)), (77, some (.putfield 149)), (80, some (.aload_n 0)), (81, some (.aload_n 0)), (82, some (.getfield 93)), (85, some (.iconst 0)), (86, some (.iaload)), (87, some (.bipush 11)), (89, some (.iconst 1)), (90, some (.iconst 0)), (91, some (.invokevirtual 203)), (94, some (.aload_n 0)), (95, some (.iconst 0)), (96, some (.invokevirtual 193)), (99, some (.return_))]
-- 114: RouteHouseModel.pass(I)I
def tb_c114 : List (Nat × Option Instr) := [(0, some (.aload_n 0)), (1, some (.iload_n 1)), (2, some (.ifCond .lt 9)), (5, some (.iload_n 1)), (6, some (.bipush 100)), (8, some (.if_icmp .le 7)), (11, some (.iconst 1)), (12, some (.goto 4)), (15, some (.iconst 0)), (16, some (.iconst 1)), (17, some (.invokevirtual 109)), (20, some (.ifCond .eq 5)), (23, some (.iconst 0)), (24, some (.ireturn)), (25, some (.aload_n 0)), (26, some (.iconst 0)), (27, some (.putfield 143)), (30, some (.iconst 0)), (31, some (.istore_n 2)), (32, some (.iload_n 2)), (33, some (.iload_n 1)), (34, some (.if_icmp .ge 78)), (37, some (.aload_n 0)), (38, some (.dup)), (39, some (.getfield 197)), (42, some (.iconst 1)), (43, some (.iadd)), (44, some (.putfield 197)), (47, some (.aload_n 0)), (48, some (.getfield 197)), (51, some (.bipush 10)), (53, some (.irem)), (54, some (.ifCond .ne 22)), (57, some (.aload_n 0)), (58, some (.getfield 56)), (61, some (.bipush 6)), (63, some (.if_icmp .ge 13)), (66, some (.aload_n 0)), (67, some (.dup)), (68, some (.getfield 56)), (71, some (.iconst 1)), (72, some (.iadd)), (73, some (.putfield 56)), (76, some (.aload_n 0)), (77, some (.getfield 176)), (80, some (.ifCond .le 26)), (83, some (.aload_n 0)), (84, some (.getfield 72)), (87, some (.iconst 0)), (88, some (.iaload)), (89, some (.bipush 30)), (91, some (.iadd)), (92, some (.aload_n 0)), (93, some (.getfield 197)), (96, some (.if_icmp .gt 10)), (99, some (.aload_n 0)), (100, some (.invokevirtual 240)), (103, some (.goto (-27))), (106, some (.iinc 2 1)), (109, some (.goto (-77))), (112, some (.aload_n 0)), (113, some (.getfield 143)), (116, some (.ireturn))]
-- 115: RouteHouseModel.sent(II)I
def tb_c115 : List (Nat × Option Instr) := [(0, some (.aload_n 0)), (1, some (.iload_n 1)), (2, some (.ifCond .lt 11)), (5, some (.iload_n 1)), (6, some (.aload_n 0)), (7, some (.getfield 143)), (10, some (.if_icmp .lt 7)), (13, some (.iconst 1)), (14, some (.goto 4)), (17, some (.iconst 0)), (18, some (.iconst 1)), (19, some (.invokevirtual 109)), (22, some (.ifCond .ne 25)), (25, some (.aload_n 0)), (26, some (.iload_n 2)), (27, some (.ifCond .lt 8)), (30, some (.iload_n 2)), (31, some (.iconst 2)), (32, some (.if_icmp .le 7)), (35, some (.iconst 1)), (36, some (.goto 4)), (39, some (.iconst 0)), (40, some (.iconst 2)), (41, some (.invokevirtual 109)), (44, some (.ifCond .eq 5)), (47, some (.iconst 0)), (48, some (.ireturn)), (49, some (.iload_n 2)), (50, some (.ifCond .ne 12)), (53, some (.aload_n 0)), (54, some (.getfield 47)), (57, some (.iload_n 1)), (58, some (.iaload)), (59, some (.goto 23)), (62, some (.iload_n 2)), (63, some (.iconst 1)), (64, some (.if_icmp .ne 12)), (67, some (.aload_n 0)), (68, some (.getfield 50)), (71, some (.iload_n 1)), (72, some (.iaload)), (73, some (.goto 9)), (76, some (.aload_n 0)), (77, some (.getfield 53)), (80, some (.iload_n 1)), (81, some (.iaload)), (82, some (.ireturn))]
-- 116: RouteHouseModel.out(II)I
def tb_c116 : List (Nat × Option Instr) := [(0, some (.aload_n 0)), (1, some (.iload_n 1)), (2, some (.ifCond .lt 25)), (5, some (.iload_n 1)), (6, some (.aload_n 0)), (7, some (.getfield 143)), (10, some (.if_icmp .ge 17)), (13, some (.iload_n 2)), (14, some (.ifCond .lt 13)), (17, some (.iload_n 2)), (18, some (.aload_n 0)), (19, some (.getfield 47)), (22, some (.iload_n 1)), (23, some (.iaload)), (24, some (.if_icmp .lt 7)), (27, some (.iconst 1)), (28, some (.goto 4)), (31, some (.iconst 0)), (32, some (.iconst 1)), (33, some (.invokevirtual 109)), (36, some (.ifCond .eq 5)), (39, some (.iconst 0)), (40, some (.ireturn)), (41, some (.aload_n 0)), (42, some (.getfield 41)), (45, some (.aload_n 0)), (46, some (.getfield 44)), (49, some (.iload_n 1)), (50, some (.iaload)), (51, some (.iload_n 2)), (52, some (.iadd)), (53, some (.iaload)), (54, some (.ireturn))]
-- 117: RouteHouseModel.data(I)I
def tb_c117 : List (Nat × Option Instr) := [(0, some (.aload_n 0)), (1, some (.iconst 0)), (2, some (.putfield 102)), (5, some (.iload_n 1)), (6, some (.ifCond .lt 20)), (9, some (.iload_n 1)), (10, some (.aload_n 0)), (11, some (.getfield 216)), (14, some (.if_icmp .ge 12)), (17, some (.aload_n 0)), (18, some (.getfield 60)), (21, some (.iload_n 1)), (22, some (.iaload)), (23, some (.goto 4)), (26, some (.iconst (-1))), (27, some (.ireturn))]
-- 118: RouteHouseModel.about(I)I
def tb_c118 : List (Nat × Option Instr) := [(0, some (.aload_n 0)), (1, some (.iload_n 1)), (2, some (.ifCond .lt 9)), (5, some (.iload_n 1)), (6, some (.bipush 10)), (8, some (.if_icmp .le 7)), (11, some (.iconst 1)), (12, some (.goto 4)), (15, some (.iconst 0)), (16, some (.iconst 1)), (17, some (.invokevirtual 109)), (20, some (.ifCond .eq 5)), (23, some (.iconst 0)), (24, some (.ireturn)), (25, some (.iload_n 1)), (26, some (.tableswitch 104 0 9 #[54, 59, 64, 69, 74, 79, 84, 89, 94, 99])), (80, some (.aload_n 0)), (81, some (.getfield 113)), (84, some (.ireturn)), (85, some (.aload_n 0)), (86, some (.getfield 143)), (89, some (.ireturn)), (90, some (.aload_n 0)), (91, some (.getfield 176)), (94, some (.ireturn)), (95, some (.aload_n 0)), (96, some (.getfield 56)), (99, some (.ireturn)), (100, some (.aload_n 0)), (101, some (.getfield 160)), (104, some (.ireturn)), (105, some (.aload_n 0)), (106, some (.getfield 197)), (109, some (.ireturn)), (110, some (.aload_n 0)), (111, some (.getfield 207)), (114, some (.ireturn)), (115, some (.aload_n 0)), (116, some (.getfield 210)), (119, some (.ireturn)), (120, some (.aload_n 0)), (121, some (.getfield 213)), (124, some (.ireturn)), (125, some (.aload_n 0)), (126, some (.getfield 216)), (129, some (.ireturn)), (130, some (.aload_n 0)), (131, some (.getfield 127)), (134, some (.ireturn))]
-- 119: RouteHouse$Wire.two([BI)I
def tb_c119 : List (Nat × Option Instr) := [(0, some (.aload_n 0)), (1, some (.iload_n 1)), (2, some (.baload)), (3, some (.sipush 255)), (6, some (.iand)), (7, some (.bipush 8)), (9, some (.ishl)), (10, some (.aload_n 0)), (11, some (.iload_n 1)), (12, some (.iconst 1)), (13, some (.iadd)), (14, some (.baload)), (15, some (.sipush 255)), (18, some (.iand)), (19, some (.ior)), (20, some (.ireturn))]
-- 120: RouteHouse$Wire.four([BI)I
def tb_c120 : List (Nat × Option Instr) := [(0, some (.aload_n 0)), (1, some (.iload_n 1)), (2, some (.baload)), (3, some (.sipush 255)), (6, some (.iand)), (7, some (.bipush 24)), (9, some (.ishl)), (10, some (.aload_n 0)), (11, some (.iload_n 1)), (12, some (.iconst 1)), (13, some (.iadd)), (14, some (.baload)), (15, some (.sipush 255)), (18, some (.iand)), (19, some (.bipush 16)), (21, some (.ishl)), (22, some (.ior)), (23, some (.aload_n 0)), (24, some (.iload_n 1)), (25, some (.iconst 2)), (26, some (.iadd)), (27, some (.baload)), (28, some (.sipush 255)), (31, some (.iand)), (32, some (.bipush 8)), (34, some (.ishl)), (35, some (.ior)), (36, some (.aload_n 0)), (37, some (.iload_n 1)), (38, some (.iconst 3)), (39, some (.iadd)), (40, some (.baload)), (41, some (.sipush 255)), (44, some (.iand)), (45, some (.ior)), (46, some (.ireturn))]
-- 121: RouteHouse$Wire.setTwo([BII)V
def tb_c121 : List (Nat × Option Instr) := [(0, some (.aload_n 0)), (1, some (.iload_n 1)), (2, some (.iload_n 2)), (3, some (.bipush 8)), (5, some (.ishr)), (6, some (.i2b)), (7, some (.bastore)), (8, some (.aload_n 0)), (9, some (.iload_n 1)), (10, some (.iconst 1)), (11, some (.iadd)), (12, some (.iload_n 2)), (13, some (.i2b)), (14, some (.bastore)), (15, some (.return_))]
-- 122: RouteHouse$Wire.setFour([BII)V
def tb_c122 : List (Nat × Option Instr) := [(0, some (.aload_n 0)), (1, some (.iload_n 1)), (2, some (.iload_n 2)), (3, some (.bipush 24)), (5, some (.ishr)), (6, some (.i2b)), (7, some (.bastore)), (8, some (.aload_n 0)), (9, some (.iload_n 1)), (10, some (.iconst 1)), (11, some (.iadd)), (12, some (.iload_n 2)), (13, some (.bipush 16)), (15, some (.ishr)), (16, some (.i2b)), (17, some (.bastore)), (18, some (.aload_n 0)), (19, some (.iload_n 1)), (20, some (.iconst 2)), (21, some (.iadd)), (22, some (.iload_n 2)), (23, some (.bipush 8)), (25, some (.ishr)), (26, some (.i2b)), (27, some (.bastore)), (28, some (.aload_n 0)), (29, some (.iload_n 1)), (30, some (.iconst 3)), (31, some (.iadd)), (32, some (.iload_n 2)), (33, some (.i2b)), (34, some (.bastore)), (35, some (.return_))]
-- 123: RouteHouse$Wire.sumOf([BIII)I
def tb_c123 : List (Nat × Option Instr) := [(0, some (.iconst 0)), (1, some (.istore 4)), (3, some (.iconst 0)), (4, some (.istore 5)), (6, some (.iload 5)), (8, some (.iload_n 2)), (9, some (.if_icmp .ge 63)), (12, some (.iload_n 1)), (13, some (.iload 5)), (15, some (.iadd)), (16, some (.istore 6)), (18, some (.iload 6)), (20, some (.iload_n 3)), (21, some (.if_icmp .eq 45)), (24, some (.iload 6)), (26, some (.iload_n 3)), (27, some (.iconst 1)), (28, some (.iadd)), (29, some (.if_icmp .eq 37)), (32, some (.iload 4)), (34, some (.iload 5)), (36, some (.iconst 2)), (37, some (.irem)), (38, some (.ifCond .ne 17)), (41, some (.aload_n 0)), (42, some (.iload 6)), (44, some (.baload)), (45, some (.sipush 255)), (48, some (.iand)), (49, some (.bipush 8)), (51, some (.ishl)), (52, some (.goto 11)), (55, some (.aload_n 0)), (56, some (.iload 6)), (58, some (.baload)), (59, some (.sipush 255)), (62, some (.iand)), (63, some (.iadd)), (64, some (.istore 4)), (66, some (.iinc 5 1)), (69, some (.goto (-63))), (72, some (.iload 4)), (74, some (.ldc 7)), (76, some (.iand)), (77, some (.iload 4)), (79, some (.bipush 16)), (81, some (.iushr)), (82, some (.iadd)), (83, some (.istore 4)), (85, some (.iload 4)), (87, some (.ldc 7)), (89, some (.iand)), (90, some (.iload 4)), (92, some (.bipush 16)), (94, some (.iushr)), (95, some (.iadd)), (96, some (.istore 4)), (98, some (.iload 4)), (100, some (.iconst (-1))), (101, some (.ixor)), (102, some (.ldc 7)), (104, some (.iand)), (105, some (.ireturn))]
def tb_cs : List (List (Nat × Option Instr)) := [tb_c0, tb_c1, tb_c2, tb_c3, tb_c4, tb_c5, tb_c6, tb_c7, tb_c8, tb_c9, tb_c10, tb_c11, tb_c12, tb_c13, tb_c14, tb_c15, tb_c16, tb_c17, tb_c18, tb_c19, tb_c20, tb_c21, tb_c22, tb_c23, tb_c24, tb_c25, tb_c26, tb_c27, tb_c28, tb_c29, tb_c30, tb_c31, tb_c32, tb_c33, tb_c34, tb_c35, tb_c36, tb_c37, tb_c38, tb_c39, tb_c40, tb_c41, tb_c42, tb_c43, tb_c44, tb_c45, tb_c46, tb_c47, tb_c48, tb_c49, tb_c50, tb_c51, tb_c52, tb_c53, tb_c54, tb_c55, tb_c56, tb_c57, tb_c58, tb_c59, tb_c60, tb_c61, tb_c62, tb_c63, tb_c64, tb_c65, tb_c66, tb_c67, tb_c68, tb_c69, tb_c70, tb_c71, tb_c72, tb_c73, tb_c74, tb_c75, tb_c76, tb_c77, tb_c78, tb_c79, tb_c80, tb_c81, tb_c82, tb_c83, tb_c84, tb_c85, tb_c86, tb_c87, tb_c88, tb_c89, tb_c90, tb_c91, tb_c92, tb_c93, tb_c94, tb_c95, tb_c96, tb_c97, tb_c98, tb_c99, tb_c100, tb_c101, tb_c102, tb_c103, tb_c104, tb_c105, tb_c106, tb_c107, tb_c108, tb_c109, tb_c110, tb_c111, tb_c112, tb_c113, tb_c114, tb_c115, tb_c116, tb_c117, tb_c118, tb_c119, tb_c120, tb_c121, tb_c122, tb_c123]
def tb_ins (k pc : Nat) : Option Instr := tb_lk none (tb_cs.getD k []) pc
def tb_ows : List Nat := [0, 0, 1, 1, 1, 1, 1, 2, 2, 2, 2, 2, 2, 2, 2, 2, 2, 2, 2, 2, 2, 2, 2, 2, 2, 3, 4, 4, 4, 4, 4, 4, 5, 5, 5, 5, 5, 5, 5, 6, 6, 6, 6, 6, 6, 6, 7, 7, 7, 7, 7, 7, 7, 7, 7, 7, 7, 7, 7, 7, 7, 7, 7, 7, 7, 7, 7, 7, 7, 7, 7, 7, 7, 8, 8, 8, 8, 8, 8, 8, 8, 8, 8, 8, 8, 8, 8, 8, 8, 8, 8, 8, 8, 8, 8, 8, 8, 8, 8, 8, 8, 8, 8, 8, 8, 8, 8, 8, 8, 8, 8, 8, 8, 8, 8, 8, 8, 8, 8, 9, 9, 9, 9, 9]
def tb_ci (k : Nat) : Nat := tb_ows.getD k 0
def tb_nms : List String := [tc_0, tc_1, tc_2, tc_3, tc_4, tc_5, tc_6, tc_7, tc_8, tc_9]
def tb_own (k : Nat) : String := tb_nms.getD (tb_ci k) ""
def tb_rs (k x : Nat) : tb_R := tb_lk (0, 0, 0, 0) (tb_rcs.getD (tb_ci k) []) x
def tb_ys : List (String × String × Nat) := [("<init>", "()V", 0), ("take", "(LRouteHouse$Packet;)V", 1), ("<init>", "()V", 0), ("empty", "()V", 0), ("send", "(LRouteHouse$Packet;III)V", 4), ("addPiece", "(LRouteHouse$Packet;[BIIII)I", 6), ("makeLaterHeader", "(LRouteHouse$Packet;)I", 1), ("<init>", "(I)V", 1), ("headerLength", "()I", 0), ("length", "()I", 0), ("dataLength", "()I", 0), ("identity", "()I", 0), ("isUncut", "()Z", 0), ("hasMore", "()Z", 0), ("isPiece", "()Z", 0), ("dataStart", "()I", 0), ("hops", "()I", 0), ("protocol", "()I", 0), ("source", "()I", 0), ("destination", "()I", 0), ("headerFault", "()I", 0), ("wrongOption", "()I", 0), ("optionSize", "(II)I", 2), ("isRequest", "()Z", 0), ("mayHaveError", "()Z", 0), ("<init>", "()V", 0), ("<init>", "()V", 0), ("beginning", "(II)I", 2), ("find", "(II)I", 2), ("longest", "(I)I", 1), ("put", "(IIIII)V", 5), ("remove", "(I)V", 1), ("<init>", "()V", 0), ("begin", "(LRouteHouse$Packet;I)V", 2), ("waitsFor", "(LRouteHouse$Packet;)Z", 1), ("refuses", "(LRouteHouse$Packet;)Z", 1), ("add", "(LRouteHouse$Packet;I)V", 2), ("isComplete", "()Z", 0), ("writeTo", "(LRouteHouse$Packet;)V", 1), ("<init>", "()V", 0), ("completes", "(LRouteHouse$Packet;IILRouteHouse$Packet;)Z", 4), ("hasOverdue", "(I)Z", 1), ("remove", "(I)V", 1), ("find", "(LRouteHouse$Packet;)I", 1), ("isWrong", "(LRouteHouse$Packet;)Z", 1), ("begin", "(LRouteHouse$Packet;I)I", 2), ("<init>", "()V", 0), ("port", "(III)V", 3), ("up", "(IZ)Z", 2), ("route", "(IIII)I", 4), ("unroute", "(II)Z", 2), ("lookup", "(II)I", 2), ("feed", "(IIIII)I", 5), ("end", "(I)V", 1), ("sum", "(I)V", 1), ("copy", "(I)I", 1), ("receive", "(I)I", 1), ("pass", "(I)I", 1), ("sent", "(II)I", 2), ("out", "(II)I", 2), ("data", "(I)I", 1), ("about", "(I)I", 1), ("refuseStrangePort", "(I)V", 1), ("refuseStrangePacket", "(I)V", 1), ("refuseStrangeBits", "(I)V", 1), ("takeSound", "(I)I", 1), ("isOwnAddress", "(I)Z", 1), ("takeOwn", "(I)I", 1), ("sendOn", "(I)I", 1), ("sendError", "(LRouteHouse$Packet;IIII)V", 5), ("sendAnswer", "(LRouteHouse$Packet;I)V", 2), ("sendReply", "(IIII)V", 4), ("passOne", "()V", 0), ("<init>", "()V", 0), ("thrown", "()I", 0), ("fails", "(ZI)Z", 2), ("isPort", "(I)Z", 1), ("port", "(III)V", 3), ("up", "(IZ)Z", 2), ("start", "(II)I", 2), ("routeFor", "(II)I", 2), ("route", "(IIII)I", 4), ("unroute", "(II)Z", 2), ("find", "(I)I", 1), ("lookup", "(II)I", 2), ("feed", "(IIIII)I", 5), ("end", "(I)V", 1), ("sumOf", "([IIII)I", 4), ("putTwo", "([III)V", 3), ("two", "([II)I", 2), ("four", "([II)I", 2), ("putFour", "([III)V", 3), ("sum", "(I)V", 1), ("copy", "(I)I", 1), ("emit", "(II)V", 2), ("send", "(II)V", 2), ("laterHeader", "(I)I", 1), ("begin", "(II)V", 2), ("error", "(IIII)V", 4), ("answer", "(I)V", 1), ("moveEntry", "(II)V", 2), ("drop", "(I)V", 1), ("nameOf", "()I", 0), ("entry", "()I", 0), ("isWrong", "(IIIZ)Z", 4), ("joins", "(I)Z", 1), ("isOwn", "(I)Z", 1), ("wrongOption", "(I)I", 1), ("isStrange", "(I)Z", 1), ("own", "(I)I", 1), ("pass0", "(I)I", 1), ("judge", "(II)I", 2), ("receive", "(I)I", 1), ("expire", "()V", 0), ("pass", "(I)I", 1), ("sent", "(II)I", 2), ("out", "(II)I", 2), ("data", "(I)I", 1), ("about", "(I)I", 1), ("two", "([BI)I", 2), ("four", "([BI)I", 2), ("setTwo", "([BII)V", 3), ("setFour", "([BII)V", 3), ("sumOf", "([BIII)I", 4)]
def tb_y (k : Nat) : MethodName := ⟨tb_own k, (tb_ys.getD k ("", "", 0)).1, (tb_ys.getD k ("", "", 0)).2.1⟩
def tb_na (k : Nat) : Nat := (tb_ys.getD k ("", "", 0)).2.2
def tb_bs : List (ByteArray × Nat × Option FieldType) := [(prog_2_method_1_code, 1, none), (prog_2_method_2_code, 2, none), (prog_3_method_1_code, 1, none), (prog_3_method_2_code, 1, none), (prog_3_method_3_code, 10, none), (prog_3_method_4_code, 14, some Jvm.ClassFile.FieldType.int), (prog_3_method_5_code, 7, some Jvm.ClassFile.FieldType.int), (prog_4_method_1_code, 2, none), (prog_4_method_2_code, 1, some Jvm.ClassFile.FieldType.int), (prog_4_method_3_code, 1, some Jvm.ClassFile.FieldType.int), (prog_4_method_4_code, 1, some Jvm.ClassFile.FieldType.int), (prog_4_method_5_code, 1, some Jvm.ClassFile.FieldType.int), (prog_4_method_6_code, 1, some Jvm.ClassFile.FieldType.boolean), (prog_4_method_7_code, 1, some Jvm.ClassFile.FieldType.boolean), (prog_4_method_8_code, 1, some Jvm.ClassFile.FieldType.boolean), (prog_4_method_9_code, 1, some Jvm.ClassFile.FieldType.int), (prog_4_method_10_code, 1, some Jvm.ClassFile.FieldType.int), (prog_4_method_11_code, 1, some Jvm.ClassFile.FieldType.int), (prog_4_method_12_code, 1, some Jvm.ClassFile.FieldType.int), (prog_4_method_13_code, 1, some Jvm.ClassFile.FieldType.int), (prog_4_method_14_code, 4, some Jvm.ClassFile.FieldType.int), (prog_4_method_15_code, 4, some Jvm.ClassFile.FieldType.int), (prog_4_method_16_code, 4, some Jvm.ClassFile.FieldType.int), (prog_4_method_17_code, 3, some Jvm.ClassFile.FieldType.boolean), (prog_4_method_18_code, 2, some Jvm.ClassFile.FieldType.boolean), (prog_5_method_1_code, 1, none), (prog_6_method_1_code, 1, none), (prog_6_method_2_code, 2, some Jvm.ClassFile.FieldType.int), (prog_6_method_3_code, 5, some Jvm.ClassFile.FieldType.int), (prog_6_method_4_code, 5, some Jvm.ClassFile.FieldType.int), (prog_6_method_5_code, 7, none), (prog_6_method_6_code, 2, none), (prog_7_method_1_code, 1, none), (prog_7_method_2_code, 4, none), (prog_7_method_3_code, 2, some Jvm.ClassFile.FieldType.boolean), (prog_7_method_4_code, 3, some Jvm.ClassFile.FieldType.boolean), (prog_7_method_5_code, 6, none), (prog_7_method_6_code, 1, some Jvm.ClassFile.FieldType.boolean), (prog_7_method_7_code, 4, none), (prog_8_method_1_code, 2, none), (prog_8_method_2_code, 7, some Jvm.ClassFile.FieldType.boolean), (prog_8_method_3_code, 2, some Jvm.ClassFile.FieldType.boolean), (prog_8_method_4_code, 4, none), (prog_8_method_5_code, 3, some Jvm.ClassFile.FieldType.int), (prog_8_method_6_code, 3, some Jvm.ClassFile.FieldType.boolean), (prog_8_method_7_code, 3, some Jvm.ClassFile.FieldType.int), (prog_1_method_1_code, 2, none), (prog_1_method_2_code, 4, none), (prog_1_method_3_code, 4, some Jvm.ClassFile.FieldType.boolean), (prog_1_method_4_code, 6, some Jvm.ClassFile.FieldType.int), (prog_1_method_5_code, 4, some Jvm.ClassFile.FieldType.boolean), (prog_1_method_6_code, 4, some Jvm.ClassFile.FieldType.int), (prog_1_method_7_code, 7, some Jvm.ClassFile.FieldType.int), (prog_1_method_8_code, 2, none), (prog_1_method_9_code, 2, none), (prog_1_method_10_code, 2, some Jvm.ClassFile.FieldType.int), (prog_1_method_11_code, 3, some Jvm.ClassFile.FieldType.int), (prog_1_method_12_code, 3, some Jvm.ClassFile.FieldType.int), (prog_1_method_13_code, 3, some Jvm.ClassFile.FieldType.int), (prog_1_method_14_code, 3, some Jvm.ClassFile.FieldType.int), (prog_1_method_15_code, 2, some Jvm.ClassFile.FieldType.int), (prog_1_method_16_code, 2, some Jvm.ClassFile.FieldType.int), (prog_1_method_17_code, 2, none), (prog_1_method_18_code, 2, none), (prog_1_method_19_code, 2, none), (prog_1_method_20_code, 3, some Jvm.ClassFile.FieldType.int), (prog_1_method_21_code, 3, some Jvm.ClassFile.FieldType.boolean), (prog_1_method_22_code, 4, some Jvm.ClassFile.FieldType.int), (prog_1_method_23_code, 9, some Jvm.ClassFile.FieldType.int), (prog_1_method_24_code, 7, none), (prog_1_method_25_code, 4, none), (prog_1_method_26_code, 7, none), (prog_1_method_27_code, 3, none), (prog_11_method_1_code, 2, none), (prog_11_method_2_code, 1, some Jvm.ClassFile.FieldType.int), (prog_11_method_3_code, 3, some Jvm.ClassFile.FieldType.boolean), (prog_11_method_4_code, 1, some Jvm.ClassFile.FieldType.boolean), (prog_11_method_5_code, 4, none), (prog_11_method_6_code, 4, some Jvm.ClassFile.FieldType.boolean), (prog_11_method_7_code, 2, some Jvm.ClassFile.FieldType.int), (prog_11_method_8_code, 4, some Jvm.ClassFile.FieldType.int), (prog_11_method_9_code, 6, some Jvm.ClassFile.FieldType.int), (prog_11_method_10_code, 4, some Jvm.ClassFile.FieldType.boolean), (prog_11_method_11_code, 4, some Jvm.ClassFile.FieldType.int), (prog_11_method_12_code, 4, some Jvm.ClassFile.FieldType.int), (prog_11_method_13_code, 8, some Jvm.ClassFile.FieldType.int), (prog_11_method_14_code, 2, none), (prog_11_method_15_code, 7, some Jvm.ClassFile.FieldType.int), (prog_11_method_16_code, 3, none), (prog_11_method_17_code, 2, some Jvm.ClassFile.FieldType.int), (prog_11_method_18_code, 2, some Jvm.ClassFile.FieldType.int), (prog_11_method_19_code, 3, none), (prog_11_method_20_code, 2, none), (prog_11_method_21_code, 3, some Jvm.ClassFile.FieldType.int), (prog_11_method_22_code, 5, none), (prog_11_method_23_code, 12, none), (prog_11_method_24_code, 7, some Jvm.ClassFile.FieldType.int), (prog_11_method_25_code, 4, none), (prog_11_method_26_code, 9, none), (prog_11_method_27_code, 5, none), (prog_11_method_28_code, 4, none), (prog_11_method_29_code, 3, none), (prog_11_method_30_code, 1, some Jvm.ClassFile.FieldType.int), (prog_11_method_31_code, 2, some Jvm.ClassFile.FieldType.int), (prog_11_method_32_code, 6, some Jvm.ClassFile.FieldType.boolean), (prog_11_method_33_code, 9, some Jvm.ClassFile.FieldType.boolean), (prog_11_method_34_code, 3, some Jvm.ClassFile.FieldType.boolean), (prog_11_method_35_code, 4, some Jvm.ClassFile.FieldType.int), (prog_11_method_36_code, 1, some Jvm.ClassFile.FieldType.boolean), (prog_11_method_37_code, 5, some Jvm.ClassFile.FieldType.int), (prog_11_method_38_code, 4, some Jvm.ClassFile.FieldType.int), (prog_11_method_39_code, 7, some Jvm.ClassFile.FieldType.int), (prog_11_method_40_code, 4, some Jvm.ClassFile.FieldType.int), (prog_11_method_41_code, 3, none), (prog_11_method_42_code, 3, some Jvm.ClassFile.FieldType.int), (prog_11_method_43_code, 3, some Jvm.ClassFile.FieldType.int), (prog_11_method_44_code, 3, some Jvm.ClassFile.FieldType.int), (prog_11_method_45_code, 2, some Jvm.ClassFile.FieldType.int), (prog_11_method_46_code, 2, some Jvm.ClassFile.FieldType.int), (prog_9_method_2_code, 2, some Jvm.ClassFile.FieldType.int), (prog_9_method_3_code, 2, some Jvm.ClassFile.FieldType.int), (prog_9_method_4_code, 3, none), (prog_9_method_5_code, 3, none), (prog_9_method_6_code, 7, some Jvm.ClassFile.FieldType.int)]
def tb_b (k : Nat) : ByteArray := (tb_bs.getD k (.empty, 0, none)).1
def tb_ml (k : Nat) : Nat := (tb_bs.getD k (.empty, 0, none)).2.1
def tb_rt (k : Nat) : Option FieldType := (tb_bs.getD k (.empty, 0, none)).2.2
def tb_rms : List (Nat × Nat) := [(1, 60), (3, 101), (1, 60), (1, 60), (3, 119), (2, 86), (2, 83), (1, 60), (1, 60), (2, 81), (2, 81), (2, 81), (2, 81), (2, 81), (2, 81), (2, 81), (1, 60), (1, 60), (2, 81), (2, 81), (3, 101), (2, 83), (1, 60), (3, 101), (3, 101), (1, 60), (1, 60), (1, 60), (2, 81), (2, 81), (2, 81), (1, 60), (2, 81), (3, 101), (3, 101), (3, 101), (3, 101), (1, 60), (2, 86), (3, 101), (5, 146), (1, 60), (1, 60), (4, 122), (3, 101), (4, 124), (4, 122), (9, 150), (9, 150), (9, 150), (9, 150), (8, 129), (8, 129), (8, 129), (8, 129), (9, 150), (9, 250), (8, 222), (9, 150), (9, 150), (1, 60), (8, 129), (8, 129), (8, 129), (8, 129), (7, 228), (1, 60), (6, 200), (6, 200), (5, 174), (5, 174), (4, 148), (6, 200), (1, 60), (1, 60), (1, 60), (1, 60), (2, 82), (2, 82), (1, 60), (2, 81), (3, 104), (3, 104), (2, 81), (3, 104), (2, 82), (2, 82), (1, 60), (1, 60), (1, 60), (2, 81), (2, 82), (2, 86), (2, 82), (2, 86), (3, 110), (1, 60), (3, 104), (4, 127), (4, 141), (1, 60), (2, 83), (2, 81), (3, 102), (1, 60), (4, 123), (1, 60), (1, 60), (1, 60), (5, 165), (5, 155), (6, 189), (7, 215), (5, 155), (6, 177), (2, 82), (2, 82), (1, 60), (2, 82), (1, 60), (1, 60), (1, 60), (1, 60), (1, 60)]
def tb_rf (k : Nat) : Nat := (tb_rms.getD k (0, 0)).1
def tb_rl (k : Nat) : Nat := (tb_rms.getD k (0, 0)).2
def tb_ok (k : Nat) : Bool := decide (k < 124)
def tb_all : List Jvm.Cond := lw_tbl.filter goodWord
end
section
-- the abstract heap: kinds (class or array code, length), ints, references, cells and slots made so far
abbrev hp_T : Type := List (Nat × Nat) × (Nat → Nat → Int32) × (Nat → Nat → Option Nat) × Nat × Nat
def hp_k (h : hp_T) (i : Nat) : Option (Nat × Nat) := h.1[i]?
def hp_z (h : hp_T) : Nat → Nat → Int32 := h.2.1
def hp_p (h : hp_T) : Nat → Nat → Option Nat := h.2.2.1
def hp_c (h : hp_T) : Nat := h.2.2.2.1
def hp_s (h : hp_T) : Nat := h.2.2.2.2
def hp_zw (h : hp_T) (i : Nat) (f : Nat → Int32) : hp_T := (h.1, va_up h.2.1 i f, h.2.2)
def hp_pw (h : hp_T) (i k : Nat) (v : Option Nat) : hp_T := (h.1, h.2.1, va_up h.2.2.1 i (va_up (h.2.2.1 i) k v), h.2.2.2)
def hp_new (h : hp_T) (t n w : Nat) : hp_T := (h.1 ++ [(t, n)], va_up h.2.1 h.1.length (fun _ => 0), va_up h.2.2.1 h.1.length (fun _ => none), h.2.2.2.1 + 1, h.2.2.2.2 + w)
def hp_thr (h : hp_T) : hp_T := (h.1, h.2.1, h.2.2.1, h.2.2.2.1 + 1, h.2.2.2.2 + 6)
-- how many bytes an instruction has
def ev_len : Instr → Nat
  | .bipush _ | .iload _ | .aload _ | .istore _ | .astore _ | .ldc _ | .newarray _ => 2
  | .sipush _ | .iinc _ _ | .ifCond _ _ | .if_icmp _ _ | .goto _ | .getfield _ | .putfield _ | .invokevirtual _ | .invokespecial _ | .invokestatic _ | .new _ | .anewarray _ | .ldc_w _ => 3
  | _ => 1
def ev_sw : Instr → Bool
  | .tableswitch _ _ _ _ => true
  | .lookupswitch _ _ => true
  | _ => false
def ev_j (pc : Nat) (off : Int) : Option Nat := if 0 ≤ (pc : Int) + off then some ((pc : Int) + off).toNat else none

def ev_c (c : Jvm.ClassFile.Cond) (x y : Int32) : Bool := match c with
  | .eq => decide (x = y)
  | .ne => decide (¬ x = y)
  | .lt => decide (x < y)
  | .ge => decide (y ≤ x)
  | .gt => decide (y < x)
  | .le => decide (x ≤ y)
-- a step that touches neither the heap nor the tables
def ev_p (i : Instr) (pc : Nat) (L st : List Value) : Option (Nat × List Value × List Value) := match i with
  | .aconst_null => some (pc + 1, L, .null :: st)
  | .iconst n => some (pc + 1, L, .int (Int32.ofInt n) :: st)
  | .bipush n => some (pc + 2, L, .int (Int8.ofInt n).toInt32 :: st)
  | .sipush n => some (pc + 3, L, .int (Int16.ofInt n).toInt32 :: st)
  | .iload k => match L[k]? with
    | some (.int x) => some (pc + 2, L, .int x :: st)
    | _ => none
  | .iload_n k => match L[(k : Nat)]? with
    | some (.int x) => some (pc + 1, L, .int x :: st)
    | _ => none
  | .aload k => match L[k]? with
    | some (.ref x) => some (pc + 2, L, .ref x :: st)
    | _ => none
  | .aload_n k => match L[(k : Nat)]? with
    | some (.ref x) => some (pc + 1, L, .ref x :: st)
    | _ => none
  | .istore k => match st with
    | .int x :: r => if k < L.length then some (pc + 2, L.set k (.int x), r) else none
    | _ => none
  | .istore_n k => match st with
    | .int x :: r => if (k : Nat) < L.length then some (pc + 1, L.set k (.int x), r) else none
    | _ => none
  | .astore k => match st with
    | .ref x :: r => if k < L.length then some (pc + 2, L.set k (.ref x), r) else none
    | _ => none
  | .astore_n k => match st with
    | .ref x :: r => if (k : Nat) < L.length then some (pc + 1, L.set k (.ref x), r) else none
    | _ => none
  | .iinc k n => match L[k]? with
    | some (.int x) => some (pc + 3, L.set k (.int (x + Int32.ofInt n)), st)
    | _ => none
  | .iadd => match st with
    | .int y :: .int x :: r => some (pc + 1, L, .int (x + y) :: r)
    | _ => none
  | .isub => match st with
    | .int y :: .int x :: r => some (pc + 1, L, .int (x - y) :: r)
    | _ => none
  | .imul => match st with
    | .int y :: .int x :: r => some (pc + 1, L, .int (x * y) :: r)
    | _ => none
  | .iand => match st with
    | .int y :: .int x :: r => some (pc + 1, L, .int (x &&& y) :: r)
    | _ => none
  | .ior => match st with
    | .int y :: .int x :: r => some (pc + 1, L, .int (x ||| y) :: r)
    | _ => none
  | .ixor => match st with
    | .int y :: .int x :: r => some (pc + 1, L, .int (x ^^^ y) :: r)
    | _ => none
  | .ishl => match st with
    | .int y :: .int x :: r => some (pc + 1, L, .int (x <<< (y &&& 31)) :: r)
    | _ => none
  | .ishr => match st with
    | .int y :: .int x :: r => some (pc + 1, L, .int (x >>> (y &&& 31)) :: r)
    | _ => none
  | .iushr => match st with
    | .int y :: .int x :: r => some (pc + 1, L, .int ((x.toUInt32 >>> (y.toUInt32 &&& Int32.toUInt32 31)).toInt32) :: r)
    | _ => none
  | .idiv => match st with
    | .int y :: .int x :: r => if y = 0 then none else some (pc + 1, L, .int (x / y) :: r)
    | _ => none
  | .irem => match st with
    | .int y :: .int x :: r => if y = 0 then none else some (pc + 1, L, .int (x - x / y * y) :: r)
    | _ => none
  | .ineg => match st with
    | .int x :: r => some (pc + 1, L, .int (-x) :: r)
    | _ => none
  | .i2b => match st with
    | .int x :: r => some (pc + 1, L, .int (x.toInt8.toInt32) :: r)
    | _ => none
  | .i2s => match st with
    | .int x :: r => some (pc + 1, L, .int (x.toInt16.toInt32) :: r)
    | _ => none
  | .i2c => match st with
    | .int x :: r => some (pc + 1, L, .int ((x.toUInt32 % 65536).toInt32) :: r)
    | _ => none
  | .dup => match st with
    | v :: r => some (pc + 1, L, v :: v :: r)
    | _ => none
  | .dup_x1 => match st with
    | v :: u :: r => some (pc + 1, L, v :: u :: v :: r)
    | _ => none
  | .dup_x2 => match st with
    | v :: u :: t :: r => some (pc + 1, L, v :: u :: t :: v :: r)
    | _ => none
  | .dup2 => match st with
    | v :: u :: r => some (pc + 1, L, v :: u :: v :: u :: r)
    | _ => none
  | .pop => match st with
    | _ :: r => some (pc + 1, L, r)
    | _ => none
  | .goto off => match ev_j pc off with
    | some t => some (t, L, st)
    | none => none
  | .ifCond c off => match st with
    | .int x :: r => match ev_j pc off with
      | some t => some (if ev_c c x 0 then t else pc + 3, L, r)
      | none => none
    | _ => none
  | .if_icmp c off => match st with
    | .int y :: .int x :: r => match ev_j pc off with
      | some t => some (if ev_c c x y then t else pc + 3, L, r)
      | none => none
    | _ => none
  | .tableswitch dflt lo hi offs => match st with
    | .int x :: r => if x.toInt < lo ∨ hi < x.toInt then (match ev_j pc dflt with
        | some t => some (t, L, r)
        | none => none)
      else (match offs[(x.toInt - lo).toNat]? with
        | some off => (match ev_j pc off with
          | some t => some (t, L, r)
          | none => none)
        | none => none)
    | _ => none
  | .lookupswitch dflt ps => match st with
    | .int x :: r => if (ps.toList.zip (ps.toList.drop 1)).all (fun (a, next) => a.1 < next.1) = true then (match ev_j pc (Op.lookupswitch.offset ps.toList dflt x.toInt) with
        | some t => some (t, L, r)
        | none => none)
      else none
    | _ => none
  | _ => none
-- what an array's code says of its type; the name of a class by its number
def ev_ty (t : Nat) : FieldType := if t = 65 then .byte else if t = 66 then .boolean else .int
def ev_cn (c : Nat) : String := match vwCl[c]? with
  | some r => r.1
  | none => ""
def ev_rr : FieldType → Bool
  | .object _ => true
  | .array _ => true
  | _ => false
def ev_in (j : Int32) (n : Nat) : Bool := !(decide (j < 0) || decide (n ≤ j.toNatClampNeg))
def ev_fv (h : hp_T) (a c k : Nat) : Value := if ev_rr (tb_ft c k) = true then va_rf (hp_p h a k) else .int (hp_z h a k)
def ev_at : Jvm.ClassFile.ArrayType → Nat
  | .int => 64
  | .byte => 65
  | .boolean => 66
  | _ => 0
abbrev ev_R : Type := tb_R
-- a step over the heap or the tables: no call of a method with code, no return
def ev_h (rs : Nat → ev_R) (i : Instr) (st : List Value) (h : hp_T) : Option (List Value × hp_T) := match i with
  | .ldc x => if (rs x).1 = 4 then some (.int (rs x).2.2.2 :: st, h) else none
  | .ldc_w x => if (rs x).1 = 4 then some (.int (rs x).2.2.2 :: st, h) else none
  | .getfield x => match st with
    | .ref a :: r => if (rs x).1 = 1 ∧ hp_k h a = some ((rs x).2.1, 0) then some (ev_fv h a (rs x).2.1 (rs x).2.2.1 :: r, h) else none
    | _ => none
  | .putfield x => match st with
    | .int v :: .ref a :: r => if (rs x).1 = 1 ∧ hp_k h a = some ((rs x).2.1, 0) ∧ ev_rr (tb_ft (rs x).2.1 (rs x).2.2.1) = false ∧ narrow (tb_ft (rs x).2.1 (rs x).2.2.1) (.int v) = .int v ∧ fits (tb_ft (rs x).2.1 (rs x).2.2.1) (.int v) = true
        then some (r, hp_zw h a (upd (hp_z h a) (rs x).2.2.1 v)) else none
    | .ref v :: .ref a :: r => if (rs x).1 = 1 ∧ hp_k h a = some ((rs x).2.1, 0) ∧ ev_rr (tb_ft (rs x).2.1 (rs x).2.2.1) = true then some (r, hp_pw h a (rs x).2.2.1 (some v)) else none
    | _ => none
  | .iaload => match st with
    | .int j :: .ref a :: r => match hp_k h a with
      | some (t, n) => if t = 64 ∧ ev_in j n = true then some (.int (hp_z h a j.toNatClampNeg) :: r, h) else none
      | none => none
    | _ => none
  | .baload => match st with
    | .int j :: .ref a :: r => match hp_k h a with
      | some (t, n) => if (t = 65 ∨ t = 66) ∧ ev_in j n = true then some (.int (hp_z h a j.toNatClampNeg) :: r, h) else none
      | none => none
    | _ => none
  | .aaload => match st with
    | .int j :: .ref a :: r => match hp_k h a with
      | some (t, n) => if 100 ≤ t ∧ ev_in j n = true then some (va_rf (hp_p h a j.toNatClampNeg) :: r, h) else none
      | none => none
    | _ => none
  | .iastore => match st with
    | .int v :: .int j :: .ref a :: r => match hp_k h a with
      | some (t, n) => if t = 64 ∧ ev_in j n = true then some (r, hp_zw h a (upd (hp_z h a) j.toNatClampNeg v)) else none
      | none => none
    | _ => none
  | .bastore => match st with
    | .int v :: .int j :: .ref a :: r => match hp_k h a with
      | some (t, n) => if (t = 65 ∨ t = 66) ∧ ev_in j n = true then some (r, hp_zw h a (upd (hp_z h a) j.toNatClampNeg (vp_nar (ev_ty t) v))) else none
      | none => none
    | _ => none
  | .aastore => match st with
    | .ref v :: .int j :: .ref a :: r => match hp_k h a with
      | some (t, n) => if 100 ≤ t ∧ ev_in j n = true ∧ hp_k h v = some (t - 100, 0) ∧ t - 100 < 64 then some (r, hp_pw h a j.toNatClampNeg (some v)) else none
      | none => none
    | _ => none
  | .arraylength => match st with
    | .ref a :: r => match hp_k h a with
      | some (t, n) => if 64 ≤ t then some (.int (Int32.ofNat n) :: r, h) else none
      | none => none
    | _ => none
  | .newarray y => match st with
    | .int n :: r => if ¬ n < 0 ∧ n.toNatClampNeg ≤ 100000 ∧ 64 ≤ ev_at y then some (.ref h.1.length :: r, hp_new h (ev_at y) n.toNatClampNeg n.toNatClampNeg) else none
    | _ => none
  | .anewarray x => match st with
    | .int n :: r => if ¬ n < 0 ∧ n.toNatClampNeg ≤ 100000 ∧ (rs x).1 = 3 then some (.ref h.1.length :: r, hp_new h (100 + (rs x).2.1) n.toNatClampNeg n.toNatClampNeg) else none
    | _ => none
  | .new x => if (rs x).1 = 3 ∧ (rs x).2.1 < 64 then some (.ref h.1.length :: st, hp_new h (rs x).2.1 0 (rs x).2.2.1) else none
  | .invokespecial x => match st with
    | .ref _ :: r => if (rs x).1 = 8 ∧ r.length ≤ 8 then some (r, h) else none
    | _ => none
  | .invokestatic x => match st with
    | .int v :: .int w :: .ref b :: .int u :: .ref a :: r => if (rs x).1 = 5 ∧ r.length ≤ 8 then (match hp_k h a, hp_k h b with
        | some (t, n), some (t2, n2) => if t = t2 ∧ 64 ≤ t ∧ t < 100 ∧ ¬ u < 0 ∧ ¬ w < 0 ∧ ¬ v < 0 ∧ u.toNatClampNeg + v.toNatClampNeg ≤ n ∧ w.toNatClampNeg + v.toNatClampNeg ≤ n2
            then some (r, hp_zw h b (va_cpy (hp_z h a) (hp_z h b) u.toNatClampNeg w.toNatClampNeg v.toNatClampNeg)) else none
        | _, _ => none) else none
    | .int y :: .int w :: r => if (rs x).1 = 6 ∧ r.length ≤ 8 then some (.int (if w < y then y else w) :: r, h) else if (rs x).1 = 7 ∧ r.length ≤ 8 then some (.int (if y < w then y else w) :: r, h) else none
    | _ => none
  | _ => none
-- what a method ends with: a value or nothing, or a thrown thing's number
abbrev ev_O : Type := (Option Value ⊕ Nat) × hp_T
def ev_b (call : Nat → List Value → hp_T → Option ev_O) (rec : Nat → List Value → List Value → hp_T → Option ev_O) (k pc : Nat) (L st : List Value) (h : hp_T) : Option ev_O := match tb_ins k pc with
    | none => none
    | some i => match ev_p i pc L st with
      | some (pc', L', st') => rec pc' L' st' h
      | none => match ev_h (tb_rs k) i st h with
        | some (st', h') => rec (pc + ev_len i) L st' h'
        | none => match i with
          | .ireturn => match st with
            | [.int x] => match tb_rt k with
              | some ty => if narrow ty (.int x) = .int x then some (.inl (some (.int x)), h) else none
              | none => none
            | _ => none
          | .areturn => match st with
            | [.ref x] => match tb_rt k with
              | some ty => if ev_rr ty = true then some (.inl (some (.ref x)), h) else none
              | none => none
            | _ => none
          | .return_ => match st with
            | [] => if tb_rt k = none then some (.inl none, h) else none
            | _ => none
          | .new x => if (tb_rs k x).1 = 9 ∧ st.length ≤ 8 then some (.inr (tb_rs k x).2.1, hp_thr h) else none
          | .invokevirtual x => if (tb_rs k x).1 = 2 ∧ tb_na (tb_rs k x).2.1 ≤ st.length then (match st.drop (tb_na (tb_rs k x).2.1) with
              | .ref b :: r => if r.length ≤ 8 ∧ hp_k h b = some (tb_ci (tb_rs k x).2.1, 0) then (match call (tb_rs k x).2.1 (.ref b :: (st.take (tb_na (tb_rs k x).2.1)).reverse) h with
                | some (.inl v, h') => rec (pc + 3) L (v.toList ++ r) h'
                | some (.inr q, h') => some (.inr q, h')
                | none => none) else none
              | _ => none) else none
          | .invokespecial x => if (tb_rs k x).1 = 2 ∧ tb_na (tb_rs k x).2.1 ≤ st.length then (match st.drop (tb_na (tb_rs k x).2.1) with
              | .ref b :: r => if r.length ≤ 8 then (match call (tb_rs k x).2.1 (.ref b :: (st.take (tb_na (tb_rs k x).2.1)).reverse) h with
                | some (.inl v, h') => rec (pc + 3) L (v.toList ++ r) h'
                | _ => none) else none
              | _ => none) else none
          | .invokestatic x => if (tb_rs k x).1 = 2 ∧ tb_na (tb_rs k x).2.1 ≤ st.length ∧ (st.drop (tb_na (tb_rs k x).2.1)).length ≤ 8 then (match call (tb_rs k x).2.1 (st.take (tb_na (tb_rs k x).2.1)).reverse h with
              | some (.inl v, h') => rec (pc + 3) L (v.toList ++ st.drop (tb_na (tb_rs k x).2.1)) h'
              | some (.inr q, h') => some (.inr q, h')
              | none => none) else none
          | _ => none
def ev_1 (call : Nat → List Value → hp_T → Option ev_O) : Nat → Nat → Nat → List Value → List Value → hp_T → Option ev_O
  | 0, _, _, _, _, _ => none
  | f + 1, k, pc, L, st, h => ev_b call (ev_1 call f k) k pc L st h
theorem ev_1_s (call : Nat → List Value → hp_T → Option ev_O) (f k pc : Nat) (L st : List Value) (h : hp_T) : ev_1 call (f + 1) k pc L st h = ev_b call (ev_1 call f k) k pc L st h := rfl
def ev_m : Nat → Nat → Nat → List Value → hp_T → Option ev_O
  | 0, _, _, _, _ => none
  | d + 1, f, k, as, h => if as.length ≤ tb_ml k then ev_1 (ev_m d f) f k 0 (as ++ List.replicate (tb_ml k - as.length) .null) [] h else none
end
section
section PlainA
def sd_v (ad : List Nat) (v w : Value) : Prop := match v with
  | .int x => w = .int x
  | .null => w = .null
  | .ref j => ∃ a : Nat, ad[j]? = some a ∧ w = .ref a
  | _ => False
def sd_l (ad : List Nat) : List Value → List Value → Prop
  | [], [] => True
  | v :: l, w :: k => sd_v ad v w ∧ sd_l ad l k
  | _, _ => False
theorem sd_v_cat {ad : List Nat} {v w : Value} (h : sd_v ad v w) : w.category = 1 := by
  cases v with
  | int x => have h : w = .int x := h; subst h; rfl
  | null => have h : w = .null := h; subst h; rfl
  | ref j => obtain ⟨a, -, rfl⟩ := h; rfl
  | _ => exact False.elim h
theorem sd_v_mono {ad z : List Nat} {v w : Value} (h : sd_v ad v w) : sd_v (ad ++ z) v w := by
  cases v with
  | int x => exact h
  | null => exact h
  | ref j =>
    obtain ⟨a, ha, rfl⟩ := h
    exact ⟨a, by rw [List.getElem?_append_left (List.getElem?_eq_some_iff.mp ha).1]; exact ha, rfl⟩
  | _ => exact False.elim h
theorem sd_l_mono {ad z : List Nat} : ∀ {l k : List Value}, sd_l ad l k → sd_l (ad ++ z) l k
  | [], [], _ => trivial
  | _ :: _, _ :: _, h => ⟨sd_v_mono h.1, sd_l_mono h.2⟩
  | [], _ :: _, h => False.elim h
  | _ :: _, [], h => False.elim h
theorem sd_l_c {ad : List Nat} {v : Value} {l S : List Value} (h : sd_l ad (v :: l) S) : ∃ (w : Value) (K : List Value), S = w :: K ∧ sd_v ad v w ∧ sd_l ad l K := by
  cases S with
  | nil => exact False.elim h
  | cons w K => exact ⟨w, K, rfl, h.1, h.2⟩
theorem sd_l_n {ad : List Nat} {S : List Value} (h : sd_l ad [] S) : S = [] := by
  cases S with
  | nil => rfl
  | cons w K => exact False.elim h
theorem sd_l_i {ad : List Nat} {x : Int32} {l S : List Value} (h : sd_l ad (.int x :: l) S) : ∃ K : List Value, S = .int x :: K ∧ sd_l ad l K := by
  obtain ⟨w, K, rfl, h1, h2⟩ := sd_l_c h
  have h1 : w = .int x := h1
  subst h1
  exact ⟨K, rfl, h2⟩
theorem sd_l_r {ad : List Nat} {j : Nat} {l S : List Value} (h : sd_l ad (.ref j :: l) S) : ∃ (a : Nat) (K : List Value), ad[j]? = some a ∧ S = .ref a :: K ∧ sd_l ad l K := by
  obtain ⟨w, K, rfl, ⟨a, ha, rfl⟩, h2⟩ := sd_l_c h
  exact ⟨a, K, ha, rfl, h2⟩
theorem sd_l_len {ad : List Nat} : ∀ {l k : List Value}, sd_l ad l k → k.length = l.length
  | [], [], _ => rfl
  | _ :: _, _ :: _, h => by simp [sd_l_len h.2]
  | [], _ :: _, h => False.elim h
  | _ :: _, [], h => False.elim h
theorem sd_l_sum {ad : List Nat} : ∀ {l k : List Value}, sd_l ad l k → (k.map fun v => v.category).sum = l.length
  | [], [], _ => rfl
  | _ :: l, w :: k, h => by
    have h1 := sd_v_cat h.1
    have h2 := sd_l_sum h.2
    simp only [List.map_cons, List.sum_cons, List.length_cons]
    omega
  | [], _ :: _, h => False.elim h
  | _ :: _, [], h => False.elim h
theorem sd_l_app {ad : List Nat} : ∀ {l k l' k' : List Value}, sd_l ad l k → sd_l ad l' k' → sd_l ad (l ++ l') (k ++ k')
  | [], [], _, _, _, h' => h'
  | _ :: _, _ :: _, _, _, h, h' => ⟨h.1, sd_l_app h.2 h'⟩
  | [], _ :: _, _, _, h, _ => False.elim h
  | _ :: _, [], _, _, h, _ => False.elim h
theorem sd_l_split {ad : List Nat} : ∀ {l l' S : List Value}, sd_l ad (l ++ l') S → ∃ k k' : List Value, S = k ++ k' ∧ sd_l ad l k ∧ sd_l ad l' k'
  | [], _, S, h => ⟨[], S, rfl, trivial, h⟩
  | v :: l, l', S, h => by
    obtain ⟨w, K, rfl, h1, h2⟩ := sd_l_c (l := l ++ l') h
    obtain ⟨k, k', rfl, h3, h4⟩ := sd_l_split h2
    exact ⟨w :: k, k', rfl, ⟨h1, h3⟩, h4⟩
theorem sd_l_rev {ad : List Nat} : ∀ {l k : List Value}, sd_l ad l k → sd_l ad l.reverse k.reverse
  | [], [], _ => trivial
  | v :: l, w :: k, h => by
    rw [List.reverse_cons, List.reverse_cons]
    exact sd_l_app (sd_l_rev h.2) ⟨h.1, trivial⟩
  | [], _ :: _, h => False.elim h
  | _ :: _, [], h => False.elim h
-- locals: what is not null in L stands in ls
def sd_s (ad : List Nat) (nL : Nat) (L : List Value) (ls : Array Slot) : Prop := L.length = nL ∧ ∃ lst : List (Nat × Value), lv_has ls nL lst ∧ ∀ (i : Nat) (v : Value), L[i]? = some v → v ≠ .null → ∃ w : Value, sd_v ad v w ∧ (i, w) ∈ lst
theorem sd_s_mono {ad z : List Nat} {nL : Nat} {L : List Value} {ls : Array Slot} (h : sd_s ad nL L ls) : sd_s (ad ++ z) nL L ls := by
  obtain ⟨h1, lst, h2, h3⟩ := h
  refine ⟨h1, lst, h2, fun i v hi hv => ?_⟩
  obtain ⟨w, hw, hm⟩ := h3 i v hi hv
  exact ⟨w, sd_v_mono hw, hm⟩
theorem sd_s_i {ad : List Nat} {nL : Nat} {L : List Value} {ls : Array Slot} (h : sd_s ad nL L ls) {i : Nat} {x : Int32} (hi : L[i]? = some (.int x)) : ls[i]? = some (.val (.int x)) := by
  obtain ⟨_, lst, h2, h3⟩ := h
  obtain ⟨w, hw, hm⟩ := h3 i _ hi (by simp)
  have hw : w = .int x := hw
  subst hw
  exact h2.2.2 _ hm
theorem sd_s_r {ad : List Nat} {nL : Nat} {L : List Value} {ls : Array Slot} (h : sd_s ad nL L ls) {i j : Nat} (hi : L[i]? = some (.ref j)) : ∃ a : Nat, ad[j]? = some a ∧ ls[i]? = some (.val (.ref a)) := by
  obtain ⟨_, lst, h2, h3⟩ := h
  obtain ⟨w, ⟨a, ha, rfl⟩, hm⟩ := h3 i _ hi (by simp)
  exact ⟨a, ha, h2.2.2 _ hm⟩
theorem sd_s_set {ad : List Nat} {nL i : Nat} {L : List Value} {ls : Array Slot} {lst : List (Nat × Value)} {v w : Value} (h1 : L.length = nL) (h3 : ∀ (i : Nat) (v : Value), L[i]? = some v → v ≠ .null → ∃ w : Value, sd_v ad v w ∧ (i, w) ∈ lst) (hi : i < L.length) (hv : sd_v ad v w)
    (h : lv_has ls nL ((i, w) :: lst.filter (fun q => !(q.1 == i) && !(q.1 + 1 == i && q.2.category == 2)))) : sd_s ad nL (L.set i v) ls := by
  refine ⟨by simp [h1], _, h, fun j u hj hu => ?_⟩
  by_cases e : j = i
  · subst e
    rw [List.getElem?_set_self hi] at hj
    cases hj
    exact ⟨w, hv, List.mem_cons_self⟩
  · rw [List.getElem?_set_ne (fun q => e q.symm)] at hj
    obtain ⟨w2, hw2, hm⟩ := h3 j u hj hu
    exact ⟨w2, hw2, List.mem_cons_of_mem _ (List.mem_filter.mpr ⟨hm, by simp [e, sd_v_cat hw2]⟩)⟩
theorem ev_j_eq {pc t : Nat} {off : Int} (h : ev_j pc off = some t) : (pc : Int) + off = (t : Int) := by
  unfold ev_j at h
  split at h
  · cases h; omega
  · cases h
end PlainA
section PlainB
variable {p : Program} {l : Launch} {e : Env} {R : Room} {s : State} {m : MethodId} {args : Array Value} {below : List Frame} {meth : Method} {c : Code} {H : Heap} {locs : List Loc} {cells slots : Nat} {Q : State → Prop} {cc : ByteArray}
set_option maxHeartbeats 4000000 in
theorem sd_p (hx : p.tables.exec = Jvm.exec) (hb : c.code = cc) {ad : List Nat} {nL pc pc' : Nat} {i : Instr} {L L' st st' : List Value} (hs : ev_p i pc L st = some (pc', L', st')) {n : Nat} (hd : decode cc pc = .ok (i, n)) (hn : n = ev_len i ∨ ev_sw i = true) {ls : Array Slot} {S : List Value} (hl : sd_s ad nL L ls) (hS : sd_l ad st S)
    (k : ∀ (ls' : Array Slot) (S' : List Value), sd_s ad nL L' ls' → sd_l ad st' S' → W p l e R s m args below meth c H locs cells slots Q (F0 m pc' ls' S')) : W p l e R s m args below meth c H locs cells slots Q (F0 m pc ls S) := by
  cases i with
  | aconst_null =>
    have hn : n = 1 := by simpa [ev_len, ev_sw] using hn
    subst hn
    simp only [ev_p, Option.some.injEq, Prod.mk.injEq] at hs
    obtain ⟨rfl, rfl, rfl⟩ := hs
    exact lv_null hx hb hd (k _ _ hl ⟨rfl, hS⟩)
  | iconst z =>
    have hn : n = 1 := by simpa [ev_len, ev_sw] using hn
    subst hn
    simp only [ev_p, Option.some.injEq, Prod.mk.injEq] at hs
    obtain ⟨rfl, rfl, rfl⟩ := hs
    exact lv_iconst hx hb hd rfl (k _ _ hl ⟨rfl, hS⟩)
  | bipush z =>
    have hn : n = 2 := by simpa [ev_len, ev_sw] using hn
    subst hn
    simp only [ev_p, Option.some.injEq, Prod.mk.injEq] at hs
    obtain ⟨rfl, rfl, rfl⟩ := hs
    exact lv_bipush hx hb hd rfl (k _ _ hl ⟨rfl, hS⟩)
  | sipush z =>
    have hn : n = 3 := by simpa [ev_len, ev_sw] using hn
    subst hn
    simp only [ev_p, Option.some.injEq, Prod.mk.injEq] at hs
    obtain ⟨rfl, rfl, rfl⟩ := hs
    exact lv_sipush hx hb hd rfl (k _ _ hl ⟨rfl, hS⟩)
  | iload z =>
    have hn : n = 2 := by simpa [ev_len, ev_sw] using hn
    subst hn
    simp only [ev_p] at hs
    split at hs
    · rename_i x hz
      simp only [Option.some.injEq, Prod.mk.injEq] at hs
      obtain ⟨rfl, rfl, rfl⟩ := hs
      exact lv_iload hx hb hd (sd_s_i hl hz) (k _ _ hl ⟨rfl, hS⟩)
    · cases hs
  | iload_n z =>
    have hn : n = 1 := by simpa [ev_len, ev_sw] using hn
    subst hn
    simp only [ev_p] at hs
    split at hs
    · rename_i x hz
      simp only [Option.some.injEq, Prod.mk.injEq] at hs
      obtain ⟨rfl, rfl, rfl⟩ := hs
      exact lv_iload_n hx hb hd rfl (sd_s_i hl hz) (k _ _ hl ⟨rfl, hS⟩)
    · cases hs
  | aload z =>
    have hn : n = 2 := by simpa [ev_len, ev_sw] using hn
    subst hn
    simp only [ev_p] at hs
    split at hs
    · rename_i x hz
      simp only [Option.some.injEq, Prod.mk.injEq] at hs
      obtain ⟨rfl, rfl, rfl⟩ := hs
      obtain ⟨q, hq, hq2⟩ := sd_s_r hl hz
      exact lv_aload hx hb hd hq2 (k _ _ hl ⟨⟨q, hq, rfl⟩, hS⟩)
    · cases hs
  | aload_n z =>
    have hn : n = 1 := by simpa [ev_len, ev_sw] using hn
    subst hn
    simp only [ev_p] at hs
    split at hs
    · rename_i x hz
      simp only [Option.some.injEq, Prod.mk.injEq] at hs
      obtain ⟨rfl, rfl, rfl⟩ := hs
      obtain ⟨q, hq, hq2⟩ := sd_s_r hl hz
      exact lv_aload_n hx hb hd rfl hq2 (k _ _ hl ⟨⟨q, hq, rfl⟩, hS⟩)
    · cases hs
  | istore z =>
    have hn : n = 2 := by simpa [ev_len, ev_sw] using hn
    subst hn
    simp only [ev_p] at hs
    split at hs
    · rename_i x r
      split at hs
      · rename_i hz
        simp only [Option.some.injEq, Prod.mk.injEq] at hs
        obtain ⟨rfl, rfl, rfl⟩ := hs
        obtain ⟨h1, lst, h2, h3⟩ := hl
        obtain ⟨K, rfl, hK1⟩ := sd_l_i hS
        exact lv_istore hx hb hd h2 (h1 ▸ hz) rfl (fun ls2 hls => k _ _ (sd_s_set h1 h3 hz rfl hls) hK1)
      · cases hs
    · cases hs
  | istore_n z =>
    have hn : n = 1 := by simpa [ev_len, ev_sw] using hn
    subst hn
    simp only [ev_p] at hs
    split at hs
    · rename_i x r
      split at hs
      · rename_i hz
        simp only [Option.some.injEq, Prod.mk.injEq] at hs
        obtain ⟨rfl, rfl, rfl⟩ := hs
        obtain ⟨h1, lst, h2, h3⟩ := hl
        obtain ⟨K, rfl, hK2⟩ := sd_l_i hS
        exact lv_istore_n hx hb hd rfl h2 (h1 ▸ hz) rfl (fun ls2 hls => k _ _ (sd_s_set h1 h3 hz rfl hls) hK2)
      · cases hs
    · cases hs
  | astore z =>
    have hn : n = 2 := by simpa [ev_len, ev_sw] using hn
    subst hn
    simp only [ev_p] at hs
    split at hs
    · rename_i x r
      split at hs
      · rename_i hz
        simp only [Option.some.injEq, Prod.mk.injEq] at hs
        obtain ⟨rfl, rfl, rfl⟩ := hs
        obtain ⟨h1, lst, h2, h3⟩ := hl
        obtain ⟨q, K, hq, rfl, hK3⟩ := sd_l_r hS
        exact lv_astore hx hb hd h2 (h1 ▸ hz) rfl (fun ls2 hls => k _ _ (sd_s_set (v := .ref x) h1 h3 hz ⟨q, hq, rfl⟩ hls) hK3)
      · cases hs
    · cases hs
  | astore_n z =>
    have hn : n = 1 := by simpa [ev_len, ev_sw] using hn
    subst hn
    simp only [ev_p] at hs
    split at hs
    · rename_i x r
      split at hs
      · rename_i hz
        simp only [Option.some.injEq, Prod.mk.injEq] at hs
        obtain ⟨rfl, rfl, rfl⟩ := hs
        obtain ⟨h1, lst, h2, h3⟩ := hl
        obtain ⟨q, K, hq, rfl, hK4⟩ := sd_l_r hS
        exact lv_astore_n hx hb hd rfl h2 (h1 ▸ hz) rfl (fun ls2 hls => k _ _ (sd_s_set (v := .ref x) h1 h3 hz ⟨q, hq, rfl⟩ hls) hK4)
      · cases hs
    · cases hs
  | iinc z y =>
    have hn : n = 3 := by simpa [ev_len, ev_sw] using hn
    subst hn
    simp only [ev_p] at hs
    split at hs
    · rename_i x hz
      simp only [Option.some.injEq, Prod.mk.injEq] at hs
      obtain ⟨rfl, rfl, rfl⟩ := hs
      obtain ⟨h1, lst, h2, h3⟩ := hl
      obtain ⟨w, hw, hm⟩ := h3 _ _ hz (by simp)
      have hw : w = .int x := hw
      subst hw
      obtain ⟨j, hj⟩ := List.getElem?_of_mem hm
      have hlt : z < L.length := (List.getElem?_eq_some_iff.mp hz).1
      exact lv_iinc hx hb hd h2 hj rfl (h1 ▸ hlt) rfl (fun ls2 hls => k _ _ (sd_s_set h1 h3 hlt rfl hls) hS)
    · cases hs
  | iadd =>
    have hn : n = 1 := by simpa [ev_len, ev_sw] using hn
    subst hn
    simp only [ev_p] at hs
    split at hs
    · rename_i y x r
      simp only [Option.some.injEq, Prod.mk.injEq] at hs
      obtain ⟨rfl, rfl, rfl⟩ := hs
      obtain ⟨K, rfl, hK5⟩ := sd_l_i hS
      obtain ⟨K, rfl, hK6⟩ := sd_l_i hK5
      exact lv_iadd hx hb hd (k _ _ hl ⟨rfl, hK6⟩)
    · cases hs
  | isub =>
    have hn : n = 1 := by simpa [ev_len, ev_sw] using hn
    subst hn
    simp only [ev_p] at hs
    split at hs
    · rename_i y x r
      simp only [Option.some.injEq, Prod.mk.injEq] at hs
      obtain ⟨rfl, rfl, rfl⟩ := hs
      obtain ⟨K, rfl, hK7⟩ := sd_l_i hS
      obtain ⟨K, rfl, hK8⟩ := sd_l_i hK7
      exact lv_isub hx hb hd (k _ _ hl ⟨rfl, hK8⟩)
    · cases hs
  | imul =>
    have hn : n = 1 := by simpa [ev_len, ev_sw] using hn
    subst hn
    simp only [ev_p] at hs
    split at hs
    · rename_i y x r
      simp only [Option.some.injEq, Prod.mk.injEq] at hs
      obtain ⟨rfl, rfl, rfl⟩ := hs
      obtain ⟨K, rfl, hK9⟩ := sd_l_i hS
      obtain ⟨K, rfl, hK10⟩ := sd_l_i hK9
      exact lv_imul hx hb hd (k _ _ hl ⟨rfl, hK10⟩)
    · cases hs
  | iand =>
    have hn : n = 1 := by simpa [ev_len, ev_sw] using hn
    subst hn
    simp only [ev_p] at hs
    split at hs
    · rename_i y x r
      simp only [Option.some.injEq, Prod.mk.injEq] at hs
      obtain ⟨rfl, rfl, rfl⟩ := hs
      obtain ⟨K, rfl, hK11⟩ := sd_l_i hS
      obtain ⟨K, rfl, hK12⟩ := sd_l_i hK11
      exact lv_iand hx hb hd (k _ _ hl ⟨rfl, hK12⟩)
    · cases hs
  | ior =>
    have hn : n = 1 := by simpa [ev_len, ev_sw] using hn
    subst hn
    simp only [ev_p] at hs
    split at hs
    · rename_i y x r
      simp only [Option.some.injEq, Prod.mk.injEq] at hs
      obtain ⟨rfl, rfl, rfl⟩ := hs
      obtain ⟨K, rfl, hK13⟩ := sd_l_i hS
      obtain ⟨K, rfl, hK14⟩ := sd_l_i hK13
      exact lv_ior hx hb hd (k _ _ hl ⟨rfl, hK14⟩)
    · cases hs
  | ixor =>
    have hn : n = 1 := by simpa [ev_len, ev_sw] using hn
    subst hn
    simp only [ev_p] at hs
    split at hs
    · rename_i y x r
      simp only [Option.some.injEq, Prod.mk.injEq] at hs
      obtain ⟨rfl, rfl, rfl⟩ := hs
      obtain ⟨K, rfl, hK15⟩ := sd_l_i hS
      obtain ⟨K, rfl, hK16⟩ := sd_l_i hK15
      exact lv_ixor hx hb hd (k _ _ hl ⟨rfl, hK16⟩)
    · cases hs
  | ishl =>
    have hn : n = 1 := by simpa [ev_len, ev_sw] using hn
    subst hn
    simp only [ev_p] at hs
    split at hs
    · rename_i y x r
      simp only [Option.some.injEq, Prod.mk.injEq] at hs
      obtain ⟨rfl, rfl, rfl⟩ := hs
      obtain ⟨K, rfl, hK17⟩ := sd_l_i hS
      obtain ⟨K, rfl, hK18⟩ := sd_l_i hK17
      exact lv_ishl hx hb hd (k _ _ hl ⟨rfl, hK18⟩)
    · cases hs
  | ishr =>
    have hn : n = 1 := by simpa [ev_len, ev_sw] using hn
    subst hn
    simp only [ev_p] at hs
    split at hs
    · rename_i y x r
      simp only [Option.some.injEq, Prod.mk.injEq] at hs
      obtain ⟨rfl, rfl, rfl⟩ := hs
      obtain ⟨K, rfl, hK19⟩ := sd_l_i hS
      obtain ⟨K, rfl, hK20⟩ := sd_l_i hK19
      exact lv_ishr hx hb hd (k _ _ hl ⟨rfl, hK20⟩)
    · cases hs
  | iushr =>
    have hn : n = 1 := by simpa [ev_len, ev_sw] using hn
    subst hn
    simp only [ev_p] at hs
    split at hs
    · rename_i y x r
      simp only [Option.some.injEq, Prod.mk.injEq] at hs
      obtain ⟨rfl, rfl, rfl⟩ := hs
      obtain ⟨K, rfl, hK21⟩ := sd_l_i hS
      obtain ⟨K, rfl, hK22⟩ := sd_l_i hK21
      exact lv_iushr hx hb hd rfl (k _ _ hl ⟨rfl, hK22⟩)
    · cases hs
  | idiv =>
    have hn : n = 1 := by simpa [ev_len, ev_sw] using hn
    subst hn
    simp only [ev_p] at hs
    split at hs
    · rename_i y x r
      split at hs
      · cases hs
      · rename_i hz
        simp only [Option.some.injEq, Prod.mk.injEq] at hs
        obtain ⟨rfl, rfl, rfl⟩ := hs
        obtain ⟨K, rfl, hK23⟩ := sd_l_i hS
        obtain ⟨K, rfl, hK24⟩ := sd_l_i hK23
        exact lv_idiv hx hb hd hz (k _ _ hl ⟨rfl, hK24⟩)
    · cases hs
  | irem =>
    have hn : n = 1 := by simpa [ev_len, ev_sw] using hn
    subst hn
    simp only [ev_p] at hs
    split at hs
    · rename_i y x r
      split at hs
      · cases hs
      · rename_i hz
        simp only [Option.some.injEq, Prod.mk.injEq] at hs
        obtain ⟨rfl, rfl, rfl⟩ := hs
        obtain ⟨K, rfl, hK25⟩ := sd_l_i hS
        obtain ⟨K, rfl, hK26⟩ := sd_l_i hK25
        exact lv_irem hx hb hd hz (k _ _ hl ⟨rfl, hK26⟩)
    · cases hs
  | ineg =>
    have hn : n = 1 := by simpa [ev_len, ev_sw] using hn
    subst hn
    simp only [ev_p] at hs
    split at hs
    · rename_i x r
      simp only [Option.some.injEq, Prod.mk.injEq] at hs
      obtain ⟨rfl, rfl, rfl⟩ := hs
      obtain ⟨K, rfl, hK27⟩ := sd_l_i hS
      exact lv_ineg hx hb hd (k _ _ hl ⟨rfl, hK27⟩)
    · cases hs
  | i2b =>
    have hn : n = 1 := by simpa [ev_len, ev_sw] using hn
    subst hn
    simp only [ev_p] at hs
    split at hs
    · rename_i x r
      simp only [Option.some.injEq, Prod.mk.injEq] at hs
      obtain ⟨rfl, rfl, rfl⟩ := hs
      obtain ⟨K, rfl, hK28⟩ := sd_l_i hS
      exact lv_i2b hx hb hd rfl (k _ _ hl ⟨rfl, hK28⟩)
    · cases hs
  | i2s =>
    have hn : n = 1 := by simpa [ev_len, ev_sw] using hn
    subst hn
    simp only [ev_p] at hs
    split at hs
    · rename_i x r
      simp only [Option.some.injEq, Prod.mk.injEq] at hs
      obtain ⟨rfl, rfl, rfl⟩ := hs
      obtain ⟨K, rfl, hK29⟩ := sd_l_i hS
      exact lv_i2s hx hb hd rfl (k _ _ hl ⟨rfl, hK29⟩)
    · cases hs
  | i2c =>
    have hn : n = 1 := by simpa [ev_len, ev_sw] using hn
    subst hn
    simp only [ev_p] at hs
    split at hs
    · rename_i x r
      simp only [Option.some.injEq, Prod.mk.injEq] at hs
      obtain ⟨rfl, rfl, rfl⟩ := hs
      obtain ⟨K, rfl, hK30⟩ := sd_l_i hS
      exact lv_i2c hx hb hd rfl (k _ _ hl ⟨rfl, hK30⟩)
    · cases hs
  | dup =>
    have hn : n = 1 := by simpa [ev_len, ev_sw] using hn
    subst hn
    simp only [ev_p] at hs
    split at hs
    · rename_i v r
      simp only [Option.some.injEq, Prod.mk.injEq] at hs
      obtain ⟨rfl, rfl, rfl⟩ := hs
      obtain ⟨w, K, rfl, hw, hK31⟩ := sd_l_c hS
      exact lv_dup hx hb hd (sd_v_cat hw) (k _ _ hl ⟨hw, hw, hK31⟩)
    · cases hs
  | pop =>
    have hn : n = 1 := by simpa [ev_len, ev_sw] using hn
    subst hn
    simp only [ev_p] at hs
    split at hs
    · rename_i v r
      simp only [Option.some.injEq, Prod.mk.injEq] at hs
      obtain ⟨rfl, rfl, rfl⟩ := hs
      obtain ⟨w, K, rfl, hw, hK32⟩ := sd_l_c hS
      exact lv_pop hx hb hd (sd_v_cat hw) (k _ _ hl hK32)
    · cases hs
  | dup_x1 =>
    have hn : n = 1 := by simpa [ev_len, ev_sw] using hn
    subst hn
    simp only [ev_p] at hs
    split at hs
    · rename_i v u r
      simp only [Option.some.injEq, Prod.mk.injEq] at hs
      obtain ⟨rfl, rfl, rfl⟩ := hs
      obtain ⟨w, K, rfl, hw, hK33⟩ := sd_l_c hS
      obtain ⟨w2, K, rfl, hw2, hK34⟩ := sd_l_c hK33
      exact lv_dup_x1 hx hb hd (sd_v_cat hw) (sd_v_cat hw2) (k _ _ hl ⟨hw, hw2, hw, hK34⟩)
    · cases hs
  | dup2 =>
    have hn : n = 1 := by simpa [ev_len, ev_sw] using hn
    subst hn
    simp only [ev_p] at hs
    split at hs
    · rename_i v u r
      simp only [Option.some.injEq, Prod.mk.injEq] at hs
      obtain ⟨rfl, rfl, rfl⟩ := hs
      obtain ⟨w, K, rfl, hw, hK35⟩ := sd_l_c hS
      obtain ⟨w2, K, rfl, hw2, hK36⟩ := sd_l_c hK35
      exact lv_dup2_11 hx hb hd (sd_v_cat hw) (sd_v_cat hw2) (k _ _ hl ⟨hw, hw2, hw, hw2, hK36⟩)
    · cases hs
  | dup_x2 =>
    have hn : n = 1 := by simpa [ev_len, ev_sw] using hn
    subst hn
    simp only [ev_p] at hs
    split at hs
    · rename_i v u t r
      simp only [Option.some.injEq, Prod.mk.injEq] at hs
      obtain ⟨rfl, rfl, rfl⟩ := hs
      obtain ⟨w, K, rfl, hw, hK37⟩ := sd_l_c hS
      obtain ⟨w2, K, rfl, hw2, hK38⟩ := sd_l_c hK37
      obtain ⟨w3, K, rfl, hw3, hK39⟩ := sd_l_c hK38
      exact lv_dup_x2 hx hb hd (sd_v_cat hw) (sd_v_cat hw2) (sd_v_cat hw3) (k _ _ hl ⟨hw, hw2, hw3, hw, hK39⟩)
    · cases hs
  | goto off =>
    have hn : n = 3 := by simpa [ev_len, ev_sw] using hn
    subst hn
    simp only [ev_p] at hs
    split at hs
    · rename_i t ht
      simp only [Option.some.injEq, Prod.mk.injEq] at hs
      obtain ⟨rfl, rfl, rfl⟩ := hs
      exact lv_goto hx hb hd (ev_j_eq ht) (k _ _ hl hS)
    · cases hs
  | ifCond cnd off =>
    have hn : n = 3 := by simpa [ev_len, ev_sw] using hn
    subst hn
    simp only [ev_p] at hs
    split at hs
    · rename_i x r
      split at hs
      · rename_i t ht
        simp only [Option.some.injEq, Prod.mk.injEq] at hs
        obtain ⟨rfl, rfl, rfl⟩ := hs
        obtain ⟨K, rfl, hK40⟩ := sd_l_i hS
        cases cnd with
        | eq => exact lv_if_eq hx hb hd (ev_j_eq ht) (fun h9 => by have h8 := k _ _ hl hK40; simp only [ev_c, decide_eq_true_eq] at h8; rw [if_pos h9] at h8; exact h8) (fun h9 => by have h8 := k _ _ hl hK40; simp only [ev_c, decide_eq_true_eq] at h8; rw [if_neg (by simpa using h9)] at h8; exact h8)
        | ne => exact lv_if_ne hx hb hd (ev_j_eq ht) (fun h9 => by have h8 := k _ _ hl hK40; simp only [ev_c, decide_eq_true_eq] at h8; rw [if_pos h9] at h8; exact h8) (fun h9 => by have h8 := k _ _ hl hK40; simp only [ev_c, decide_eq_true_eq] at h8; rw [if_neg (by simpa using h9)] at h8; exact h8)
        | lt => exact lv_if_lt hx hb hd (ev_j_eq ht) (fun h9 => by have h8 := k _ _ hl hK40; simp only [ev_c, decide_eq_true_eq] at h8; rw [if_pos h9] at h8; exact h8) (fun h9 => by have h8 := k _ _ hl hK40; simp only [ev_c, decide_eq_true_eq] at h8; rw [if_neg (by simpa using h9)] at h8; exact h8)
        | ge => exact lv_if_ge hx hb hd (ev_j_eq ht) (fun h9 => by have h8 := k _ _ hl hK40; simp only [ev_c, decide_eq_true_eq] at h8; rw [if_pos h9] at h8; exact h8) (fun h9 => by have h8 := k _ _ hl hK40; simp only [ev_c, decide_eq_true_eq] at h8; rw [if_neg (by simpa using h9)] at h8; exact h8)
        | gt => exact lv_if_gt hx hb hd (ev_j_eq ht) (fun h9 => by have h8 := k _ _ hl hK40; simp only [ev_c, decide_eq_true_eq] at h8; rw [if_pos h9] at h8; exact h8) (fun h9 => by have h8 := k _ _ hl hK40; simp only [ev_c, decide_eq_true_eq] at h8; rw [if_neg (by simpa using h9)] at h8; exact h8)
        | le => exact lv_if_le hx hb hd (ev_j_eq ht) (fun h9 => by have h8 := k _ _ hl hK40; simp only [ev_c, decide_eq_true_eq] at h8; rw [if_pos h9] at h8; exact h8) (fun h9 => by have h8 := k _ _ hl hK40; simp only [ev_c, decide_eq_true_eq] at h8; rw [if_neg (by simpa using h9)] at h8; exact h8)
      · cases hs
    · cases hs
  | if_icmp cnd off =>
    have hn : n = 3 := by simpa [ev_len, ev_sw] using hn
    subst hn
    simp only [ev_p] at hs
    split at hs
    · rename_i y x r
      split at hs
      · rename_i t ht
        simp only [Option.some.injEq, Prod.mk.injEq] at hs
        obtain ⟨rfl, rfl, rfl⟩ := hs
        obtain ⟨K, rfl, hK41⟩ := sd_l_i hS
        obtain ⟨K, rfl, hK42⟩ := sd_l_i hK41
        cases cnd with
        | eq => exact lv_icmp_eq hx hb hd (ev_j_eq ht) (fun h9 => by have h8 := k _ _ hl hK42; simp only [ev_c, decide_eq_true_eq] at h8; rw [if_pos h9] at h8; exact h8) (fun h9 => by have h8 := k _ _ hl hK42; simp only [ev_c, decide_eq_true_eq] at h8; rw [if_neg (by simpa using h9)] at h8; exact h8)
        | ne => exact lv_icmp_ne hx hb hd (ev_j_eq ht) (fun h9 => by have h8 := k _ _ hl hK42; simp only [ev_c, decide_eq_true_eq] at h8; rw [if_pos h9] at h8; exact h8) (fun h9 => by have h8 := k _ _ hl hK42; simp only [ev_c, decide_eq_true_eq] at h8; rw [if_neg (by simpa using h9)] at h8; exact h8)
        | lt => exact lv_icmp_lt hx hb hd (ev_j_eq ht) (fun h9 => by have h8 := k _ _ hl hK42; simp only [ev_c, decide_eq_true_eq] at h8; rw [if_pos h9] at h8; exact h8) (fun h9 => by have h8 := k _ _ hl hK42; simp only [ev_c, decide_eq_true_eq] at h8; rw [if_neg (by simpa using h9)] at h8; exact h8)
        | ge => exact lv_icmp_ge hx hb hd (ev_j_eq ht) (fun h9 => by have h8 := k _ _ hl hK42; simp only [ev_c, decide_eq_true_eq] at h8; rw [if_pos h9] at h8; exact h8) (fun h9 => by have h8 := k _ _ hl hK42; simp only [ev_c, decide_eq_true_eq] at h8; rw [if_neg (by simpa using h9)] at h8; exact h8)
        | gt => exact lv_icmp_gt hx hb hd (ev_j_eq ht) (fun h9 => by have h8 := k _ _ hl hK42; simp only [ev_c, decide_eq_true_eq] at h8; rw [if_pos h9] at h8; exact h8) (fun h9 => by have h8 := k _ _ hl hK42; simp only [ev_c, decide_eq_true_eq] at h8; rw [if_neg (by simpa using h9)] at h8; exact h8)
        | le => exact lv_icmp_le hx hb hd (ev_j_eq ht) (fun h9 => by have h8 := k _ _ hl hK42; simp only [ev_c, decide_eq_true_eq] at h8; rw [if_pos h9] at h8; exact h8) (fun h9 => by have h8 := k _ _ hl hK42; simp only [ev_c, decide_eq_true_eq] at h8; rw [if_neg (by simpa using h9)] at h8; exact h8)
      · cases hs
    · cases hs
  | tableswitch dflt lo hi offs =>
    simp only [ev_p] at hs
    split at hs
    · rename_i x r
      obtain ⟨K, rfl, hK43⟩ := sd_l_i hS
      split at hs
      · rename_i hz
        split at hs
        · rename_i t ht
          simp only [Option.some.injEq, Prod.mk.injEq] at hs
          obtain ⟨rfl, rfl, rfl⟩ := hs
          exact lv_tableOut hx hb hd hz (ev_j_eq ht) (k _ _ hl hK43)
        · cases hs
      · rename_i hz
        split at hs
        · rename_i off ho
          split at hs
          · rename_i t ht
            simp only [Option.some.injEq, Prod.mk.injEq] at hs
            obtain ⟨rfl, rfl, rfl⟩ := hs
            exact lv_tableIn hx hb hd (fun q => hz (Or.inl q)) (fun q => hz (Or.inr q)) ho (ev_j_eq ht) (k _ _ hl hK43)
          · cases hs
        · cases hs
    · cases hs
  | lookupswitch dflt ps =>
    simp only [ev_p] at hs
    split at hs
    · rename_i x r
      obtain ⟨K, rfl, hK44⟩ := sd_l_i hS
      split at hs
      · rename_i hz
        split at hs
        · rename_i t ht
          simp only [Option.some.injEq, Prod.mk.injEq] at hs
          obtain ⟨rfl, rfl, rfl⟩ := hs
          exact lv_lookup hx hb hd hz rfl (ev_j_eq ht) (k _ _ hl hK44)
        · cases hs
      · cases hs
    · cases hs
  | _ => cases hs
end PlainB
end
section
section HeapA
def sd_o (ad : List Nat) (x y : Option Nat) : Prop := match x with
  | none => y = none
  | some j => ∃ a : Nat, ad[j]? = some a ∧ y = some a
theorem sd_o_mono {ad z : List Nat} {x y : Option Nat} (h : sd_o ad x y) : sd_o (ad ++ z) x y := by
  cases x with
  | none => exact h
  | some j =>
    obtain ⟨a, ha, hy⟩ := h
    exact ⟨a, by rw [List.getElem?_append_left (List.getElem?_eq_some_iff.mp ha).1]; exact ha, hy⟩
theorem sd_o_v {ad : List Nat} {x y : Option Nat} (h : sd_o ad x y) : sd_v ad (va_rf x) (va_rf y) := by
  cases x with
  | none => have h : y = none := h; subst h; exact rfl
  | some j => obtain ⟨a, ha, rfl⟩ := h; exact ⟨a, ha, rfl⟩
-- a class's fields
def sd_f (ad : List Nat) (t : Nat) (z : Nat → Int32) (q : Nat → Option Nat) (fs : List Value) : Prop := ∀ k, k < tb_nf t → ∃ w : Value, fs[k]? = some w ∧ ((ev_rr (tb_ft t k) = true ∧ ∃ y : Option Nat, sd_o ad (q k) y ∧ w = va_rf y) ∨ (ev_rr (tb_ft t k) = false ∧ w = .int (z k)))
theorem sd_f_mono {ad z2 : List Nat} {t : Nat} {z : Nat → Int32} {q : Nat → Option Nat} {fs : List Value} (h : sd_f ad t z q fs) : sd_f (ad ++ z2) t z q fs := by
  intro k hk
  obtain ⟨w, h1, h2⟩ := h k hk
  rcases h2 with ⟨h2, y, h3, h4⟩ | h2
  · exact ⟨w, h1, Or.inl ⟨h2, y, sd_o_mono h3, h4⟩⟩
  · exact ⟨w, h1, Or.inr h2⟩
theorem sd_f_zw {ad : List Nat} {t k : Nat} {z : Nat → Int32} {q : Nat → Option Nat} {fs : List Value} {v : Int32} (h : sd_f ad t z q fs) (hr : ev_rr (tb_ft t k) = false) (hk : k < tb_nf t) : sd_f ad t (upd z k v) q (fs.set k (.int v)) := by
  intro j hj
  obtain ⟨w, h1, h2⟩ := h j hj
  by_cases e : j = k
  · subst e
    exact ⟨.int v, List.getElem?_set_self (List.getElem?_eq_some_iff.mp h1).1, Or.inr ⟨hr, by rw [pk_us]⟩⟩
  · refine ⟨w, by rw [List.getElem?_set_ne (fun q => e q.symm)]; exact h1, ?_⟩
    rw [pk_un e]
    exact h2
theorem sd_f_pw {ad : List Nat} {t k a j : Nat} {z : Nat → Int32} {q : Nat → Option Nat} {fs : List Value} (h : sd_f ad t z q fs) (hr : ev_rr (tb_ft t k) = true) (hk : k < tb_nf t) (ha : ad[j]? = some a) : sd_f ad t z (va_up q k (some j)) (fs.set k (.ref a)) := by
  intro i hi
  obtain ⟨w, h1, h2⟩ := h i hi
  by_cases e : i = k
  · subst e
    exact ⟨.ref a, List.getElem?_set_self (List.getElem?_eq_some_iff.mp h1).1, Or.inl ⟨hr, some a, by rw [va_up_self]; exact ⟨a, ha, rfl⟩, rfl⟩⟩
  · refine ⟨w, by rw [List.getElem?_set_ne (fun q => e q.symm)]; exact h1, ?_⟩
    rw [va_up_ne _ _ e]
    exact h2
-- a cell of the world
def sd_e (ad : List Nat) (tys : List (ClassId × FieldType)) (t n : Nat) (z : Nat → Int32) (q : Nat → Option Nat) (E : va_E) : Prop :=
  (t < 64 ∧ ∃ fs : List Value, E = .inr (t, fs) ∧ sd_f ad t z q fs) ∨
  (64 ≤ t ∧ t < 100 ∧ ∃ cA : ClassId, E = .inl (cA, n, .inl z) ∧ (cA, ev_ty t) ∈ tys ∧ ∀ k, fits (ev_ty t) (.int (z k)) = true) ∨
  (100 ≤ t ∧ ∃ (cA : ClassId) (f : Nat → Option Nat), E = .inl (cA, n, .inr (.inr (.inr (.inr f)))) ∧ (cA, .object (ev_cn (t - 100))) ∈ tys ∧ ∀ k, sd_o ad (q k) (f k))
theorem sd_e_mono {ad z2 : List Nat} {tys t2 : List (ClassId × FieldType)} {t n : Nat} {z : Nat → Int32} {q : Nat → Option Nat} {E : va_E} (h : sd_e ad tys t n z q E) : sd_e (ad ++ z2) (tys ++ t2) t n z q E := by
  rcases h with ⟨h1, fs, h2, h3⟩ | ⟨h1, h2, cA, h3, h4, h5⟩ | ⟨h1, cA, f, h3, h4, h5⟩
  · exact Or.inl ⟨h1, fs, h2, sd_f_mono h3⟩
  · exact Or.inr (Or.inl ⟨h1, h2, cA, h3, List.mem_append_left _ h4, h5⟩)
  · exact Or.inr (Or.inr ⟨h1, cA, f, h3, List.mem_append_left _ h4, fun k => sd_o_mono (h5 k)⟩)
theorem sd_e_o {ad : List Nat} {tys : List (ClassId × FieldType)} {t n : Nat} {z : Nat → Int32} {q : Nat → Option Nat} {E : va_E} (h : sd_e ad tys t n z q E) (ht : t < 64) : ∃ fs : List Value, E = .inr (t, fs) ∧ sd_f ad t z q fs := by
  rcases h with ⟨h1, h2⟩ | ⟨h1, h2⟩ | ⟨h1, h2⟩
  · exact h2
  · omega
  · omega
theorem sd_e_a {ad : List Nat} {tys : List (ClassId × FieldType)} {t n : Nat} {z : Nat → Int32} {q : Nat → Option Nat} {E : va_E} (h : sd_e ad tys t n z q E) (h0 : 64 ≤ t) (ht : t < 100) : ∃ cA : ClassId, E = .inl (cA, n, .inl z) ∧ (cA, ev_ty t) ∈ tys ∧ ∀ k, fits (ev_ty t) (.int (z k)) = true := by
  rcases h with ⟨h1, h2⟩ | ⟨h1, h2, h3⟩ | ⟨h1, h2⟩
  · omega
  · exact h3
  · omega
theorem sd_e_q {ad : List Nat} {tys : List (ClassId × FieldType)} {t n : Nat} {z : Nat → Int32} {q : Nat → Option Nat} {E : va_E} (h : sd_e ad tys t n z q E) (h0 : 100 ≤ t) : ∃ (cA : ClassId) (f : Nat → Option Nat), E = .inl (cA, n, .inr (.inr (.inr (.inr f)))) ∧ (cA, .object (ev_cn (t - 100))) ∈ tys ∧ ∀ k, sd_o ad (q k) (f k) := by
  rcases h with ⟨h1, h2⟩ | ⟨h1, h2, h3⟩ | ⟨h1, h2⟩
  · omega
  · omega
  · exact h2
-- the world: cells in the order of their making
def sd_r (ad : List Nat) (h : hp_T) (tys : List (ClassId × FieldType)) (ws : va_W) : Prop := ws.length = h.1.length ∧ ad.length = h.1.length ∧ ∀ i t n : Nat, hp_k h i = some (t, n) → ∃ (a : Nat) (E : va_E), ad[i]? = some a ∧ ws[i]? = some (a, E) ∧ sd_e ad tys t n (hp_z h i) (hp_p h i) E
def sd_w (D : va_G) (A : Nat → Prop) (ad : List Nat) (h : hp_T) (U : State) (H : Heap) : Prop := ∃ (ws : va_W) (tys : List (ClassId × FieldType)), va_K D vwCl tys U ∧ va_P D vwCl ws H ∧ va_D A ws ∧ sd_r ad h tys ws
theorem sd_r_set {ad : List Nat} {h h2 : hp_T} {tys : List (ClassId × FieldType)} {ws : va_W} (hr : sd_r ad h tys ws) {i t n a : Nat} {E : va_E} (hi : hp_k h i = some (t, n)) (ha : ad[i]? = some a) (hE : sd_e ad tys t n (hp_z h2 i) (hp_p h2 i) E) (h1 : h2.1 = h.1) (hz : ∀ j, j ≠ i → hp_z h2 j = hp_z h j) (hp : ∀ j, j ≠ i → hp_p h2 j = hp_p h j) : sd_r ad h2 tys (ws.set i (a, E)) := by
  obtain ⟨hlw, hla, hr⟩ := hr
  refine ⟨by simp [hlw, h1], by rw [hla, h1], fun j t2 n2 hj => ?_⟩
  have hj : hp_k h j = some (t2, n2) := by
    unfold hp_k at hj ⊢
    rw [← h1]; exact hj
  by_cases e : j = i
  · subst e
    rw [hi] at hj
    cases hj
    exact ⟨a, E, ha, List.getElem?_set_self (by rw [hlw, ← hla]; exact (List.getElem?_eq_some_iff.mp ha).1), hE⟩
  · obtain ⟨b, E2, h3, h4, h5⟩ := hr j t2 n2 hj
    exact ⟨b, E2, h3, by rw [List.getElem?_set_ne (fun q => e q.symm)]; exact h4, by rw [hz j e, hp j e]; exact h5⟩
theorem sd_r_new {ad : List Nat} {h : hp_T} {tys t2 : List (ClassId × FieldType)} {ws : va_W} (hr : sd_r ad h tys ws) {t n w a : Nat} {E : va_E} (hE : sd_e (ad ++ [a]) (tys ++ t2) t n (fun _ => 0) (fun _ => none) E) : sd_r (ad ++ [a]) (hp_new h t n w) (tys ++ t2) (ws ++ [(a, E)]) := by
  obtain ⟨hlw, hla, hr⟩ := hr
  refine ⟨by simp [hlw, hp_new], by simp [hla, hp_new], fun j t9 n9 hj => ?_⟩
  unfold hp_k hp_new at hj
  dsimp only at hj
  by_cases e : j = h.1.length
  · subst e
    rw [List.getElem?_append_right (Nat.le_refl _)] at hj
    simp only [Nat.sub_self, List.getElem?_cons_zero, Option.some.injEq, Prod.mk.injEq] at hj
    obtain ⟨rfl, rfl⟩ := hj
    refine ⟨a, E, ?_, ?_, ?_⟩
    · rw [← hla, List.getElem?_append_right (Nat.le_refl _)]; simp
    · rw [← hlw, List.getElem?_append_right (Nat.le_refl _)]; simp
    · have e1 : hp_z (hp_new h t n w) h.1.length = fun _ => 0 := by unfold hp_z hp_new; exact va_up_self _ _ _
      have e2 : hp_p (hp_new h t n w) h.1.length = fun _ => none := by unfold hp_p hp_new; exact va_up_self _ _ _
      rw [e1, e2]; exact hE
  · have hlt : j < h.1.length := by
      have h9 := (List.getElem?_eq_some_iff.mp hj).1
      simp only [List.length_append, List.length_cons, List.length_nil] at h9
      omega
    rw [List.getElem?_append_left hlt] at hj
    obtain ⟨b, E2, h3, h4, h5⟩ := hr j t9 n9 hj
    have e1 : hp_z (hp_new h t n w) j = hp_z h j := by unfold hp_z hp_new; exact va_up_ne _ _ e
    have e2 : hp_p (hp_new h t n w) j = hp_p h j := by unfold hp_p hp_new; exact va_up_ne _ _ e
    refine ⟨b, E2, ?_, ?_, ?_⟩
    · rw [List.getElem?_append_left (by rw [hla]; exact hlt)]; exact h3
    · rw [List.getElem?_append_left (by rw [hlw]; exact hlt)]; exact h4
    · rw [e1, e2]; exact sd_e_mono h5
theorem ev_in_of {j : Int32} {n : Nat} (h : ev_in j n = true) : vp_in j n := by
  unfold ev_in at h
  simp only [Bool.not_eq_true', Bool.or_eq_false_iff, decide_eq_false_iff_not] at h
  exact fun q => q.elim h.1 h.2
theorem ev_fitN (t : Nat) (x : Int32) : fits (ev_ty t) (.int (vp_nar (ev_ty t) x)) = true := by
  unfold ev_ty
  split
  · rw [vp_nar_byte]; exact pk_fb x
  · split
    · show (x &&& 1 == 0 || x &&& 1 == 1) = true
      obtain ⟨j, hj, e⟩ := pk_andE x (m := 1) 1 (by decide)
      rw [e]
      rcases (show j = 0 ∨ j = 1 by omega) with rfl | rfl <;> decide
    · rfl
theorem ev_fit0 (t : Nat) : fits (ev_ty t) (.int 0) = true := by
  unfold ev_ty
  split
  · decide
  · split
    · decide
    · rfl
-- what the tables say of a link, an instruction at a time
def sd_F (Ts : List Jvm.Cond) (own : String) (args : Array Value) (s : State) (x ci fk : Nat) : Prop := ∃ (C : String) (T : u_T) (N : Nat) (ref : String), vwCl[ci]? = some (C, T, N) ∧ fk < N ∧ (∀ w ∈ u_ws C T N, w ∈ Ts) ∧ ((Jvm.Cond.fieldLink own x ref (T fk).2.1 (T fk).2.2.1).before args s = true ∨ ∃ host : String, (Jvm.Cond.fieldLinkNest own x ref (T fk).2.1 (T fk).2.2.1 host).before args s = true) ∧ (∀ q, s.fieldFound? (T fk).1 (T fk).2.1 (T fk).2.2.1 = some q → s.fieldFound? ref (T fk).2.1 (T fk).2.2.1 = some q)
def sd_G (Ts : List Jvm.Cond) (own : String) (args : Array Value) (s : State) (nm : String) (x ci fk : Nat) : Prop := ∃ (C : String) (T : u_T) (N : Nat) (ref : String), vwCl[ci]? = some (C, T, N) ∧ fk < N ∧ (∀ w ∈ u_ws C T N, w ∈ Ts) ∧ (((T fk).2.2.2 = false ∧ ((Jvm.Cond.fieldLink own x ref (T fk).2.1 (T fk).2.2.1).before args s = true ∨ ∃ host : String, (Jvm.Cond.fieldLinkNest own x ref (T fk).2.1 (T fk).2.2.1 host).before args s = true)) ∨ ((T fk).2.2.2 = true ∧ nm = "<init>" ∧ (T fk).1 = own ∧ (Jvm.Cond.fieldLink own x ref (T fk).2.1 (T fk).2.2.1).before args s = true)) ∧ (∀ q, s.fieldFound? (T fk).1 (T fk).2.1 (T fk).2.2.1 = some q → s.fieldFound? ref (T fk).2.1 (T fk).2.2.1 = some q)
def sd_N (Ts : List Jvm.Cond) (own : String) (args : Array Value) (s : State) (x ci n : Nat) : Prop := ∃ (C : String) (T : u_T), vwCl[ci]? = some (C, T, n) ∧ (∀ w ∈ u_ws C T n, w ∈ Ts) ∧ (Jvm.Cond.classLink own x C).before args s = true ∧ (Jvm.Cond.instantiable C n).before args s = true ∧ (Jvm.Cond.initialized C).before args s = true
def sd_A (own : String) (args : Array Value) (s : State) (x ci : Nat) : Prop := ∃ (C : String) (T : u_T) (N : Nat), vwCl[ci]? = some (C, T, N) ∧ (Jvm.Cond.classLink own x C).before args s = true ∧ va_AO C s
def sd_J (own : String) (args : Array Value) (s : State) (x : Nat) : Prop := (Jvm.Cond.methodLink own x Lib.objectInit).before args s = true ∧ (Jvm.Cond.instanceMethod Lib.objectInit).before args s = true ∧ (Jvm.Cond.code Lib.objectInit ⟨#[0xb1]⟩ 1 none).before args s = true
def sd_Y (own : String) (args : Array Value) (s : State) (x : Nat) : Prop := (Jvm.Cond.methodLink own x arraycopyName).before args s = true ∧ (Jvm.Cond.native arraycopyName).before args s = true ∧ (Jvm.Cond.static arraycopyName).before args s = true ∧ (Jvm.Cond.initialized "java/lang/System").before args s = true
def sd_M (y : MethodName) (b : ByteArray) (own : String) (args : Array Value) (s : State) (x : Nat) : Prop := (Jvm.Cond.methodLink own x y).before args s = true ∧ (Jvm.Cond.static y).before args s = true ∧ (Jvm.Cond.initialized "java/lang/Math").before args s = true ∧ (Jvm.Cond.code y b 2 (some .int)).before args s = true
def sd_i (Ts : List Jvm.Cond) (own : String) (rs : Nat → ev_R) (args : Array Value) (s : State) (nm : String) (i : Instr) : Prop := match i with
  | .ldc x => (rs x).1 = 4 → (Jvm.Cond.constant own x (rs x).2.2.2).before args s = true
  | .ldc_w x => (rs x).1 = 4 → (Jvm.Cond.constant own x (rs x).2.2.2).before args s = true
  | .getfield x => (rs x).1 = 1 → sd_F Ts own args s x (rs x).2.1 (rs x).2.2.1
  | .putfield x => (rs x).1 = 1 → sd_G Ts own args s nm x (rs x).2.1 (rs x).2.2.1
  | .newarray y => (Jvm.Cond.arrayClass (newarray.typeOf y)).before args s = true
  | .anewarray x => (rs x).1 = 3 → sd_A own args s x (rs x).2.1
  | .new x => (rs x).1 = 3 → sd_N Ts own args s x (rs x).2.1 (rs x).2.2.1
  | .invokespecial x => (rs x).1 = 8 → sd_J own args s x
  | .invokestatic x => ((rs x).1 = 5 → sd_Y own args s x) ∧ ((rs x).1 = 6 → sd_M Lib.Math.max.name Lib.Math.max.code own args s x) ∧ ((rs x).1 = 7 → sd_M Lib.Math.min.name Lib.Math.min.code own args s x)
  | _ => True
-- what is known of the classes
def sd_cl : Prop := ∀ (ci : Nat) (C : String) (T : u_T) (N : Nat), vwCl[ci]? = some (C, T, N) → ci < 64 ∧ tb_nf ci = N ∧ (∀ k, k < N → parseFieldDescriptor (T k).2.2.1 = some (tb_ft ci k)) ∧ (∀ a, a < N → ∀ b, b < N → a ≠ b → (T a).2.1 ≠ (T b).2.1) ∧ (∀ k, k < N → ev_rr (tb_ft ci k) = true ∨ defaultValue (tb_ft ci k) = .int 0)
end HeapA
end
section
section StepA
theorem sd_def (ci N : Nat) : ∀ j, j < N → defaultValue (tb_ft ci j) = vp_V ((List.range N).map (fun k => defaultValue (tb_ft ci k))) j := by
  intro j hj
  unfold vp_V
  simp [List.getD_eq_getElem?_getD, hj]
theorem sd_fnew {ad : List Nat} {ci N : Nat} (hN : tb_nf ci = N) (h : ∀ k, k < N → ev_rr (tb_ft ci k) = true ∨ defaultValue (tb_ft ci k) = .int 0) : sd_f ad ci (fun _ => 0) (fun _ => none) ((List.range N).map (fun k => defaultValue (tb_ft ci k))) := by
  intro k hk
  rw [hN] at hk
  refine ⟨defaultValue (tb_ft ci k), by simp [hk], ?_⟩
  cases hr : ev_rr (tb_ft ci k) with
  | true =>
    refine Or.inl ⟨rfl, none, rfl, ?_⟩
    generalize tb_ft ci k = ty at hr
    cases ty <;> first | rfl | cases hr
  | false =>
    refine Or.inr ⟨rfl, ?_⟩
    rcases h k hk with h | h
    · rw [hr] at h; cases h
    · exact h
theorem sd_zwk (h : hp_T) (i : Nat) (f : Nat → Int32) : hp_c (hp_zw h i f) = hp_c h ∧ hp_s (hp_zw h i f) = hp_s h := ⟨rfl, rfl⟩
end StepA
section StepB
variable {p : Program} {l : Launch} {e : Env} {R : Room} {s : State} {m : MethodId} {args : Array Value} {below : List Frame} {meth : Method} {c : Code} {H : Heap} {locs : List Loc} {cells slots : Nat} {Q : State → Prop} {cc : ByteArray}
set_option maxHeartbeats 8000000 in
set_option maxRecDepth 100000 in
theorem sd_h (hcl : sd_cl) (hx : p.tables.exec = Jvm.exec) (hb : c.code = cc) {nL : Nat} (hml : c.maxLocals = nL) {own : String} {rs : Nat → ev_R} {Ts : List Jvm.Cond} (hown : s.vm.findClass own = some m.cls) (hts : ∀ w ∈ Ts, w.before args s = true)
    {D : va_G} {A : Nat → Prop} {ad : List Nat} {pc : Nat} {i : Instr} {L st st' : List Value} {h h' : hp_T} (hs : ev_h rs i st h = some (st', h')) (hd : decode cc pc = .ok (i, ev_len i)) (hok : sd_i Ts own rs args s meth.name i)
    (hw : sd_w D A ad h s H) (hSt : va_S A s.heap H locs) (hA : ∀ q, s.heap.size ≤ q → A q) {ls : Array Slot} {S : List Value} (hl : sd_s ad nL L ls) (hS : sd_l ad st S) (hRf : 1 ≤ R.frames) (hRl : 60 ≤ R.locals)
    {c0 s0 : Nat} (hc : cells + c0 = hp_c h) (hsl : slots + s0 = hp_s h) (hRc : hp_c h' ≤ R.cells + c0) (hRs : hp_s h' ≤ R.slots + s0)
    (kk : ∀ (z : List Nat) (H1 : Heap) (locs1 : List Loc) (S' : List Value) (cells' slots' : Nat), sd_w D A (ad ++ z) h' s H1 → va_S A s.heap H1 locs1 → sd_l (ad ++ z) st' S' → cells' + c0 = hp_c h' → slots' + s0 = hp_s h' → W p l e R s m args below meth c H1 locs1 cells' slots' Q (F0 m (pc + ev_len i) ls S')) :
    W p l e R s m args below meth c H locs cells slots Q (F0 m pc ls S) := by
  have hsz : ls.size = nL := by obtain ⟨-, lst, h9, -⟩ := hl; exact h9.1
  have kr : h' = h → ∀ S' : List Value, sd_l ad st' S' → W p l e R s m args below meth c H locs cells slots Q (F0 m (pc + ev_len i) ls S') := by
    intro e9 S' h9
    subst e9
    exact kk [] H locs S' cells slots (by rw [List.append_nil]; exact hw) hSt (by rw [List.append_nil]; exact h9) hc hsl
  have kw : hp_c h' = hp_c h → hp_s h' = hp_s h → ∀ (H1 : Heap) (locs1 : List Loc) (S' : List Value), sd_w D A ad h' s H1 → va_S A s.heap H1 locs1 → sd_l ad st' S' → W p l e R s m args below meth c H1 locs1 cells slots Q (F0 m (pc + ev_len i) ls S') := by
    intro e8 e9 H1 locs1 S' h7 h8 h9
    exact kk [] H1 locs1 S' cells slots (by rw [List.append_nil]; exact h7) h8 (by rw [List.append_nil]; exact h9) (by rw [e8]; exact hc) (by rw [e9]; exact hsl)
  cases i with
  | ldc x =>
    simp only [ev_h] at hs
    split at hs
    · rename_i hz
      simp only [Option.some.injEq, Prod.mk.injEq] at hs
      obtain ⟨rfl, rfl⟩ := hs
      exact lv_ldc hx hb hown (hok hz) hd (kr rfl _ ⟨rfl, hS⟩)
    · cases hs
  | ldc_w x =>
    simp only [ev_h] at hs
    split at hs
    · rename_i hz
      simp only [Option.some.injEq, Prod.mk.injEq] at hs
      obtain ⟨rfl, rfl⟩ := hs
      exact lv_ldcw hx hb hown (hok hz) hd (kr rfl _ ⟨rfl, hS⟩)
    · cases hs
  | getfield x =>
    simp only [ev_h] at hs
    split at hs
    · rename_i a r
      split at hs
      · rename_i hz
        obtain ⟨hz1, hz2⟩ := hz
        simp only [Option.some.injEq, Prod.mk.injEq] at hs
        obtain ⟨rfl, rfl⟩ := hs
        obtain ⟨C, T, N, ref, hc1, hk1, hin, hlink, hsame⟩ := hok hz1
        obtain ⟨h64, hN, hty, hnm, -⟩ := hcl _ _ _ _ hc1
        obtain ⟨ws, tys, hK, hP, hD, hlw, hla, hr⟩ := hw
        obtain ⟨q, E, hq, hws, hE⟩ := hr _ _ _ hz2
        obtain ⟨fs, rfl, hfs⟩ := sd_e_o hE h64
        obtain ⟨q2, K, hq2, rfl, hKS1⟩ := sd_l_r hS
        cases Option.some.inj (hq.symm.trans hq2)
        obtain ⟨w, hw1, hw2⟩ := hfs _ (by rw [hN]; exact hk1)
        have hv : sd_v ad (ev_fv h a (rs x).2.1 (rs x).2.2.1) w := by
          unfold ev_fv
          rcases hw2 with ⟨h1, y, h2, rfl⟩ | ⟨h1, rfl⟩
          · rw [if_pos h1]; exact sd_o_v h2
          · rw [if_neg (by rw [h1]; simp)]; exact rfl
        rcases hlink with hlink | ⟨host, hlink⟩
        · exact va_get (D := D) hx hb hts hin hown hK hP a hws hc1 _ hk1 hlink hsame hw1 hd (kr rfl _ ⟨hv, hKS1⟩)
        · exact va_getN (D := D) hx hb hts hin hown hK hP a hws hc1 _ hk1 hlink hsame hw1 hd (kr rfl _ ⟨hv, hKS1⟩)
      · cases hs
    · cases hs
  | putfield x =>
    simp only [ev_h] at hs
    split at hs
    · rename_i v a r
      split at hs
      · rename_i hz
        obtain ⟨hz1, hz2, hz3, hz4, hz5⟩ := hz
        simp only [Option.some.injEq, Prod.mk.injEq] at hs
        obtain ⟨rfl, rfl⟩ := hs
        obtain ⟨C, T, N, ref, hc1, hk1, hin, hlink, hsame⟩ := hok hz1
        obtain ⟨h64, hN, hty, hnm, -⟩ := hcl _ _ _ _ hc1
        obtain ⟨ws, tys, hK, hP, hD, hr9⟩ := hw
        obtain ⟨hlw, hla, hr⟩ := id hr9
        obtain ⟨q, E, hq, hws, hE⟩ := hr _ _ _ hz2
        obtain ⟨fs, rfl, hfs⟩ := sd_e_o hE h64
        obtain ⟨K, rfl, hKS2⟩ := sd_l_i hS
        obtain ⟨q2, K, hq2, rfl, hKS3⟩ := sd_l_r hKS2
        cases Option.some.inj (hq.symm.trans hq2)
        obtain ⟨w, hw1, hw2⟩ := hfs _ (by rw [hN]; exact hk1)
        have hlen := (List.getElem?_eq_some_iff.mp hw1).1
        have hnew : ∀ (H1 : Heap) (locs1 : List Loc), va_P D vwCl (ws.set a (q, .inr ((rs x).2.1, fs.set (rs x).2.2.1 (.int v)))) H1 → va_D A (ws.set a (q, .inr ((rs x).2.1, fs.set (rs x).2.2.1 (.int v)))) → va_S A s.heap H1 locs1 → W p l e R s m args below meth c H1 locs1 cells slots Q (F0 m (pc + 3) ls K) := by
          intro H1 locs1 hP1 hD1 hS1
          refine kw rfl rfl H1 locs1 K ⟨_, tys, hK, hP1, hD1, sd_r_set hr9 hz2 hq ?_ rfl (fun j hj => va_up_ne _ _ hj) (fun _ _ => rfl)⟩ hS1 hKS3
          refine Or.inl ⟨h64, _, rfl, ?_⟩
          have e1 : hp_z (hp_zw h a (upd (hp_z h a) (rs x).2.2.1 v)) a = upd (hp_z h a) (rs x).2.2.1 v := va_up_self _ _ _
          rw [e1]
          exact sd_f_zw hfs hz3 (by rw [hN]; exact hk1)
        rcases hlink with ⟨hfin, hlink | ⟨host, hlink⟩⟩ | ⟨hfin, hnm2, hdecl, hlink⟩
        · exact va_put (D := D) hx hb hts hin _ hty hnm hown hK hP hD hSt a hws hc1 _ hk1 hlink hsame hfin (hty _ hk1) hz4 hz5 hlen hd hnew
        · exact va_putN (D := D) hx hb hts hin _ hty hnm hown hK hP hD hSt a hws hc1 _ hk1 hlink hsame hfin (hty _ hk1) hz4 hz5 hlen hd hnew
        · exact va_putF (D := D) hx hb hts hin _ hty hnm hown hK hP hD hSt a hws hc1 _ hk1 hlink hsame hfin hnm2 hdecl (hty _ hk1) hz4 hz5 hlen hd hnew
      · cases hs
    · rename_i v a r
      split at hs
      · rename_i hz
        obtain ⟨hz1, hz2, hz3⟩ := hz
        simp only [Option.some.injEq, Prod.mk.injEq] at hs
        obtain ⟨rfl, rfl⟩ := hs
        obtain ⟨C, T, N, ref, hc1, hk1, hin, hlink, hsame⟩ := hok hz1
        obtain ⟨h64, hN, hty, hnm, -⟩ := hcl _ _ _ _ hc1
        obtain ⟨ws, tys, hK, hP, hD, hr9⟩ := hw
        obtain ⟨hlw, hla, hr⟩ := id hr9
        obtain ⟨q, E, hq, hws, hE⟩ := hr _ _ _ hz2
        obtain ⟨fs, rfl, hfs⟩ := sd_e_o hE h64
        obtain ⟨v2, K, hv2, rfl, hKS4⟩ := sd_l_r hS
        obtain ⟨q2, K, hq2, rfl, hKS5⟩ := sd_l_r hKS4
        cases Option.some.inj (hq.symm.trans hq2)
        obtain ⟨w, hw1, hw2⟩ := hfs _ (by rw [hN]; exact hk1)
        have hlen := (List.getElem?_eq_some_iff.mp hw1).1
        have hz4 : narrow (tb_ft (rs x).2.1 (rs x).2.2.1) (.ref v2) = .ref v2 := by
          generalize tb_ft (rs x).2.1 (rs x).2.2.1 = ty
          cases ty <;> rfl
        have hz5 : fits (tb_ft (rs x).2.1 (rs x).2.2.1) (.ref v2) = true := by
          generalize tb_ft (rs x).2.1 (rs x).2.2.1 = ty at hz3
          cases ty <;> first | rfl | cases hz3
        have hnew : ∀ (H1 : Heap) (locs1 : List Loc), va_P D vwCl (ws.set a (q, .inr ((rs x).2.1, fs.set (rs x).2.2.1 (.ref v2)))) H1 → va_D A (ws.set a (q, .inr ((rs x).2.1, fs.set (rs x).2.2.1 (.ref v2)))) → va_S A s.heap H1 locs1 → W p l e R s m args below meth c H1 locs1 cells slots Q (F0 m (pc + 3) ls K) := by
          intro H1 locs1 hP1 hD1 hS1
          refine kw rfl rfl H1 locs1 K ⟨_, tys, hK, hP1, hD1, sd_r_set hr9 hz2 hq ?_ rfl (fun _ _ => rfl) (fun j hj => va_up_ne _ _ hj)⟩ hS1 hKS5
          refine Or.inl ⟨h64, _, rfl, ?_⟩
          have e1 : hp_p (hp_pw h a (rs x).2.2.1 (some v)) a = va_up (hp_p h a) (rs x).2.2.1 (some v) := va_up_self _ _ _
          rw [e1]
          exact sd_f_pw hfs hz3 (by rw [hN]; exact hk1) hv2
        rcases hlink with ⟨hfin, hlink | ⟨host, hlink⟩⟩ | ⟨hfin, hnm2, hdecl, hlink⟩
        · exact va_put (D := D) hx hb hts hin _ hty hnm hown hK hP hD hSt a hws hc1 _ hk1 hlink hsame hfin (hty _ hk1) hz4 hz5 hlen hd hnew
        · exact va_putN (D := D) hx hb hts hin _ hty hnm hown hK hP hD hSt a hws hc1 _ hk1 hlink hsame hfin (hty _ hk1) hz4 hz5 hlen hd hnew
        · exact va_putF (D := D) hx hb hts hin _ hty hnm hown hK hP hD hSt a hws hc1 _ hk1 hlink hsame hfin hnm2 hdecl (hty _ hk1) hz4 hz5 hlen hd hnew
      · cases hs
    · cases hs
  | iaload =>
    simp only [ev_h] at hs
    split at hs
    · rename_i j a r
      split at hs
      · rename_i t n hz2
        split at hs
        · rename_i hz
          obtain ⟨rfl, hj⟩ := hz
          simp only [Option.some.injEq, Prod.mk.injEq] at hs
          obtain ⟨rfl, rfl⟩ := hs
          obtain ⟨ws, tys, hK, hP, hD, hlw, hla, hr⟩ := hw
          obtain ⟨q, E, hq, hws, hE⟩ := hr _ _ _ hz2
          obtain ⟨cA, rfl, hm, -⟩ := sd_e_a hE (by decide) (by decide)
          obtain ⟨t0, ht0⟩ := List.getElem?_of_mem hm
          obtain ⟨K, rfl, hKS6⟩ := sd_l_i hS
          obtain ⟨q2, K, hq2, rfl, hKS7⟩ := sd_l_r hKS6
          cases Option.some.inj (hq.symm.trans hq2)
          exact va_iald hx hb hK hP a t0 hws ht0 (ev_in_of hj) hd (kr rfl _ ⟨rfl, hKS7⟩)
        · cases hs
      · cases hs
    · cases hs
  | baload =>
    simp only [ev_h] at hs
    split at hs
    · rename_i j a r
      split at hs
      · rename_i t n hz2
        split at hs
        · rename_i hz
          obtain ⟨ht, hj⟩ := hz
          simp only [Option.some.injEq, Prod.mk.injEq] at hs
          obtain ⟨rfl, rfl⟩ := hs
          obtain ⟨ws, tys, hK, hP, hD, hlw, hla, hr⟩ := hw
          obtain ⟨q, E, hq, hws, hE⟩ := hr _ _ _ hz2
          obtain ⟨K, rfl, hKS8⟩ := sd_l_i hS
          obtain ⟨q2, K, hq2, rfl, hKS9⟩ := sd_l_r hKS8
          cases Option.some.inj (hq.symm.trans hq2)
          rcases ht with rfl | rfl
          · obtain ⟨cA, rfl, hm, -⟩ := sd_e_a hE (by decide) (by decide)
            obtain ⟨t0, ht0⟩ := List.getElem?_of_mem hm
            exact va_bald hx hb hK hP a t0 hws ht0 (ev_in_of hj) hd (kr rfl _ ⟨rfl, hKS9⟩)
          · obtain ⟨cA, rfl, hm, -⟩ := sd_e_a hE (by decide) (by decide)
            obtain ⟨t0, ht0⟩ := List.getElem?_of_mem hm
            exact va_zald hx hb hK hP a t0 hws ht0 (ev_in_of hj) hd (kr rfl _ ⟨rfl, hKS9⟩)
        · cases hs
      · cases hs
    · cases hs
  | aaload =>
    simp only [ev_h] at hs
    split at hs
    · rename_i j a r
      split at hs
      · rename_i t n hz2
        split at hs
        · rename_i hz
          obtain ⟨ht, hj⟩ := hz
          simp only [Option.some.injEq, Prod.mk.injEq] at hs
          obtain ⟨rfl, rfl⟩ := hs
          obtain ⟨ws, tys, hK, hP, hD, hlw, hla, hr⟩ := hw
          obtain ⟨q, E, hq, hws, hE⟩ := hr _ _ _ hz2
          obtain ⟨K, rfl, hKS10⟩ := sd_l_i hS
          obtain ⟨q2, K, hq2, rfl, hKS11⟩ := sd_l_r hKS10
          cases Option.some.inj (hq.symm.trans hq2)
          obtain ⟨cA, f, rfl, hm, hf⟩ := sd_e_q hE ht
          obtain ⟨t0, ht0⟩ := List.getElem?_of_mem hm
          exact va_aldq hx hb hK hP a t0 hws ht0 (ev_in_of hj) hd (kr rfl _ ⟨sd_o_v (hf _), hKS11⟩)
        · cases hs
      · cases hs
    · cases hs
  | iastore =>
    simp only [ev_h] at hs
    split at hs
    · rename_i v j a r
      split at hs
      · rename_i t n hz2
        split at hs
        · rename_i hz
          obtain ⟨rfl, hj⟩ := hz
          simp only [Option.some.injEq, Prod.mk.injEq] at hs
          obtain ⟨rfl, rfl⟩ := hs
          obtain ⟨ws, tys, hK, hP, hD, hr9⟩ := hw
          obtain ⟨hlw, hla, hr⟩ := id hr9
          obtain ⟨q, E, hq, hws, hE⟩ := hr _ _ _ hz2
          obtain ⟨cA, rfl, hm, hfit⟩ := sd_e_a hE (by decide) (by decide)
          obtain ⟨t0, ht0⟩ := List.getElem?_of_mem hm
          obtain ⟨K, rfl, hKS12⟩ := sd_l_i hS
          obtain ⟨K, rfl, hKS13⟩ := sd_l_i hKS12
          obtain ⟨q2, K, hq2, rfl, hKS14⟩ := sd_l_r hKS13
          cases Option.some.inj (hq.symm.trans hq2)
          refine va_iast hx hb hK hP hD hSt a t0 hws ht0 (ev_in_of hj) hd (fun H1 locs1 hP1 hD1 hS1 => ?_)
          refine kw rfl rfl H1 locs1 K ⟨_, tys, hK, hP1, hD1, sd_r_set hr9 hz2 hq ?_ rfl (fun j hj => va_up_ne _ _ hj) (fun _ _ => rfl)⟩ hS1 hKS14
          have e1 : hp_z (hp_zw h a (upd (hp_z h a) j.toNatClampNeg v)) a = upd (hp_z h a) j.toNatClampNeg v := va_up_self _ _ _
          rw [e1]
          exact Or.inr (Or.inl ⟨by decide, by decide, cA, rfl, hm, fun _ => rfl⟩)
        · cases hs
      · cases hs
    · cases hs
  | bastore =>
    simp only [ev_h] at hs
    split at hs
    · rename_i v j a r
      split at hs
      · rename_i t n hz2
        split at hs
        · rename_i hz
          obtain ⟨ht, hj⟩ := hz
          simp only [Option.some.injEq, Prod.mk.injEq] at hs
          obtain ⟨rfl, rfl⟩ := hs
          obtain ⟨ws, tys, hK, hP, hD, hr9⟩ := hw
          obtain ⟨hlw, hla, hr⟩ := id hr9
          obtain ⟨q, E, hq, hws, hE⟩ := hr _ _ _ hz2
          obtain ⟨K, rfl, hKS15⟩ := sd_l_i hS
          obtain ⟨K, rfl, hKS16⟩ := sd_l_i hKS15
          obtain ⟨q2, K, hq2, rfl, hKS17⟩ := sd_l_r hKS16
          cases Option.some.inj (hq.symm.trans hq2)
          have hnew : ∀ (cA : ClassId) (H1 : Heap) (locs1 : List Loc), (cA, ev_ty t) ∈ tys → (∀ k, fits (ev_ty t) (.int (hp_z h a k)) = true) → 64 ≤ t → t < 100 → va_P D vwCl (ws.set a (q, .inl (cA, n, .inl (upd (hp_z h a) j.toNatClampNeg (vp_nar (ev_ty t) v))))) H1 → va_D A (ws.set a (q, .inl (cA, n, .inl (upd (hp_z h a) j.toNatClampNeg (vp_nar (ev_ty t) v))))) → va_S A s.heap H1 locs1 → W p l e R s m args below meth c H1 locs1 cells slots Q (F0 m (pc + 1) ls K) := by
            intro cA H1 locs1 hm hfit h64 h100 hP1 hD1 hS1
            refine kw rfl rfl H1 locs1 K ⟨_, tys, hK, hP1, hD1, sd_r_set hr9 hz2 hq ?_ rfl (fun j hj => va_up_ne _ _ hj) (fun _ _ => rfl)⟩ hS1 hKS17
            have e1 : hp_z (hp_zw h a (upd (hp_z h a) j.toNatClampNeg (vp_nar (ev_ty t) v))) a = upd (hp_z h a) j.toNatClampNeg (vp_nar (ev_ty t) v) := va_up_self _ _ _
            rw [e1]
            refine Or.inr (Or.inl ⟨h64, h100, cA, rfl, hm, fun k9 => ?_⟩)
            by_cases e9 : k9 = j.toNatClampNeg
            · rw [e9, pk_us]; exact ev_fitN t v
            · rw [pk_un e9]; exact hfit k9
          rcases ht with rfl | rfl
          · obtain ⟨cA, rfl, hm, hfit⟩ := sd_e_a hE (by decide) (by decide)
            obtain ⟨t0, ht0⟩ := List.getElem?_of_mem hm
            exact va_bast hx hb hK hP hD hSt a t0 hws ht0 (ev_in_of hj) hd (fun H1 locs1 hP1 hD1 hS1 => hnew cA H1 locs1 hm hfit (by decide) (by decide) hP1 hD1 hS1)
          · obtain ⟨cA, rfl, hm, hfit⟩ := sd_e_a hE (by decide) (by decide)
            obtain ⟨t0, ht0⟩ := List.getElem?_of_mem hm
            exact va_zast hx hb hK hP hD hSt a t0 hws ht0 (ev_in_of hj) hd (fun H1 locs1 hP1 hD1 hS1 => hnew cA H1 locs1 hm hfit (by decide) (by decide) hP1 hD1 hS1)
        · cases hs
      · cases hs
    · cases hs
  | aastore =>
    simp only [ev_h] at hs
    split at hs
    · rename_i v j a r
      split at hs
      · rename_i t n hz2
        split at hs
        · rename_i hz
          obtain ⟨ht, hj, hv9, h64⟩ := hz
          simp only [Option.some.injEq, Prod.mk.injEq] at hs
          obtain ⟨rfl, rfl⟩ := hs
          obtain ⟨ws, tys, hK, hP, hD, hr9⟩ := hw
          obtain ⟨hlw, hla, hr⟩ := id hr9
          obtain ⟨q, E, hq, hws, hE⟩ := hr _ _ _ hz2
          obtain ⟨qv, Ev, hqv, hwsv, hEv⟩ := hr _ _ _ hv9
          obtain ⟨fs, rfl, hfs⟩ := sd_e_o hEv h64
          obtain ⟨v2, K, hv2, rfl, hKS18⟩ := sd_l_r hS
          cases Option.some.inj (hqv.symm.trans hv2)
          obtain ⟨K, rfl, hKS19⟩ := sd_l_i hKS18
          obtain ⟨q2, K, hq2, rfl, hKS20⟩ := sd_l_r hKS19
          cases Option.some.inj (hq.symm.trans hq2)
          obtain ⟨cA, f, rfl, hm, hf⟩ := sd_e_q hE ht
          obtain ⟨t0, ht0⟩ := List.getElem?_of_mem hm
          obtain ⟨r9, hr8, -⟩ := hP _ _ hwsv
          have hr8 : vwCl[t - 100]? = some r9 := hr8
          have en : ev_cn (t - 100) = r9.1 := by unfold ev_cn; rw [hr8]
          rw [en] at ht0
          refine va_astq hx hb hK hP hD hSt a t0 v (t - 100) hws ht0 hwsv hr8 (ev_in_of hj) hd (fun H1 locs1 hP1 hD1 hS1 => ?_)
          refine kw rfl rfl H1 locs1 K ⟨_, tys, hK, hP1, hD1, sd_r_set hr9 hz2 hq ?_ rfl (fun _ _ => rfl) (fun j hj => va_up_ne _ _ hj)⟩ hS1 hKS20
          have e1 : hp_p (hp_pw h a j.toNatClampNeg (some v)) a = va_up (hp_p h a) j.toNatClampNeg (some v) := va_up_self _ _ _
          rw [e1]
          refine Or.inr (Or.inr ⟨ht, cA, _, rfl, hm, fun k9 => ?_⟩)
          by_cases e9 : k9 = j.toNatClampNeg
          · rw [e9, va_up_self, va_up_self]; exact ⟨qv, hqv, rfl⟩
          · rw [va_up_ne _ _ e9, va_up_ne _ _ e9]; exact hf k9
        · cases hs
      · cases hs
    · cases hs
  | arraylength =>
    simp only [ev_h] at hs
    split at hs
    · rename_i a r
      split at hs
      · rename_i t n hz2
        split at hs
        · rename_i ht
          simp only [Option.some.injEq, Prod.mk.injEq] at hs
          obtain ⟨rfl, rfl⟩ := hs
          obtain ⟨ws, tys, hK, hP, hD, hlw, hla, hr⟩ := hw
          obtain ⟨q, E, hq, hws, hE⟩ := hr _ _ _ hz2
          obtain ⟨q2, K, hq2, rfl, hKS21⟩ := sd_l_r hS
          cases Option.some.inj (hq.symm.trans hq2)
          by_cases h100 : t < 100
          · obtain ⟨cA, rfl, hm, -⟩ := sd_e_a hE ht h100
            obtain ⟨t0, ht0⟩ := List.getElem?_of_mem hm
            exact va_alen hx hb hK hP a t0 hws ht0 rfl hd (kr rfl _ ⟨rfl, hKS21⟩)
          · obtain ⟨cA, f, rfl, hm, -⟩ := sd_e_q hE (by omega)
            obtain ⟨t0, ht0⟩ := List.getElem?_of_mem hm
            exact va_alen hx hb hK hP a t0 hws ht0 rfl hd (kr rfl _ ⟨rfl, hKS21⟩)
        · cases hs
      · cases hs
    · cases hs
  | newarray y =>
    simp only [ev_h] at hs
    split at hs
    · rename_i n r
      split at hs
      · rename_i hz
        obtain ⟨hz1, hz2, hz3⟩ := hz
        simp only [Option.some.injEq, Prod.mk.injEq] at hs
        obtain ⟨rfl, rfl⟩ := hs
        obtain ⟨ws, tys, hK, hP, hD, hr9⟩ := hw
        obtain ⟨K, rfl, hKS22⟩ := sd_l_i hS
        have hla : ad.length = h.1.length := hr9.2.1
        have hcc : cells + 1 + c0 = hp_c h + 1 := by omega
        have hss : slots + n.toNatClampNeg + s0 = hp_s h + n.toNatClampNeg := by omega
        have hRc2 : cells + 1 ≤ R.cells := by
          have h9 : hp_c h + 1 ≤ R.cells + c0 := hRc
          omega
        have hRs2 : slots + n.toNatClampNeg ≤ R.slots := by
          have h9 : hp_s h + n.toNatClampNeg ≤ R.slots + s0 := hRs
          omega
        have hnew : ∀ (ty : FieldType) (q : Nat) (cA : ClassId) (H1 : Heap), ev_ty (ev_at y) = ty → ev_at y < 100 → va_K D vwCl (tys ++ [(cA, ty)]) s → va_P D vwCl (ws ++ [(q, .inl (cA, n.toNatClampNeg, .inl (fun _ => 0)))]) H1 → va_D A (ws ++ [(q, .inl (cA, n.toNatClampNeg, .inl (fun _ => 0)))]) → va_S A s.heap H1 locs → W p l e R s m args below meth c H1 locs (cells + 1) (slots + n.toNatClampNeg) Q (F0 m (pc + 2) ls (.ref q :: K)) := by
          intro ty q cA H1 ety h100 hK1 hP1 hD1 hS1
          refine kk [q] H1 locs (.ref q :: K) _ _ ⟨_, _, hK1, hP1, hD1, sd_r_new hr9 ?_⟩ hS1 ⟨⟨q, by rw [← hla, List.getElem?_append_right (Nat.le_refl _)]; simp, rfl⟩, sd_l_mono hKS22⟩ hcc hss
          refine Or.inr (Or.inl ⟨hz3, h100, cA, rfl, ?_, fun _ => ev_fit0 _⟩)
          rw [ety]; exact List.mem_append_right _ List.mem_cons_self
        cases y with
        | int => exact va_newa hx hb hok rfl hK hP hD hSt hA (a0 := (n.toNatClampNeg, .inl (fun _ => 0))) (fun _ => rfl) hz1 rfl (by show n.toNatClampNeg * 4 ≤ 536870912; omega) hRc2 hRs2 hd (fun q cA H1 h1 h2 h3 h4 => hnew _ q cA H1 rfl (by decide) h1 h2 h3 h4)
        | byte => exact va_newa hx hb hok rfl hK hP hD hSt hA (a0 := (n.toNatClampNeg, .inl (fun _ => 0))) (fun _ => rfl) hz1 rfl (by show n.toNatClampNeg * 1 ≤ 536870912; omega) hRc2 hRs2 hd (fun q cA H1 h1 h2 h3 h4 => hnew _ q cA H1 rfl (by decide) h1 h2 h3 h4)
        | boolean => exact va_newa hx hb hok rfl hK hP hD hSt hA (a0 := (n.toNatClampNeg, .inl (fun _ => 0))) (fun _ => rfl) hz1 rfl (by show n.toNatClampNeg * 1 ≤ 536870912; omega) hRc2 hRs2 hd (fun q cA H1 h1 h2 h3 h4 => hnew _ q cA H1 rfl (by decide) h1 h2 h3 h4)
        | _ => exact absurd hz3 (by decide)
      · cases hs
    · cases hs
  | anewarray x =>
    simp only [ev_h] at hs
    split at hs
    · rename_i n r
      split at hs
      · rename_i hz
        obtain ⟨hz1, hz2, hz3⟩ := hz
        simp only [Option.some.injEq, Prod.mk.injEq] at hs
        obtain ⟨rfl, rfl⟩ := hs
        obtain ⟨C, T, N, hc1, hlk, hao⟩ := hok hz3
        obtain ⟨ws, tys, hK, hP, hD, hr9⟩ := hw
        obtain ⟨K, rfl, hKS23⟩ := sd_l_i hS
        have hla : ad.length = h.1.length := hr9.2.1
        have hcc : cells + 1 + c0 = hp_c h + 1 := by omega
        have hss : slots + n.toNatClampNeg + s0 = hp_s h + n.toNatClampNeg := by omega
        have hRc2 : cells + 1 ≤ R.cells := by
          have h9 : hp_c h + 1 ≤ R.cells + c0 := hRc
          omega
        have hRs2 : slots + n.toNatClampNeg ≤ R.slots := by
          have h9 : hp_s h + n.toNatClampNeg ≤ R.slots + s0 := hRs
          omega
        refine va_newq hx hb hown hlk hao hK hP hD hSt hA hz1 rfl (by omega) hRc2 hRs2 hd (fun q cA H1 hK1 hP1 hD1 hS1 => ?_)
        refine kk [q] H1 locs (.ref q :: K) _ _ ⟨_, _, hK1, hP1, hD1, sd_r_new hr9 ?_⟩ hS1 ⟨⟨q, by rw [← hla, List.getElem?_append_right (Nat.le_refl _)]; simp, rfl⟩, sd_l_mono hKS23⟩ hcc hss
        refine Or.inr (Or.inr ⟨by omega, cA, _, rfl, ?_, fun _ => rfl⟩)
        have en : ev_cn (100 + (rs x).2.1 - 100) = C := by
          rw [Nat.add_sub_cancel_left]
          unfold ev_cn
          rw [hc1]
        rw [en]; exact List.mem_append_right _ List.mem_cons_self
      · cases hs
    · cases hs
  | new x =>
    simp only [ev_h] at hs
    split at hs
    · rename_i hz
      obtain ⟨hz1, h64⟩ := hz
      simp only [Option.some.injEq, Prod.mk.injEq] at hs
      obtain ⟨rfl, rfl⟩ := hs
      obtain ⟨C, T, hc1, hin, hlk, hinst, hini⟩ := hok hz1
      obtain ⟨-, hN, hty, hnm, hdf⟩ := hcl _ _ _ _ hc1
      obtain ⟨ws, tys, hK, hP, hD, hr9⟩ := hw
      have hla : ad.length = h.1.length := hr9.2.1
      have hcc : cells + 1 + c0 = hp_c h + 1 := by omega
      have hss : slots + (rs x).2.2.1 + s0 = hp_s h + (rs x).2.2.1 := by omega
      have hRc2 : cells + 1 ≤ R.cells := by
        have h9 : hp_c h + 1 ≤ R.cells + c0 := hRc
        omega
      have hRs2 : slots + (rs x).2.2.1 ≤ R.slots := by
        have h9 : hp_s h + (rs x).2.2.1 ≤ R.slots + s0 := hRs
        omega
      refine va_new hx hb hts hin _ hty hown hlk hinst hini hK hP hD hSt hA hc1 (sd_def _ _) hRc2 hRs2 hd (fun q H1 hP1 hD1 hS1 => ?_)
      refine kk [q] H1 locs (.ref q :: S) _ _ ⟨_, tys ++ [], by rw [List.append_nil]; exact hK, hP1, hD1, sd_r_new hr9 (t2 := []) ?_⟩ hS1 ⟨⟨q, by rw [← hla, List.getElem?_append_right (Nat.le_refl _)]; simp, rfl⟩, sd_l_mono hS⟩ hcc hss
      exact Or.inl ⟨h64, _, rfl, sd_fnew hN hdf⟩
    · cases hs
  | invokespecial x =>
    simp only [ev_h] at hs
    split at hs
    · rename_i a r
      split at hs
      · rename_i hz
        obtain ⟨hz1, hz2⟩ := hz
        simp only [Option.some.injEq, Prod.mk.injEq] at hs
        obtain ⟨rfl, rfl⟩ := hs
        obtain ⟨h1, h2, h3⟩ := hok hz1
        obtain ⟨q2, K, hq2, rfl, hKS24⟩ := sd_l_r hS
        have hsum := sd_l_sum hKS24
        refine W.objInit hx hb hown h1 h2 h3 rfl (by rw [hml]; exact hsz) rfl hd hRf (Nat.le_trans (Nat.add_le_add_right (lv_room (by rw [hsum]; exact hz2)) 12) (by omega)) ?_
        exact kr rfl _ hKS24
      · cases hs
    · cases hs
  | invokestatic x =>
    simp only [ev_h] at hs
    split at hs
    · rename_i v w b u a r
      split at hs
      · rename_i hz
        obtain ⟨hz1, hz2⟩ := hz
        split at hs
        · rename_i t n t2 n2 hka hkb
          split at hs
          · rename_i hy
            obtain ⟨rfl, h64, h100, hu, hw9, hv, h4, h5⟩ := hy
            simp only [Option.some.injEq, Prod.mk.injEq] at hs
            obtain ⟨rfl, rfl⟩ := hs
            obtain ⟨y1, y2, y3, y4⟩ := hok.1 hz1
            obtain ⟨ws, tys, hK, hP, hD, hr9⟩ := hw
            obtain ⟨hlw, hla, hr⟩ := id hr9
            obtain ⟨qa, Ea, hqa, hwa, hEa⟩ := hr _ _ _ hka
            obtain ⟨qb, Eb, hqb, hwb, hEb⟩ := hr _ _ _ hkb
            obtain ⟨cA, rfl, hma, hfa⟩ := sd_e_a hEa h64 h100
            obtain ⟨cB, rfl, hmb, hfb⟩ := sd_e_a hEb h64 h100
            obtain ⟨ta, hta⟩ := List.getElem?_of_mem hma
            obtain ⟨tb, htb⟩ := List.getElem?_of_mem hmb
            obtain ⟨K, rfl, hKS25⟩ := sd_l_i hS
            obtain ⟨K, rfl, hKS26⟩ := sd_l_i hKS25
            obtain ⟨qb2, K, hqb2, rfl, hKS27⟩ := sd_l_r hKS26
            cases Option.some.inj (hqb.symm.trans hqb2)
            obtain ⟨K, rfl, hKS28⟩ := sd_l_i hKS27
            obtain ⟨qa2, K, hqa2, rfl, hKS29⟩ := sd_l_r hKS28
            cases Option.some.inj (hqa.symm.trans hqa2)
            have hsum := sd_l_sum hKS29
            have hprim : refKind (ev_ty t) = false := by
              unfold ev_ty
              split
              · rfl
              · split
                · rfl
                · rfl
            have hnw : nativeFrameWords "java/lang/System" "arraycopy" 5 + 11 ≤ 50 := by decide
            refine va_copyi hx hb (by rw [hml]; exact hsz.symm) hown y1 y2 y3 y4 hK hP hD hSt a b ta tb hwa hwb hta htb hprim hu hw9 hv h4 h5 (fun i9 _ => hfa _) hRf (by rw [hsum]; omega) hd (fun H1 locs1 hP1 hD1 hS1 => ?_)
            refine kw rfl rfl H1 locs1 K ⟨_, tys, hK, hP1, hD1, sd_r_set hr9 hkb hqb ?_ rfl (fun j hj => va_up_ne _ _ hj) (fun _ _ => rfl)⟩ hS1 hKS29
            have e1 : hp_z (hp_zw h b (va_cpy (hp_z h a) (hp_z h b) u.toNatClampNeg w.toNatClampNeg v.toNatClampNeg)) b = va_cpy (hp_z h a) (hp_z h b) u.toNatClampNeg w.toNatClampNeg v.toNatClampNeg := va_up_self _ _ _
            rw [e1]
            refine Or.inr (Or.inl ⟨h64, h100, cB, rfl, hmb, fun k9 => ?_⟩)
            unfold va_cpy
            split
            · exact hfa _
            · exact hfb _
          · cases hs
        · cases hs
      · cases hs
    · rename_i y w r hno
      split at hs
      · rename_i hz
        obtain ⟨hz1, hz2⟩ := hz
        simp only [Option.some.injEq, Prod.mk.injEq] at hs
        obtain ⟨rfl, rfl⟩ := hs
        obtain ⟨y1, y2, y3, y4⟩ := hok.2.1 hz1
        obtain ⟨K, rfl, hKS30⟩ := sd_l_i hS
        obtain ⟨K, rfl, hKS31⟩ := sd_l_i hKS30
        have hsum := sd_l_sum hKS31
        exact va_mmax hx hb (by rw [hml]; exact hsz.symm) hown y1 y2 y3 y4 hRf (by rw [hsum]; omega) (by omega) (by omega) hd (kr rfl _ ⟨rfl, hKS31⟩)
      · split at hs
        · rename_i hz
          obtain ⟨hz1, hz2⟩ := hz
          simp only [Option.some.injEq, Prod.mk.injEq] at hs
          obtain ⟨rfl, rfl⟩ := hs
          obtain ⟨y1, y2, y3, y4⟩ := hok.2.2 hz1
          obtain ⟨K, rfl, hKS32⟩ := sd_l_i hS
          obtain ⟨K, rfl, hKS33⟩ := sd_l_i hKS32
          have hsum := sd_l_sum hKS33
          exact va_mmin hx hb (by rw [hml]; exact hsz.symm) hown y1 y2 y3 y4 hRf (by rw [hsum]; omega) (by omega) (by omega) hd (kr rfl _ ⟨rfl, hKS33⟩)
        · cases hs
    · cases hs
  | _ => cases hs
end StepB
end
section
section ThrownA
-- the four words of a throw that speak of the heap
def sx_h (U : State) : Prop := ((Jvm.Cond.laysStatic Bundle.tN "UNASSIGNED_STACK" Bundle.steD).before #[] U = true ∧ (Jvm.Cond.isRef (.static Bundle.tN "UNASSIGNED_STACK" Bundle.steD)).before #[] U = true) ∧ ((Jvm.Cond.laysStatic Bundle.tN "SUPPRESSED_SENTINEL" Bundle.listD).before #[] U = true ∧ (Jvm.Cond.isRef (.static Bundle.tN "SUPPRESSED_SENTINEL" Bundle.listD)).before #[] U = true)
theorem sx_kept {s U : State} {a1 a2 : Array Value} {C n d : String} (hl : (Jvm.Cond.laysStatic C n d).before a1 s = true) (hr : (Jvm.Cond.isRef (.static C n d)).before a1 s = true) (hvm : s.vm.Alike U.vm) (hk : ∀ (a : Nat) (cell : Cell), s.heap[a]? = some cell → cell.vm.isStatics = true → U.heap[a]? = some cell) :
    (Jvm.Cond.laysStatic C n d).before a2 U = true ∧ (Jvm.Cond.isRef (.static C n d)).before a2 U = true := by
  obtain ⟨c, k, i, fd, a, cell, hc, hf, hst, hsta, hcell, hiss, hcls, hlt, hty⟩ := Cond.laysStatic_spec hl
  obtain ⟨k2, hf2, he⟩ := State.fieldFound?_setVm hvm hf
  have hf2 : U.fieldFound? C n d = some (c, k2, i, fd) := hf2
  have hc2 : U.vm.findClass C = some c := by rw [hvm.findClass]; exact hc
  have hcell2 := hk a cell hcell hiss
  have hsta2 : k2.statics = some a := by rw [he]; exact hsta
  have hty2 : k2.staticTypes[fd.slot]? = some fd.type := by rw [he]; exact hty
  have hv : cell.slots[fd.slot]? = some cell.slots[fd.slot] := Array.getElem?_eq_getElem hlt
  refine ⟨by simp [Cond.before, Cond.holds, Cond.value, hc2, hf2, hst, hsta2, hcell2, hiss, hcls, hlt, hty2], ?_⟩
  have e1 : (Term.static C n d).eval a1 s none [] s = some cell.slots[fd.slot] := by simp [Term.eval, State.fieldNamed?, hf, hst, hsta, hcell, hiss, hv]
  have e2 : (Term.static C n d).eval a2 U none [] U = some cell.slots[fd.slot] := by simp [Term.eval, State.fieldNamed?, hf2, hst, hsta2, hcell2, hiss, hv]
  simp only [Cond.before, Cond.holds, Cond.value, e1] at hr
  simp only [Cond.before, Cond.holds, Cond.value, e2]
  exact hr
theorem sx_hmoved {s U : State} (h : sx_h s) (hvm : s.vm.Alike U.vm) (hk : ∀ (a : Nat) (cell : Cell), s.heap[a]? = some cell → cell.vm.isStatics = true → U.heap[a]? = some cell) : sx_h U := ⟨sx_kept h.1.1 h.1.2 hvm hk, sx_kept h.2.1 h.2.2 hvm hk⟩
-- a method that throws: what its caller gets
def sx_T (X : State → State → Prop) (E : String) (st : State) (a : Addr) (t : State) (mc ms : Nat) (free : Addr → Prop) : Prop := ∃ (ce : Cell) (L : List Loc), X st t ∧ t.heap[a]? = some ce ∧ ce.vm = .none ∧ st.vm.findClass E = some ce.cls ∧ st.WarmedH t.vm ∧ st.sameButNew ({ t with vm := st.vm } : State) L mc ms ∧ ∀ z ∈ L, free z.base
def sx_Met (l : Launch) (y : MethodName) (ws : List Jvm.Cond) (rm : Room) (Pc : Array Value → State → Prop) (X : State → State → Prop) (E : String) (mc ms : Nat) (free : Addr → Prop) : Prop := MetFree l y (headSpec ws rm) Pc (fun _ _ _ _ _ => True) (fun _ st o t => ∃ a : Addr, o = .threw a ∧ sx_T X E st a t mc ms free)
def sx_Q (below : List Frame) (X : State → State → Prop) (E : String) (s : State) (mc ms : Nat) (free : Addr → Prop) : State → Prop := fun t => ∃ a : Addr, t.status = .running ∧ Ended t below (.threw a) ∧ sx_T X E s a t mc ms free
theorem sx_ofW {l : Launch} {y : MethodName} {ws ws' : List Jvm.Cond} {rm : Room} {Pc : Array Value → State → Prop} {X : State → State → Prop} {E : String} {mc ms : Nat} {free : Addr → Prop} {cc : ByteArray} {maxL : Nat} {ret : Option FieldType}
    (hy : plainName y.cls = true) (hw : ws = Jvm.Cond.code y cc maxL ret :: ws')
    (body : ∀ p e s m args below meth c s₁, BodyLoose p l y (headSpec ws rm) cc maxL ret e s m args below meth c s₁ → c.maxLocals = maxL → Pc args s →
      W p l e (headSpec ws rm).room s m args below meth c s.heap [] 0 0 (sx_Q below X E s mc ms free) (entryFrame m args maxL)) : sx_Met l y ws rm Pc X E mc ms free := by
  refine MetFree.of_bodyS (code := cc) (maxLocals := maxL) (ret := ret) hy ?_ ?_
  · intro args s m h hn
    obtain ⟨meth, c, h1, h2, h3, h4, h5, h6, -, -⟩ := Cond.code_spec hn (atoms_spec (ws := ws) h _ (by rw [hw]; exact List.mem_cons_self))
    exact ⟨meth, c, h1, h2, h3, h4, h5, h6⟩
  · intro p e s m args below meth c s₁ B hml hP _
    have hh0 : s₁.heap = s.heap := by rw [B.state]; rfl
    obtain ⟨t, a1, a, b1, b2, b3⟩ := body p e s m args below meth c s₁ B hml hP s₁ hh0 (Stand.of_body B)
    exact ⟨t, .threw a, a1, b1, b2, a, rfl, b3⟩
theorem sx_notable {p : Program} {l : Launch} {y : MethodName} {ws ws' : List Jvm.Cond} {rm : Room} {cc : ByteArray} {maxL : Nat} {ret : Option FieldType} {e : Env} {s s₁ : State} {m : MethodId} {args : Array Value} {below : List Frame} {meth : Method} {c : Code} (B : BodyLoose p l y (headSpec ws rm) cc maxL ret e s m args below meth c s₁) (hw : ws = Jvm.Cond.code y cc maxL ret :: ws') : ∀ x ∈ c.exceptionTable.toList, False := by
  obtain ⟨meth9, c9, h1, h2, -, -, -, -, h7, -⟩ := Cond.code_spec B.named (atoms_spec (ws := ws) B.pre _ (by rw [hw]; exact List.mem_cons_self))
  cases Option.some.inj (h1.symm.trans B.method)
  cases Option.some.inj (h2.symm.trans (Stand.of_body B).code)
  intro x hx
  rw [Array.isEmpty_iff.mp h7] at hx
  cases hx
end ThrownA
section ThrownB
variable {l : Launch} {R : Room} {p : Program} {e : Env} {below : List Frame} {s : State} {args : Array Value} {m : MethodId} {meth : Method} {c : Code} {T : State} {locs : List Loc} {cells slots : Nat} {H : Heap}
-- the frame g with q thrown over it
def sx_W (p : Program) (l : Launch) (e : Env) (R : Room) (s : State) (m : MethodId) (args : Array Value) (below : List Frame) (meth : Method) (c : Code) (H : Heap) (locs : List Loc) (cells slots : Nat) (Q : State → Prop) (g : JFrame) (q : Addr) : Prop :=
  ∀ T : State, T.heap = H → Stand p l e R s m args below meth c T locs cells slots → ∃ t, Steps p.tables e below ((T.setTop g).pushFrame (.throwing q)) t ∧ Q t
-- the state behind a call that threw
theorem sx_pay {y : MethodName} {ws : List Jvm.Cond} {rm : Room} {Pc : Array Value → State → Prop} {X9 : State → State → Prop} {E : String} {mc ms : Nat} {free : Addr → Prop} {bytes : ByteArray} {maxL : Nat} {ret : Option FieldType}
    (hM : sx_Met l y ws rm Pc X9 E mc ms free) (hblind : FrameBlind Pc) (hrc : rm.cells = mc) (hrs : rm.slots = ms) (hframes : rm.frames + 1 ≤ R.frames) (hlocals : 8 + (maxL + 11) + rm.locals ≤ R.locals)
    (hws : ∀ w ∈ ws, ∀ (a' : Array Value) (U : State), s.WarmedH U.vm → w.before a' U = true) (hcode : Jvm.Cond.code y bytes maxL ret ∈ ws) (hinit : ∀ (a' : Array Value) (U : State), s.WarmedH U.vm → (Jvm.Cond.initialized y.cls).before a' U = true)
    (X : Stand p l e R s m args below meth c T locs cells slots) {g : JFrame} (hg : g.method = m) (hsize : g.locals.size = c.maxLocals) {ig : Instr} {len : Nat} (hdg : decode c.code g.pc = .ok (ig, len)) (hW : 2 * g.monitorRoom + (g.stack.map fun v => v.category).sum ≤ 8) {mk : MethodId} (hn : T.methodNamed? y = some mk) {a : Array Value}
    (hf : cells + mc ≤ R.cells ∧ slots + ms ≤ R.slots) (hpc : Pc a T) :
    ∃ (q : Addr) (t T' : State) (L : List Loc) (ce : Cell), X9 (T.calling g mk a) t ∧ t.heap[q]? = some ce ∧ ce.vm = .none ∧ s.vm.findClass E = some ce.cls ∧ (∀ z ∈ L, free z.base) ∧ T'.heap = t.heap ∧ T'.vm = t.vm ∧ Stand p l e R s m args below meth c T' (locs ++ L) (cells + mc) (slots + ms) ∧ Steps p.tables e below (doInvoke e (T.setTop g) [] mk a).1 ((T'.setTop g).pushFrame (.throwing q)) := by
  have hpre : (headSpec ws rm).pre.before a T = true := atoms_intro fun w hw => hws w hw _ _ X.warmed
  have hco : (Jvm.Cond.code y bytes maxL ret).before a T = true := hws _ hcode _ _ X.warmed
  have hin : (Jvm.Cond.initialized y.cls).before a T = true := hinit _ _ X.warmed
  obtain ⟨methY, cY, hmY, hcY, -, hlY, -, -, -, -⟩ := Cond.code_spec hn hco
  obtain ⟨kY, hkY, -⟩ := className_of_methodNamed hn
  have hinitY : kY.init = .initialized := Cond.initialized_spec (findClass_of_methodNamed hn) hkY hin
  have h : At T g.method c below := by rw [hg]; exact X.here
  have happ : (headSpec ws rm).appliesLoose y e.platform (T.calling g mk a) = true :=
    Spec.appliesLoose_calling (g := g) h hdg hn hkY hinitY
      (X.room_calling (g := g) (R' := (headSpec ws rm).room) hsize hmY hcY hframes (by rw [hlY]; show 2 * g.monitorRoom + (g.stack.map fun v => v.category).sum + (maxL + 11) + rm.locals ≤ R.locals; omega) (by show cells + rm.cells ≤ _; rw [hrc]; exact hf.1) (by show slots + rm.slots ≤ _; rw [hrs]; exact hf.2)) hpre
  obtain ⟨mid, hmid⟩ := h.above
  have hfr : (T.setTop g).frames = (.java g :: mid) ++ below := by rw [State.frames_setTop' g h.top, hmid]; rfl
  obtain ⟨o, s₂, hsteps, -, hend, hq⟩ := Steps.callFree hM p X.admits X.cas X.clock (acts := []) hfr happ (hblind _ _ _ _ hpc) trivial
  have hq : ∃ a1 : Addr, o = .threw a1 ∧ sx_T X9 E (T.calling g mk a) a1 s₂ mc ms free := hq
  obtain ⟨q, rfl, ce, L, hX9, hce, hcv, hcl, hW₂, hsm, hL⟩ := hq
  rw [State.frames_setTop' g h.top] at hend
  obtain ⟨e2, q2, q3, q4, q5, q6⟩ := id hsm
  have hend : s₂.frames = .throwing q :: .java g :: T.frames.tail := hend
  have e3 : s₂ = ({ (T.calling g mk a).setFrames s₂.frames with heap := s₂.heap, slotsUsed := s₂.slotsUsed } : State).setVm s₂.vm := by
    have h9 : s₂ = ({ s₂ with vm := (T.calling g mk a).vm } : State).setVm s₂.vm := rfl
    rw [e2] at h9
    exact h9
  have hW' : T.WarmedH s₂.vm := hW₂
  obtain ⟨g₀, hg0⟩ := Option.isSome_iff_exists.mp h.top
  obtain ⟨r, hr⟩ := State.topJava?_eq_some.mp hg0
  have hs₂ : s₂ = ((({ T with heap := s₂.heap, slotsUsed := s₂.slotsUsed } : State).setVm s₂.vm).setTop g).pushFrame (.throwing q) := by
    have hr' : (({ T with heap := s₂.heap, slotsUsed := s₂.slotsUsed } : State).setVm s₂.vm).frames = .java g₀ :: r := hr
    refine e3.trans ?_
    rw [hend, State.calling_eq h.top, State.setFrames_setFrames, State.setTop_of_frames _ hr', hr]
    have hcur := State.cur_lt_of_frames hr'
    unfold State.pushFrame
    rw [State.frames_setFrames _ hcur, State.setFrames_setFrames]
    rfl
  have hsame : T.sameButNew ({ T with heap := s₂.heap, slotsUsed := s₂.slotsUsed } : State) L mc ms := by
    refine ⟨?_, q2, q3, q4, q5, q6⟩
    obtain ⟨t, ht, -⟩ := State.frames_cons hr
    show ({ T with heap := s₂.heap, slotsUsed := s₂.slotsUsed } : State) = { T.setFrames T.frames with heap := s₂.heap, slotsUsed := s₂.slotsUsed }
    rw [State.setFrames_self ht]
  subst hg
  refine ⟨q, s₂, (({ T with heap := s₂.heap, slotsUsed := s₂.slotsUsed } : State).setVm s₂.vm), L, ce, hX9, hce, hcv, ?_, hL, rfl, rfl,
    ⟨X.admits, X.cas, X.clock, X.frames, X.room, X.hears, X.method, X.code, (X.here.setHeapUsed s₂.heap s₂.slotsUsed).setVm hW'.alike, X.tail, State.WarmedH.trans X.warmed hW', X.limits, X.bytes, X.same.trans (hsame.setVm s.vm)⟩, ?_⟩
  · have h9 : T.vm.findClass E = some ce.cls := hcl
    rw [X.warmed.alike.findClass] at h9
    exact h9
  · rw [← hs₂]
    exact hsteps
-- calls whose callee throws
theorem sx_callV (X : Stand p l e R s m args below meth c T locs cells slots) (hexec : p.tables.exec = Jvm.exec) {own C : String} {index : Nat} {y : MethodName} {bytes : ByteArray} {maxL : Nat} {ret : Option FieldType} {ws : List Jvm.Cond} {rm : Room} {Pc : Array Value → State → Prop} {X9 : State → State → Prop} {E : String} {mc ms n : Nat} {free : Addr → Prop}
    (hown : s.vm.findClass own = some m.cls) (hM : sx_Met l y ws rm Pc X9 E mc ms free) (cw : CallW R s args own C index y bytes maxL ret ws rm mc ms n) {b : Addr} {As rest : List Value} (hp : PreV s H C b Pc As) (hT : T.heap = H)
    {g : JFrame} (hg : g.method = m) (hn : As.length = n) (hsize : g.locals.size = c.maxLocals) (hstack : g.stack = As.reverse ++ .ref b :: rest) (hW : 2 * g.monitorRoom + (rest.map fun v => v.category).sum ≤ 8) (hdg : decode c.code g.pc = .ok (.invokevirtual index, 3)) (hf : cells + mc ≤ R.cells ∧ slots + ms ≤ R.slots) :
    ∃ (q : Addr) (st₀ t T' : State) (L : List Loc) (ce : Cell), st₀.heap = H ∧ X9 st₀ t ∧ t.heap[q]? = some ce ∧ ce.vm = .none ∧ s.vm.findClass E = some ce.cls ∧ (∀ z ∈ L, free z.base) ∧ T'.heap = t.heap ∧ T'.vm = t.vm ∧ Stand p l e R s m args below meth c T' (locs ++ L) (cells + mc) (slots + ms) ∧ Steps p.tables e below (T.setTop g) ((T'.setTop { g with stack := rest }).pushFrame (.throwing q)) := by
  obtain ⟨⟨hrc, hrs, hfr, hlo, hws, hcw, hcode, hini, hy, hlen, hl⟩, hin, hse⟩ := cw
  obtain ⟨hbl, ⟨cellB, hcB, hoB, hclB⟩, hPc⟩ := hp
  obtain ⟨mk, methM, hnamed, hmethM, hstM, habM⟩ := Cond.instanceMethod_spec hin
  obtain ⟨methM', cM, hmethM', -, -, -, -, -, -, hsigM⟩ := Cond.code_spec hnamed hcode
  cases hmethM.symm.trans hmethM'
  obtain ⟨c2, r2, m2, q1, q2, q3, q4, kP, hkP, hkPi⟩ := Cond.selects_spec hse
  cases hclB.symm.trans q1
  cases (State.methodFound?_of_named hnamed hy).symm.trans q2
  cases hnamed.symm.trans q3
  have hselP : selectMethod e.platform s.vm cellB.cls mk = .method mk := by rw [Launch.admits_selectMethod X.admits]; exact q4
  obtain ⟨vm₁, X₁, hstep₁⟩ := X.invokevirtual hexec hown hl hnamed hmethM hstM hkP hkPi hy (a := b) (cell := cellB) (by rw [hT]; exact hcB)
    (fun z h => by rw [h] at hoB; cases hoB) hselP hmethM habM hkP hkPi (g := g) hg (argsL := As) (rest := rest) (hn.trans (hlen _ hsigM)) hstack hdg
  obtain ⟨q, t, T', L, ce, h1, h2, h3, h4, h5, h6, h7, h8, h9⟩ := sx_pay (bytes := bytes) (maxL := maxL) (ret := ret) hM hbl hrc hrs hfr hlo hws hcw (fun a' U hW => word_at hW (Or.inl (by first | rfl | simp [Cond.onTables, Cond.keeps, Cond.steady])) hini) X₁ (g := { g with stack := rest }) hg hsize hdg hW (X₁.named hnamed) hf (hPc (T.setVm vm₁) hT X₁.warmed)
  exact ⟨q, (T.setVm vm₁).calling { g with stack := rest } mk (Value.ref b :: As).toArray, t, T', L, ce, hT, h1, h2, h3, h4, h5, h6, h7, h8, hstep₁ _ fun acts => by rw [doInvoke_state]; exact h9⟩
theorem sx_callS (X : Stand p l e R s m args below meth c T locs cells slots) (hexec : p.tables.exec = Jvm.exec) {own : String} {index : Nat} {y : MethodName} {bytes : ByteArray} {maxL : Nat} {ret : Option FieldType} {ws : List Jvm.Cond} {rm : Room} {Pc : Array Value → State → Prop} {X9 : State → State → Prop} {E : String} {mc ms n : Nat} {free : Addr → Prop}
    (hown : s.vm.findClass own = some m.cls) (hM : sx_Met l y ws rm Pc X9 E mc ms free) (cw : CallB R s args own index y bytes maxL ret ws rm mc ms n ∧ (Jvm.Cond.static y).before args s = true) {As rest : List Value} (hp : PreS s H Pc As) (hT : T.heap = H)
    {g : JFrame} (hg : g.method = m) (hn : As.length = n) (hsize : g.locals.size = c.maxLocals) (hstack : g.stack = As.reverse ++ rest) (hW : 2 * g.monitorRoom + (rest.map fun v => v.category).sum ≤ 8) (hdg : decode c.code g.pc = .ok (.invokestatic index, 3)) (hf : cells + mc ≤ R.cells ∧ slots + ms ≤ R.slots) :
    ∃ (q : Addr) (st₀ t T' : State) (L : List Loc) (ce : Cell), st₀.heap = H ∧ X9 st₀ t ∧ t.heap[q]? = some ce ∧ ce.vm = .none ∧ s.vm.findClass E = some ce.cls ∧ (∀ z ∈ L, free z.base) ∧ T'.heap = t.heap ∧ T'.vm = t.vm ∧ Stand p l e R s m args below meth c T' (locs ++ L) (cells + mc) (slots + ms) ∧ Steps p.tables e below (T.setTop g) ((T'.setTop { g with stack := rest }).pushFrame (.throwing q)) := by
  obtain ⟨⟨hrc, hrs, hfr, hlo, hws, hcw, hcode, hini, hy, hlen, hl⟩, hstt⟩ := cw
  obtain ⟨mk, hnamed⟩ := Cond.code_named hcode
  obtain ⟨methM, cM, hmethM, -, -, -, -, -, -, hsigM⟩ := Cond.code_spec hnamed hcode
  have hstatic : methM.isStatic = true := Cond.static_spec hnamed hmethM hstt
  obtain ⟨kP, hkP, -⟩ := className_of_methodNamed hnamed
  have hinitP : kP.init = .initialized := Cond.initialized_spec (findClass_of_methodNamed hnamed) hkP hini
  obtain ⟨vm₁, X₁, hstep₁⟩ := X.invokestatic hexec hown hl hnamed hmethM hstatic hkP hinitP hy (g := g) hg (argsL := As) (rest := rest) (hn.trans (hlen _ hsigM)) hstack hdg
  obtain ⟨q, t, T', L, ce, h1, h2, h3, h4, h5, h6, h7, h8, h9⟩ := sx_pay (bytes := bytes) (maxL := maxL) (ret := ret) hM hp.1 hrc hrs hfr hlo hws hcw (fun a' U hW => word_at hW (Or.inl (by first | rfl | simp [Cond.onTables, Cond.keeps, Cond.steady])) hini) X₁ (g := { g with stack := rest }) hg hsize hdg hW (X₁.named hnamed) hf (hp.2 (T.setVm vm₁) hT X₁.warmed)
  exact ⟨q, (T.setVm vm₁).calling { g with stack := rest } mk As.toArray, t, T', L, ce, hT, h1, h2, h3, h4, h5, h6, h7, h8, hstep₁ _ fun acts => by rw [doInvoke_state]; exact h9⟩
-- it leaves this method
theorem sx_out {pc : Nat} {ls : Array Slot} {rest : List Value} {X9 : State → State → Prop} {E : String} {ce : Cell} {q : Addr} {mc ms : Nat} {free : Addr → Prop} (hout : ∀ x ∈ c.exceptionTable.toList, False) (hlocks : meth.locks = false) (hcell : H[q]? = some ce) (hv : ce.vm = .none) (hcl : s.vm.findClass E = some ce.cls)
    (hx : ∀ t : State, t.heap = H → s.vm.Alike t.vm → X9 s t) (hf : ∀ z ∈ locs, free z.base) (hc : cells ≤ mc) (hs : slots ≤ ms) :
    sx_W p l e R s m args below meth c H locs cells slots (sx_Q below X9 E s mc ms free) (F0 m pc ls rest) q := by
  intro T hT X
  obtain ⟨st1, hrun, hend, hW, hsm⟩ := X.leaveThrown q (g := F0 m pc ls rest) rfl rfl rfl (fun x hx => (hout x hx).elim) hlocks
  refine ⟨_, st1, q, hrun, hend, ce, locs, hx _ hT hW.alike, ?_, hv, hcl, hW, hsm.mono hc hs, hf⟩
  show T.heap[q]? = some ce
  rw [hT]; exact hcell
end ThrownB
end
section
section ThrowA
variable {l : Launch} {R : Room} {p : Program} {e : Env} {below : List Frame} {s : State} {args : Array Value} {m : MethodId} {meth : Method} {c : Code} {T : State} {locs : List Loc} {cells slots : Nat} {H : Heap}
-- the same frame, its method taken as begun in this heap
theorem sx_anew (X : Stand p l e R s m args below meth c T locs cells slots) {R2 : Room} (hf : R2.frames ≤ R.frames) (hl : R2.locals ≤ R.locals) (hc : cells + R2.cells ≤ R.cells) (hs : slots + R2.slots ≤ R.slots) :
    Stand p l e R2 ((T.setVm s.vm).setFrames (.invoking m args :: below)) m args below meth c T [] 0 0 := by
  obtain ⟨g0, hfr⟩ := X.frames_eq
  have hcur : (T.setVm s.vm).cur < (T.setVm s.vm).threads.size := State.cur_lt_of_frames hfr
  have hF : ((T.setVm s.vm).setFrames (.invoking m args :: below)).frames = .invoking m args :: below := State.frames_setFrames _ hcur
  have hU : ((T.setVm s.vm).setFrames (.invoking m args :: below)).localsInUse = s.localsInUse := by
    rw [State.localsInUse_invoking hF (meth := meth) (c := c) X.method X.code, State.localsInUse_invoking X.frames X.method X.code]
  have e1 : ((T.setVm s.vm).setFrames (.invoking m args :: below)).me.stackBytes = s.me.stackBytes := by
    rw [State.stackBytes_setFrames]; exact X.bytes
  have e2 : e.platform.stackLimits ((T.setVm s.vm).setFrames (.invoking m args :: below)).me = e.platform.stackLimits s.me := by
    rw [State.stackLimits_setFrames]; exact X.limits
  refine ⟨X.admits, X.cas, X.clock, hF, ?_, X.hears, X.method, X.code, X.here, X.tail, X.warmed, X.limits.trans e2.symm, X.bytes.trans e1.symm, ?_⟩
  · have h := X.room
    have q1 := X.heapSize
    have q2 := X.used
    have q3 := X.frames
    simp only [State.hasRoom, Bool.and_eq_true, decide_eq_true_eq] at h ⊢
    obtain ⟨⟨⟨⟨h1, h2, h3, h4, h5, h6⟩, h7⟩, h8⟩, h9⟩ := h
    rw [q3] at h2 h3
    refine ⟨⟨⟨⟨by rw [hU]; omega, by rw [hF]; simp only [List.length_cons] at h2 ⊢; omega, by rw [hF, e2]; simp only [List.length_cons] at h3 ⊢; omega, by rw [hU]; omega, by rw [hU, e2]; omega, by rw [e1]; exact h6⟩, ?_⟩, ?_⟩, X.book⟩
    · show T.heap.size + R2.cells ≤ e.platform.maxCells
      omega
    · show T.slotsUsed + R2.slots ≤ e.platform.maxSlots
      omega
  · obtain ⟨t, ht, -⟩ := State.frames_cons hF
    have h9 := (State.sameButNew.refl ((T.setVm s.vm).setFrames (.invoking m args :: below)) ht).setFrames T.frames (State.cur_lt_of_frames hF)
    rw [State.setFrames_setFrames] at h9
    have hfr9 : (T.setVm s.vm).setFrames T.frames = T.setVm s.vm := by
      obtain ⟨t2, ht2, -⟩ := State.frames_cons (s := T.setVm s.vm) hfr
      exact State.setFrames_self ht2
    rw [hfr9] at h9
    exact h9
theorem sx_word {s U : State} {a1 a2 : Array Value} {w : Jvm.Cond} (hW : s.WarmedH U.vm) (ho : w.onTables = true) (hk : w.keepsFace = true) (h : w.before a1 s = true) : w.before a2 U = true := by
  have h1 : w.before a1 (s.setVm U.vm) = true := Cond.before_shiftedFace (State.Shifted.of_warmed hW) _ hk h
  rw [Cond.onTables_vm (A' := a2) (U' := U) U.vm w ho] at h1
  rwa [State.setVm_self] at h1
theorem sx_same {s U : State} {k n : Nat} (h : s.sameButNew ({ U with vm := s.vm } : State) [] k n) : s.heap.size ≤ U.heap.size ∧ ∀ q : Nat, q < s.heap.size → U.heap[q]? = s.heap[q]? := by
  obtain ⟨-, h2, -, -, -, h6⟩ := h
  refine ⟨h2, fun q hq => ?_⟩
  obtain ⟨c9, e1, e2, e3, e4⟩ := h6 q _ (Array.getElem?_eq_getElem hq)
  have hs : c9.slots = (s.heap[q]).slots := Array.ext_getElem? fun i => e4 i (by simp)
  rw [hs] at e2
  have e1 : U.heap[q]? = some c9 := e1
  rw [e1, e2, Array.getElem?_eq_getElem hq]
set_option maxHeartbeats 2000000 in
-- throw new E("text")
theorem sx_throw {cc : ByteArray} {pc : Nat} {ls : Array Slot} {rest : List Value} (hexec : p.tables.exec = Jvm.exec) (hb : c.code = cc) (htl : l.stackTraces = false) {own cls text : String} {names : List String} {ik is ic mc ms sa : Nat} {free : Addr → Prop} {X9 : State → State → Prop}
    (hown : s.vm.findClass own = some m.cls) (hcls : Bundle.fit cls = true) (hnames : ∀ n ∈ names, Bundle.fit n = true)
    (hk : (Jvm.Cond.classLink own ik cls).before args s = true) (hini : (Jvm.Cond.initialized cls).before args s = true) (hins : (Jvm.Cond.instantiable cls 6).before args s = true) (hstr : vk_R own is text sa s)
    (hat : ∀ U : State, U.vm = s.vm → U.heap = H → ∀ w ∈ Bundle.ownAtoms own ic cls names, w.before args U = true) (hsize : ls.size = c.maxLocals)
    (d0 : decode cc pc = .ok (.new ik, 3)) (d3 : decode cc (pc + 3) = .ok (.dup, 1)) (d4 : decode cc (pc + 4) = .ok (.ldc is, 2)) (d6 : decode cc (pc + 6) = .ok (.invokespecial ic, 3)) (d9 : decode cc (pc + 9) = .ok (.athrow, 1))
    (hout : ∀ x ∈ c.exceptionTable.toList, False) (hRf : names.length + 3 < R.frames) (hRl : (rest.map fun v => v.category).sum + (13 * (names.length + 1) + 43) ≤ R.locals) (hRc : cells + 1 ≤ R.cells) (hRs : slots + 6 ≤ R.slots) (hlocks : meth.locks = false)
    (hx : ∀ t : State, s.vm.Alike t.vm → H.size ≤ t.heap.size → (∀ q : Nat, q < H.size → t.heap[q]? = H[q]?) → X9 s t) (hf : ∀ z ∈ locs, free z.base) (hc : cells + 1 ≤ mc) (hs : slots + 6 ≤ ms) :
    W p l e R s m args below meth c H locs cells slots (sx_Q below X9 cls s mc ms free) (F0 m pc ls rest) := by
  intro T hT X
  have htr : e.platform.stackTraces = false := by rw [X.admits.platform]; exact htl
  have Y := sx_anew X (R2 := { frames := R.frames, locals := R.locals, cells := 1, slots := 6 }) (Nat.le_refl _) (Nat.le_refl _) hRc hRs
  generalize hs9 : (T.setVm s.vm).setFrames (.invoking m args :: below) = s9 at Y
  have hvm9 : s9.vm = s.vm := by rw [← hs9]; rfl
  have hh9 : s9.heap = H := by rw [← hs9]; exact hT
  have hW9 : s.WarmedH s9.vm := by rw [hvm9]; exact State.WarmedH.refl s
  have hown9 : s9.vm.findClass own = some m.cls := by rw [hvm9]; exact hown
  have hw9 : ∀ w : Jvm.Cond, w.onTables = true → w.keepsFace = true → w.before args s = true → w.before args s9 = true := fun w h1 h2 h3 => sx_word hW9 h1 h2 h3
  have hins9 := hw9 _ rfl rfl hins
  have key : W p l e { frames := R.frames, locals := R.locals, cells := 1, slots := 6 } s9 m args below meth c H [] 0 0 (fun t => ∃ a : Addr, t.status = .running ∧ Ended t below (.threw a) ∧ s9.WarmedH t.vm ∧ s9.sameButNew ({ t with vm := s9.vm } : State) [] 1 6 ∧ ∃ ce : Cell, t.heap[a]? = some ce ∧ ce.vm = .none ∧ s9.vm.findClass cls = some ce.cls) (F0 m pc ls rest) := by
    refine W.newc hexec hb hown9 (hw9 _ rfl rfl hk) hins9 (hw9 _ rfl rfl hini) rfl d0 (Nat.le_refl _) (Nat.le_refl _) (fun cX kX h1 h2 h3 h4 => ?_)
    refine W.eq (g2 := F0 m (pc + 3) ls (.ref H.size :: rest)) rfl ?_
    refine lv_dup hexec hb d3 rfl ?_
    refine va_ldcS hexec hb hown9 (vk_R.warm hW9 hstr) d4 ?_
    intro T2 hT2 X2
    obtain ⟨U, hsteps, hrun, hend, hW, hsm, ce, hce, K⟩ := X2.ctorThrowS hexec htr (own := own) (cls := cls) (names := names) (ic := ic) hown9 hcls hnames (hat s9 hvm9 hh9) (fun _ h => by cases h) h1 h2 (a := H.size) (by rw [hT2]; simp [freshCell]) (by rw [hh9]; exact Nat.le_refl _) (msg := .ref sa) rfl
      (g := F0 m (pc + 6) ls (.ref sa :: .ref H.size :: .ref H.size :: rest)) rfl hsize rfl rfl (rest := rest) rfl (by rw [hb]; exact d6) (by rw [hb]; exact d9) (fun x hx => (hout x hx).elim) hRf
      (by have h0 : (F0 m (pc + 6) ls (.ref sa :: .ref H.size :: .ref H.size :: rest)).monitorRoom = 0 := rfl
          have h8 : (Value.ref H.size).category = 1 := rfl
          rw [h0, List.map_cons, List.sum_cons, h8]; show _ ≤ R.locals; omega) hlocks
    exact ⟨U, hsteps, H.size, hrun, hend, hW, hsm, ce, hce, K.vm, K.cls⟩
  obtain ⟨t, st, a, hrun, hend, hW, hsm, ce, hce, hcv, hcl⟩ := key T hT Y
  obtain ⟨z1, z2⟩ := sx_same hsm
  rw [hh9] at z1 z2
  refine ⟨t, st, a, hrun, hend, ce, locs, hx t ?_ z1 z2, hce, hcv, by rw [← hvm9]; exact hcl, ?_, ?_, hf⟩
  · rw [← hvm9]; exact hW.alike
  · have h1 : s9.WarmedH t.vm := hW
    rw [← hs9] at h1
    exact h1
  · rw [← hs9] at hsm
    obtain ⟨e1, e2⟩ := hsm
    rw [State.setFrames_setFrames] at e1
    have h2 : (T.setVm s.vm).sameButNew ({ t with vm := s.vm } : State) [] 1 6 := ⟨e1, e2⟩
    have h3 := X.same.trans h2
    rw [List.append_nil] at h3
    exact h3.mono hc hs
end ThrowA
end
section
section MainA
theorem ev_h_c {rs : Nat → ev_R} {i : Instr} {st st' : List Value} {h h' : hp_T} (hs : ev_h rs i st h = some (st', h')) : hp_c h ≤ hp_c h' ∧ hp_s h ≤ hp_s h' := by
  unfold ev_h at hs
  repeat' split at hs
  all_goals first
    | (cases hs; done)
    | (simp only [Option.some.injEq, Prod.mk.injEq] at hs
       obtain ⟨-, rfl⟩ := hs
       first
         | exact ⟨Nat.le_refl _, Nat.le_refl _⟩
         | (simp only [hp_c, hp_s, hp_new]; omega))
theorem ev_h_sw {rs : Nat → ev_R} {i : Instr} {st : List Value} {h : hp_T} (hi : ev_sw i = true) : ev_h rs i st h = none := by
  cases i <;> first | rfl | cases hi
theorem ev_1_c {call : Nat → List Value → hp_T → Option ev_O} (hcall : ∀ k as h o, call k as h = some o → hp_c h ≤ hp_c o.2 ∧ hp_s h ≤ hp_s o.2) : ∀ (f k pc : Nat) (L st : List Value) (h : hp_T) (o : ev_O), ev_1 call f k pc L st h = some o → hp_c h ≤ hp_c o.2 ∧ hp_s h ≤ hp_s o.2 := by
  intro f
  induction f with
  | zero => intro k pc L st h o hs; cases hs
  | succ f ih =>
    intro k pc L st h o hs
    rw [ev_1_s] at hs
    unfold ev_b at hs
    split at hs
    · cases hs
    · split at hs
      · exact ih _ _ _ _ _ _ hs
      · split at hs
        · rename_i st2 h2 hh
          have h1 := ev_h_c hh
          have h2 := ih _ _ _ _ _ _ hs
          exact ⟨Nat.le_trans h1.1 h2.1, Nat.le_trans h1.2 h2.2⟩
        · repeat' split at hs
          all_goals first
            | (cases hs; done)
            | (cases hs; exact ⟨Nat.le_refl _, Nat.le_refl _⟩)
            | (cases hs; simp only [hp_c, hp_s, hp_thr]; omega)
            | (rename_i hc9
               have h1 := hcall _ _ _ _ hc9
               have h2 := ih _ _ _ _ _ _ hs
               exact ⟨Nat.le_trans h1.1 h2.1, Nat.le_trans h1.2 h2.2⟩)
            | (rename_i hc9
               have h1 := hcall _ _ _ _ hc9
               cases hs
               exact h1)
theorem ev_m_c : ∀ (d f k : Nat) (as : List Value) (h : hp_T) (o : ev_O), ev_m d f k as h = some o → hp_c h ≤ hp_c o.2 ∧ hp_s h ≤ hp_s o.2 := by
  intro d
  induction d with
  | zero => intro f k as h o hs; cases hs
  | succ d ih =>
    intro f k as h o hs
    rw [ev_m] at hs
    split at hs
    · exact ev_1_c (fun k as h o => ih f k as h o) _ _ _ _ _ _ _ hs
    · cases hs
-- which cells a method may change: the world's, and those that it makes
def sd_fr (ad : List Nat) (sz : Nat) : Nat → Prop := fun q => q ∈ ad ∨ sz ≤ q
theorem sd_w_at {D : va_G} {A : Nat → Prop} {ad : List Nat} {h : hp_T} {U : State} {H : Heap} (hw : sd_w D A ad h U H) : ∀ q, q ∈ ad → A q ∧ q < H.size := by
  obtain ⟨ws, tys, hK, hP, hD, hlw, hla, hr⟩ := hw
  intro q hq
  obtain ⟨i, hi⟩ := List.getElem?_of_mem hq
  have hlt : i < h.1.length := by rw [← hla]; exact (List.getElem?_eq_some_iff.mp hi).1
  obtain ⟨a, E, h1, h2, -⟩ := hr i (h.1[i]).1 (h.1[i]).2 (by unfold hp_k; rw [List.getElem?_eq_getElem hlt])
  cases Option.some.inj (h1.symm.trans hi)
  exact ⟨hD.2 i _ h2, (hP i _ h2).lt⟩
theorem sd_w_own {D : va_G} {A B : Nat → Prop} {ad : List Nat} {h : hp_T} {U : State} {H : Heap} (hw : sd_w D A ad h U H) (hB : ∀ q, q ∈ ad → B q) : sd_w D B ad h U H := by
  obtain ⟨ws, tys, hK, hP, hD, hlw, hla, hr⟩ := hw
  refine ⟨ws, tys, hK, hP, ⟨hD.1, fun k q hk => ?_⟩, hlw, hla, hr⟩
  have hlt : k < h.1.length := by rw [← hlw]; exact (List.getElem?_eq_some_iff.mp hk).1
  obtain ⟨a, E, h1, h2, -⟩ := hr k (h.1[k]).1 (h.1[k]).2 (by unfold hp_k; rw [List.getElem?_eq_getElem hlt])
  cases Option.some.inj (h2.symm.trans hk)
  exact hB _ (List.mem_of_getElem? h1)
theorem sd_w_moved {D : va_G} {A : Nat → Prop} {ad : List Nat} {h : hp_T} {U V : State} {H : Heap} (hv : U.vm.Alike V.vm) (hw : sd_w D A ad h U H) : sd_w D A ad h V H := by
  obtain ⟨ws, tys, hK, hr⟩ := hw
  exact ⟨ws, tys, va_K.moved hv hK, hr⟩
theorem sd_w_kept {D : va_G} {A : Nat → Prop} {ad : List Nat} {h : hp_T} {U : State} {H H1 : Heap} (hw : sd_w D A ad h U H) (hq : ∀ q : Nat, q < H.size → H1[q]? = H[q]?) : sd_w D A ad h U H1 := by
  obtain ⟨ws, tys, hK, hP, hr⟩ := hw
  exact ⟨ws, tys, hK, hP.kept (fun k q hk => hq _ (hP k q hk).lt), hr⟩
theorem sd_w_ns {D : va_G} {A : Nat → Prop} {ad : List Nat} {h : hp_T} {U : State} {H : Heap} (hw : sd_w D A ad h U H) : ∀ q, q ∈ ad → ∀ cell : Cell, H[q]? = some cell → cell.vm.isStatics = false := by
  obtain ⟨ws, tys, hK, hP, hD, hlw, hla, hr⟩ := hw
  intro q hq cell hcell
  obtain ⟨i, hi⟩ := List.getElem?_of_mem hq
  have hlt : i < h.1.length := by rw [← hla]; exact (List.getElem?_eq_some_iff.mp hi).1
  obtain ⟨a, E, h1, h2, -⟩ := hr i (h.1[i]).1 (h.1[i]).2 (by unfold hp_k; rw [List.getElem?_eq_getElem hlt])
  cases Option.some.inj (h1.symm.trans hi)
  have h3 := hP i _ h2
  cases E with
  | inl x =>
    have h4 : H[q]? = some (vp_cell x.1 x.2) := h3
    rw [h4] at hcell
    cases hcell
    obtain ⟨c9, n9, f9⟩ := x
    rcases f9 with f | f | f | f | f <;> rfl
  | inr x =>
    obtain ⟨r, -, cell2, h4, -, h5, -⟩ := h3
    have h4 : H[q]? = some cell2 := h4
    rw [h4] at hcell
    cases hcell
    rw [h5]; rfl
def tb_ao : List String := ["RouteHouse$Port", "RouteHouse$Waiting"]
def sd_a (U : State) : Prop := (∀ w ∈ lw_tbl, w.onTables = true → w.keepsFace = true → w.before #[] U = true) ∧ ∀ C ∈ tb_ao, va_AO C U
def sd_g (U : State) : Prop := ∀ q ∈ tb_str, ∃ sa : Nat, vk_R q.1 q.2.1 q.2.2 sa U
def sd_Pc (D : va_G) (ad : List Nat) (h : hp_T) (sz : Nat) (as : List Value) : Array Value → State → Prop := va_Pc as (fun U => U.heap.size = sz ∧ sd_w D (sd_fr ad sz) ad h U U.heap ∧ sx_h U ∧ sd_a U ∧ sd_g U)
def sd_Qc (D : va_G) (ad : List Nat) (sz : Nat) (o : ev_O) : Array Value → State → Outcome → State → Prop := fun _ st oc t => ∃ (v w : Option Value) (z : List Nat), o.1 = .inl v ∧ oc = .returned w ∧ sd_l (ad ++ z) v.toList w.toList ∧ sd_w D (sd_fr ad sz) (ad ++ z) o.2 t t.heap ∧ va_F (sd_fr ad sz) st t
def sd_X (D : va_G) (ad : List Nat) (sz : Nat) (h : hp_T) : State → State → Prop := fun st t => ∃ z : List Nat, sd_w D (sd_fr ad sz) (ad ++ z) h t t.heap ∧ va_F (sd_fr ad sz) st t
def sd_rm (k mc ms : Nat) : Room := { frames := tb_rf k, cells := mc, slots := ms, locals := tb_rl k }
def sd_ws (k : Nat) : List Jvm.Cond := .code (tb_y k) (tb_b k) (tb_ml k) (tb_rt k) :: tb_all
def sd_Mt (l : Launch) (D : va_G) (k : Nat) (ad : List Nat) (h : hp_T) (sz : Nat) (as : List Value) (o : ev_O) : Prop := ∀ mc ms : Nat, mc + hp_c h = hp_c o.2 → ms + hp_s h = hp_s o.2 →
  (∀ v, o.1 = .inl v → Met l (tb_y k) (sd_ws k) (sd_rm k mc ms) (sd_Pc D ad h sz as) (sd_Qc D ad sz o) mc ms (sd_fr ad sz)) ∧
  (∀ q, o.1 = .inr q → sx_Met l (tb_y k) (sd_ws k) (sd_rm k mc ms) (sd_Pc D ad h sz as) (sd_X D ad sz o.2) (tb_xn q) mc ms (sd_fr ad sz))
def sd_MQ (below : List Frame) (D : va_G) (ad : List Nat) (sz : Nat) (o : ev_O) (args : Array Value) (s : State) (mc ms : Nat) : State → Prop := match o.1 with
  | .inl _ => MQ below (sd_Qc D ad sz o) args s mc ms (sd_fr ad sz)
  | .inr q => sx_Q below (sd_X D ad sz o.2) (tb_xn q) s mc ms (sd_fr ad sz)
theorem sd_Pc_blind {D : va_G} {ad : List Nat} {h : hp_T} {sz : Nat} {as : List Value} : FrameBlind (sd_Pc D ad h sz as) := by
  intro a U g mk hp
  obtain ⟨h1, h2, h3, h4, h5, h6⟩ := hp
  refine ⟨h1, h2, sd_w_moved (Vm.Alike.refl U.vm) h3, sx_hmoved h4 (Vm.Alike.refl U.vm) (fun _ _ h9 _ => h9), ⟨fun w hw ho hk => ?_, fun C hC => va_AO.moved (Vm.Alike.refl U.vm) (h5.2 C hC)⟩, fun q hq => ?_⟩
  · exact sx_word (s := U) (U := U.calling g mk a) (State.WarmedH.refl U) ho hk (h5.1 w hw ho hk)
  · obtain ⟨sa, h7⟩ := h6 q hq
    exact ⟨sa, vk_R.same rfl h7⟩
-- what the tables say of a call and of a throw
def sd_B (k0 k : Nat) (own : String) (args : Array Value) (s : State) (x : Nat) : Prop := tb_ok k = true ∧ (Jvm.Cond.methodLink own x (tb_y k)).before args s = true ∧ (Jvm.Cond.initialized (tb_y k).cls).before args s = true ∧ Jvm.Cond.code (tb_y k) (tb_b k) (tb_ml k) (tb_rt k) ∈ tb_all ∧ ((tb_y k).cls ≠ "java/lang/invoke/MethodHandle" ∧ (tb_y k).cls ≠ "java/lang/invoke/VarHandle" ∧ (parseMethodDescriptor (tb_y k).desc).map (fun d => d.parameters.length) = some (tb_na k)) ∧ (tb_rf k + 1 ≤ tb_rf k0 ∧ 8 + (tb_ml k + 11) + tb_rl k ≤ tb_rl k0)
def sd_k (k0 : Nat) (own : String) (rs : Nat → ev_R) (args : Array Value) (s : State) (i : Instr) : Prop := match i with
  | .invokevirtual x => (rs x).1 = 2 → sd_B k0 (rs x).2.1 own args s x ∧ (∃ (T : u_T) (N : Nat), vwCl[tb_ci (rs x).2.1]? = some ((tb_y (rs x).2.1).cls, T, N)) ∧ (Jvm.Cond.instanceMethod (tb_y (rs x).2.1)).before args s = true ∧ (Jvm.Cond.selects (tb_y (rs x).2.1).cls (tb_y (rs x).2.1) (tb_y (rs x).2.1)).before args s = true
  | .invokespecial x => (rs x).1 = 2 → sd_B k0 (rs x).2.1 own args s x ∧ (tb_y (rs x).2.1).name = "<init>" ∧ tb_rt (rs x).2.1 = none ∧ (Jvm.Cond.instanceMethod (tb_y (rs x).2.1)).before args s = true
  | .invokestatic x => (rs x).1 = 2 → sd_B k0 (rs x).2.1 own args s x ∧ (Jvm.Cond.static (tb_y (rs x).2.1)).before args s = true
  | _ => True
def sd_t (k0 : Nat) (own : String) (rs : Nat → ev_R) (b : ByteArray) (pc : Nat) (i : Instr) : Prop := match i with
  | .new x => (rs x).1 = 9 → ∃ (cls text : String) (names : List String) (is ic : Nat), cls = tb_xn (rs x).2.1 ∧ Bundle.fit cls = true ∧ (∀ n ∈ names, Bundle.fit n = true) ∧ names.length + 3 < tb_rf k0 ∧ 8 + (13 * (names.length + 1) + 43) ≤ tb_rl k0 ∧ Jvm.Cond.classLink own x cls ∈ lw_tbl ∧ Jvm.Cond.initialized cls ∈ lw_tbl ∧ Jvm.Cond.instantiable cls 6 ∈ lw_tbl ∧ (own, is, text) ∈ tb_str ∧
      (∀ (U : State) (args : Array Value), sx_h U → sd_a U → ∀ w ∈ Bundle.ownAtoms own ic cls names, w.before args U = true) ∧ decode b (pc + 3) = .ok (.dup, 1) ∧ decode b (pc + 4) = .ok (.ldc is, 2) ∧ decode b (pc + 6) = .ok (.invokespecial ic, 3) ∧ decode b (pc + 9) = .ok (.athrow, 1)
  | _ => True
def sd_tb : Prop := sd_cl ∧ (∀ w ∈ tb_all, (w.onTables && w.keeps) = true ∨ ∃ ty, w = Jvm.Cond.arrayClass ty) ∧ ∀ k, tb_ok k = true → plainName (tb_y k).cls = true ∧ tb_own k = (tb_y k).cls ∧ (1 ≤ tb_rf k ∧ 60 ≤ tb_rl k) ∧
  (∀ pc i, tb_ins k pc = some i → ∃ n, decode (tb_b k) pc = .ok (i, n) ∧ (n = ev_len i ∨ ev_sw i = true)) ∧
  ∀ (args : Array Value) (s : State), (∀ w ∈ sd_ws k, w.before args s = true) → sd_a s → ∀ pc i, tb_ins k pc = some i → sd_i (sd_ws k) (tb_own k) (tb_rs k) args s (tb_y k).name i ∧ sd_k k (tb_own k) (tb_rs k) args s i ∧ sd_t k (tb_own k) (tb_rs k) (tb_b k) pc i
end MainA
section MainB
variable {p : Program} {l : Launch} {e : Env} {R : Room} {s : State} {m : MethodId} {args : Array Value} {below : List Frame} {meth : Method} {c : Code} {H : Heap} {locs : List Loc} {cells slots mc ms : Nat} {Q : State → Prop} {free : Addr → Prop} {pc : Nat} {ls : Array Slot} {st0 rest : List Value} {Qa : State → Outcome → State → Prop}
theorem sd_callR (hr : va_Run p l e R s m args below meth c H locs cells slots mc ms (F0 m pc ls st0) rest Qa free)
    (kk : ∀ (v : Option Value) (st₀ t : State) (H1 : Heap) (L : List Loc), st₀.heap = H → t.heap = H1 → s.vm.Alike t.vm → Qa st₀ (.returned v) t → (∀ q ∈ L, free q.base) → W p l e R s m args below meth c H1 (locs ++ L) (cells + mc) (slots + ms) Q (F0 m (pc + 3) ls (v.toList ++ rest))) : W p l e R s m args below meth c H locs cells slots Q (F0 m pc ls st0) := by
  intro T hT X
  obtain ⟨v, st₀, t, T', L, h0, X', hL, e1, e2, hq, st⟩ := hr T hT X
  obtain ⟨t2, a1, b1⟩ := kk v st₀ t T'.heap L h0 e1.symm (by rw [← e2]; exact X'.warmed.alike) hq hL T' rfl X'
  exact ⟨t2, st t2 a1, b1⟩
theorem sd_keepS {A0 A1 : Nat → Prop} {H0 H1 : Heap} {st₀ t : State} {L : List Loc} (h0 : st₀.heap = H) (e1 : t.heap = H1) (hS : va_S A0 H0 H locs) (hA : ∀ q, A1 q → A0 q) (hL : ∀ q ∈ L, A1 q.base) (hF : va_F A1 st₀ t) : va_S A0 H0 H1 (locs ++ L) := by
  obtain ⟨hz, hk⟩ := hF
  rw [h0, e1] at hz
  rw [h0, e1] at hk
  refine ⟨Nat.le_trans hS.1 hz, fun q h1 h2 => ?_, fun q hq => ?_⟩
  · rw [hk q (Nat.lt_of_lt_of_le h1 hS.1) (fun z => h2 (hA q z))]
    exact hS.2.1 q h1 h2
  · rcases List.mem_append.mp hq with h | h
    · exact hS.2.2 q h
    · exact hA _ (hL q h)
end MainB
end
section
section MainC
variable {p : Program} {l : Launch} {e : Env} {s : State} {m : MethodId} {args : Array Value} {below : List Frame} {meth : Method} {c : Code}
theorem ev_rr_of {ty : FieldType} (h : ev_rr ty = true) : (∃ n, ty = .object n) ∨ ∃ t, ty = .array t := by
  cases ty with
  | object n => exact Or.inl ⟨n, rfl⟩
  | array t => exact Or.inr ⟨t, rfl⟩
  | _ => cases h
set_option maxHeartbeats 8000000 in
set_option maxRecDepth 100000 in
theorem sd_one (htb : sd_tb) (hlt : l.stackTraces = false) {D : va_G} {d f0 k : Nat} (hk : tb_ok k = true)
    (IH : ∀ (k2 : Nat) (as : List Value) (h : hp_T) (o : ev_O), tb_ok k2 = true → ev_m d f0 k2 as h = some o → ∀ (ad : List Nat) (sz : Nat) (asC : List Value), sd_l ad as asC → sd_Mt l D k2 ad h sz asC o)
    (hx : p.tables.exec = Jvm.exec) (hb : c.code = tb_b k) (hml : c.maxLocals = tb_ml k) (hrt : meth.sig.returnType = tb_rt k) (hown : s.vm.findClass (tb_own k) = some m.cls) (hlocks : meth.locks = false) (hnm : meth.name = (tb_y k).name) (hout : ∀ x ∈ c.exceptionTable.toList, False)
    (hts : ∀ w ∈ sd_ws k, w.before args s = true) (hxh : sx_h s) (hxa : sd_a s) (hg : sd_g s) {ad0 : List Nat} {h9 : hp_T} (hw0 : sd_w D (sd_fr ad0 s.heap.size) ad0 h9 s s.heap) {o : ev_O} {h0 : hp_T} {mc ms : Nat} (hmc : mc + hp_c h0 = hp_c o.2) (hms : ms + hp_s h0 = hp_s o.2) :
    ∀ (f pc : Nat) (L st : List Value) (h : hp_T), ev_1 (ev_m d f0) f k pc L st h = some o → ∀ (z : List Nat) (H : Heap) (locs : List Loc) (cells slots : Nat) (ls : Array Slot) (S : List Value), sd_w D (sd_fr ad0 s.heap.size) (ad0 ++ z) h s H → va_S (sd_fr ad0 s.heap.size) s.heap H locs → sd_s (ad0 ++ z) (tb_ml k) L ls → sd_l (ad0 ++ z) st S → cells + hp_c h0 = hp_c h → slots + hp_s h0 = hp_s h →
      W p l e (sd_rm k mc ms) s m args below meth c H locs cells slots (sd_MQ below D ad0 s.heap.size o args s mc ms) (F0 m pc ls S) := by
  obtain ⟨hcl, hgood, htk⟩ := htb
  obtain ⟨hpl, hyo, ⟨hrf, hrl⟩, hdec, hfacts⟩ := htk k hk
  have hA : ∀ q, s.heap.size ≤ q → sd_fr ad0 s.heap.size q := fun q h => Or.inr h
  have hkS : ∀ (H : Heap) (locs : List Loc), va_S (sd_fr ad0 s.heap.size) s.heap H locs → ∀ (a : Nat) (cell : Cell), s.heap[a]? = some cell → cell.vm.isStatics = true → H[a]? = some cell := by
    intro H locs hSt a cell hc hi
    have hlt9 : a < s.heap.size := (Array.getElem?_eq_some_iff.mp hc).1
    rw [hSt.2.1 a hlt9 ?_]
    · exact hc
    · intro q
      rcases q with q | q
      · rw [sd_w_ns hw0 a q cell hc] at hi; cases hi
      · omega
  have hG : ∀ k2, Jvm.Cond.code (tb_y k2) (tb_b k2) (tb_ml k2) (tb_rt k2) ∈ tb_all → GoodIn (sd_ws k) (sd_ws k2) := by
    intro k2 h9 w hw
    have h8 : w ∈ tb_all := by
      rcases List.mem_cons.mp hw with rfl | h
      · exact h9
      · exact h
    exact ⟨List.mem_cons_of_mem _ h8, hgood w h8⟩
  intro f
  induction f with
  | zero => intro pc L st h hs; cases hs
  | succ f ih =>
    intro pc L st h hs z H locs cells slots ls S hw hSt hl hS hc hsl
    have hsz : ls.size = tb_ml k := by obtain ⟨-, lst, h9, -⟩ := hl; exact h9.1
    have hsub : ∀ q, sd_fr (ad0 ++ z) H.size q → sd_fr ad0 s.heap.size q := fun q h9 => h9.elim (fun h8 => (sd_w_at hw q h8).1) (fun h8 => Or.inr (Nat.le_trans hSt.1 h8))
    -- behind a call that returned
    have goR : ∀ (v : Option Value) (h2 : hp_T) (ra rest : List Value) (a9 : Array Value) (mc2 ms2 : Nat), sd_l (ad0 ++ z) ra rest → ev_1 (ev_m d f0) f k (pc + 3) L (v.toList ++ ra) h2 = some o → mc2 + hp_c h = hp_c h2 → ms2 + hp_s h = hp_s h2 →
        va_Run p l e (sd_rm k mc ms) s m args below meth c H locs cells slots mc2 ms2 (F0 m pc ls S) rest (sd_Qc D (ad0 ++ z) H.size (.inl v, h2) a9) (sd_fr (ad0 ++ z) H.size) →
        W p l e (sd_rm k mc ms) s m args below meth c H locs cells slots (sd_MQ below D ad0 s.heap.size o args s mc ms) (F0 m pc ls S) := by
      intro v h2 ra rest a9 mc2 ms2 hra hs2 hm2 hms2 hrun
      refine sd_callR hrun (fun w st₀ t H1 Lc e0 e1 hvm hq hL => ?_)
      obtain ⟨v2, w2, z2, q1, q2, q3, q4, q5⟩ := hq
      cases q1
      cases q2
      subst e1
      have hw2 : sd_w D (sd_fr ad0 s.heap.size) (ad0 ++ (z ++ z2)) h2 s t.heap := by
        rw [← List.append_assoc]
        exact sd_w_moved hvm.symm (sd_w_own q4 (fun q h9 => hsub q (sd_w_at q4 q h9).1))
      refine ih _ _ _ _ hs2 (z ++ z2) t.heap (locs ++ Lc) _ _ ls _ hw2 (sd_keepS e0 rfl hSt hsub hL q5) (by rw [← List.append_assoc]; exact sd_s_mono hl) ?_ (by omega) (by omega)
      rw [← List.append_assoc]
      exact sd_l_app q3 (sd_l_mono hra)
    -- behind a call that threw
    have goX : ∀ (q : Nat) (h2 : hp_T) (rest : List Value) (mc2 ms2 : Nat), o = (.inr q, h2) → mc2 + hp_c h = hp_c h2 → ms2 + hp_s h = hp_s h2 →
        (∀ T : State, T.heap = H → Stand p l e (sd_rm k mc ms) s m args below meth c T locs cells slots → ∃ (q9 : Addr) (st₀ t T' : State) (L : List Loc) (ce : Cell), st₀.heap = H ∧ sd_X D (ad0 ++ z) H.size h2 st₀ t ∧ t.heap[q9]? = some ce ∧ ce.vm = .none ∧ s.vm.findClass (tb_xn q) = some ce.cls ∧ (∀ z9 ∈ L, sd_fr (ad0 ++ z) H.size z9.base) ∧ T'.heap = t.heap ∧ T'.vm = t.vm ∧ Stand p l e (sd_rm k mc ms) s m args below meth c T' (locs ++ L) (cells + mc2) (slots + ms2) ∧ Steps p.tables e below (T.setTop (F0 m pc ls S)) ((T'.setTop (F0 m pc ls rest)).pushFrame (.throwing q9))) →
        W p l e (sd_rm k mc ms) s m args below meth c H locs cells slots (sd_MQ below D ad0 s.heap.size o args s mc ms) (F0 m pc ls S) := by
      intro q h2 rest mc2 ms2 ho hm2 hms2 hrun
      subst ho
      have hmc : mc + hp_c h0 = hp_c h2 := hmc
      have hms : ms + hp_s h0 = hp_s h2 := hms
      intro T hT X
      obtain ⟨q9, st₀, t, T', Lc, ce, e0, ⟨z2, q4, q5⟩, hce, hcv, hcl, hL, e1, e2, X', st1⟩ := hrun T hT X
      have hvm : s.vm.Alike t.vm := by rw [← e2]; exact X'.warmed.alike
      have key : sx_W p l e (sd_rm k mc ms) s m args below meth c t.heap (locs ++ Lc) (cells + mc2) (slots + ms2) (sx_Q below (sd_X D ad0 s.heap.size h2) (tb_xn q) s mc ms (sd_fr ad0 s.heap.size)) (F0 m pc ls rest) q9 := by
        refine sx_out hout hlocks hce hcv hcl (fun t9 ht9 ha9 => ⟨z ++ z2, ?_, (sd_keepS e0 rfl hSt hsub hL q5).F ht9⟩) (sd_keepS e0 rfl hSt hsub hL q5).2.2 (by omega) (by omega)
        rw [ht9, ← List.append_assoc]
        exact sd_w_moved (hvm.symm.trans ha9) (sd_w_own q4 (fun q h9 => hsub q (sd_w_at q4 q h9).1))
      obtain ⟨t2, a1, b1⟩ := key T' e1 X'
      exact ⟨t2, st1.trans a1, b1⟩
    have hpre : ∀ (a9 : List Value) (U : State), U.heap = H → s.WarmedH U.vm → sd_Pc D (ad0 ++ z) h H.size a9 a9.toArray U := by
      intro a9 U hU hW
      refine ⟨rfl, by rw [hU], ?_, ?_, ⟨fun w hw ho hk9 => sx_word hW ho hk9 (hxa.1 w hw ho hk9), fun C hC => va_AO.moved hW.alike (hxa.2 C hC)⟩, fun q hq => ?_⟩
      · rw [hU]; exact sd_w_moved hW.alike (sd_w_own hw (fun q h9 => Or.inl h9))
      · exact sx_hmoved hxh hW.alike (fun a cell h1 h2 => by rw [hU]; exact hkS H locs hSt a cell h1 h2)
      · obtain ⟨sa, h6⟩ := hg q hq
        exact ⟨sa, vk_R.warm hW h6⟩
    rw [ev_1_s] at hs
    unfold ev_b at hs
    split at hs
    · cases hs
    · rename_i i hi
      obtain ⟨n, hd, hn⟩ := hdec pc i hi
      obtain ⟨hf1, hf2, hf3⟩ := hfacts args s hts hxa pc i hi
      split at hs
      · rename_i pc2 L2 st2 hp
        exact sd_p hx hb hp hd hn hl hS (fun ls2 S2 h1 h2 => ih _ _ _ _ hs z H locs cells slots ls2 S2 hw hSt h1 h2 hc hsl)
      · split at hs
        · rename_i st2 h2 hh
          have hn : n = ev_len i := by
            rcases hn with hn | hn
            · exact hn
            · rw [ev_h_sw hn] at hh; cases hh
          subst hn
          have hm1 := ev_1_c (ev_m_c d f0) _ _ _ _ _ _ _ hs
          have hm0 := ev_h_c hh
          rw [← hnm] at hf1
          refine sd_h hcl hx hb hml hown hts hh hd hf1 hw hSt hA hl hS hrf hrl hc hsl (by show _ ≤ mc + _; omega) (by show _ ≤ ms + _; omega) (fun z2 H1 locs1 S1 c1 s1 h1 h2 h3 h4 h5 => ?_)
          rw [List.append_assoc] at h1 h3
          exact ih _ _ _ _ hs (z ++ z2) H1 locs1 c1 s1 ls S1 h1 h2 (by rw [← List.append_assoc]; exact sd_s_mono hl) h3 h4 h5
        · rename_i o1 hn1 o2 hn2
          clear hn1 hn2
          split at hs
          · -- ireturn
            split at hs
            · rename_i x
              split at hs
              · rename_i ty hty
                split at hs
                · rename_i hnr
                  cases hs
                  have hn : n = 1 := by simpa [ev_len, ev_sw] using hn
                  subst hn
                  obtain ⟨K, rfl, hK⟩ := sd_l_i hS
                  cases sd_l_n hK
                  have ec : cells = mc := by have h9 : mc + hp_c h0 = hp_c h := hmc; omega
                  have es : slots = ms := by have h9 : ms + hp_s h0 = hp_s h := hms; omega
                  subst ec; subst es
                  exact (W.zret hx hb (hrt.trans hty) hnr (fun t ht hW => ⟨some (.int x), some (.int x), z, rfl, rfl, ⟨rfl, trivial⟩, by rw [ht]; exact sd_w_moved hW.alike hw, hSt.F ht⟩) hSt.2.2 hd)
                · cases hs
              · cases hs
            · cases hs
          · -- areturn
            split at hs
            · rename_i x
              split at hs
              · rename_i ty hty
                split at hs
                · rename_i hnr
                  cases hs
                  have hn : n = 1 := by simpa [ev_len, ev_sw] using hn
                  subst hn
                  obtain ⟨a, K, ha, rfl, hK⟩ := sd_l_r hS
                  cases sd_l_n hK
                  have ec : cells = mc := by have h9 : mc + hp_c h0 = hp_c h := hmc; omega
                  have es : slots = ms := by have h9 : ms + hp_s h0 = hp_s h := hms; omega
                  subst ec; subst es
                  exact (W.aret hx hb (hrt.trans hty) (ev_rr_of hnr) (Or.inr ⟨a, rfl⟩) (fun t ht hW => ⟨some (.ref x), some (.ref a), z, rfl, rfl, ⟨⟨a, ha, rfl⟩, trivial⟩, by rw [ht]; exact sd_w_moved hW.alike hw, hSt.F ht⟩) hSt.2.2 hd)
                · cases hs
              · cases hs
            · cases hs
          · -- return
            split at hs
            · split at hs
              · rename_i hty
                cases hs
                have hn : n = 1 := by simpa [ev_len, ev_sw] using hn
                subst hn
                cases sd_l_n hS
                have ec : cells = mc := by have h9 : mc + hp_c h0 = hp_c h := hmc; omega
                have es : slots = ms := by have h9 : ms + hp_s h0 = hp_s h := hms; omega
                subst ec; subst es
                exact (W.vret hx hb (hrt.trans hty) (fun t ht hW => ⟨none, none, z, rfl, rfl, trivial, by rw [ht]; exact sd_w_moved hW.alike hw, hSt.F ht⟩) hSt.2.2 hd)
              · cases hs
            · cases hs
          · -- throw new E("..")
            rename_i x
            split at hs
            · rename_i hz9
              obtain ⟨hz1, hz2⟩ := hz9
              cases hs
              have hn : n = 3 := by simpa [ev_len, ev_sw] using hn
              subst hn
              obtain ⟨cls, text, names, is, ic, rfl, g1, g2, g3, g4, g5, g6, g7, g8, g9, d3, d4, d6, d9⟩ := hf3 hz1
              have hsum := sd_l_sum hS
              have hmc : mc + hp_c h0 = hp_c h + 1 := hmc
              have hms : ms + hp_s h0 = hp_s h + 6 := hms
              obtain ⟨sa, hsa⟩ := hg _ g8
              have hw9 : ∀ w : Jvm.Cond, w ∈ lw_tbl → w.onTables = true → w.keepsFace = true → w.before args s = true := fun w h1 h2 h3 => sx_word (State.WarmedH.refl s) h2 h3 (hxa.1 w h1 h2 h3)
              exact sx_throw hx hb hlt hown g1 g2 (hw9 _ g5 rfl rfl) (hw9 _ g6 rfl rfl) (hw9 _ g7 rfl rfl) hsa
                (fun U hv hU => g9 U args (sx_hmoved hxh (by rw [hv]; exact Vm.Alike.refl _) (fun a cell h1 h2 => by rw [hU]; exact hkS H locs hSt a cell h1 h2)) ⟨fun w h1 h2 h3 => sx_word (s := s) (by rw [hv]; exact State.WarmedH.refl s) h2 h3 (hxa.1 w h1 h2 h3), fun C hC => va_AO.moved (by rw [hv]; exact Vm.Alike.refl _) (hxa.2 C hC)⟩)
                (by rw [hsz, hml]) hd d3 d4 d6 d9 hout (by show names.length + 3 < tb_rf k; omega) (by rw [hsum]; show _ ≤ tb_rl k; omega) (by show _ ≤ mc; omega) (by show _ ≤ ms; omega) hlocks
                (fun t hvm hsz9 hkp => ⟨z, sd_w_moved hvm (sd_w_kept hw hkp), ⟨Nat.le_trans hSt.1 hsz9, fun q h1 h2 => (hkp q (Nat.lt_of_lt_of_le h1 hSt.1)).trans (hSt.2.1 q h1 h2)⟩⟩) hSt.2.2 (by omega) (by omega)
            · cases hs
          · -- invokevirtual
            rename_i x
            split at hs
            · rename_i hz9
              obtain ⟨hz1, hz2⟩ := hz9
              obtain ⟨⟨b1, b2, b3, b4, b5, b9⟩, ⟨T9, N9, hcv⟩, b6, b7⟩ := hf2 hz1
              have hn : n = 3 := by simpa [ev_len, ev_sw] using hn
              subst hn
              split at hs
              · rename_i b r hdr
                split at hs
                · rename_i hz8
                  obtain ⟨hr8, hkb⟩ := hz8
                  have hst : st = st.take (tb_na (tb_rs k x).2.1) ++ (.ref b :: r) := by rw [← hdr, List.take_append_drop]
                  obtain ⟨SA, SB, rfl, hSA, hSB⟩ := sd_l_split (l := st.take (tb_na (tb_rs k x).2.1)) (l' := .ref b :: r) (by rw [← hst]; exact hS)
                  obtain ⟨qb, K, hqb, rfl, hK⟩ := sd_l_r hSB
                  have hargs : sd_l (ad0 ++ z) (.ref b :: (st.take (tb_na (tb_rs k x).2.1)).reverse) (.ref qb :: SA.reverse) := ⟨⟨qb, hqb, rfl⟩, sd_l_rev hSA⟩
                  have hlen : SA.reverse.length = tb_na (tb_rs k x).2.1 := by rw [List.length_reverse, sd_l_len hSA, List.length_take]; omega
                  have hroom : (K.map fun v => v.category).sum ≤ 8 := by rw [sd_l_sum hK]; exact hr8
                  have hrecv : ∃ cellB : Cell, H[qb]? = some cellB ∧ cellB.vm.isStatics = false ∧ s.vm.findClass (tb_y (tb_rs k x).2.1).cls = some cellB.cls := by
                    obtain ⟨ws, tys, hK9, hP9, hD9, hlw, hla, hr9⟩ := hw
                    obtain ⟨a, E, h1, h2, h3⟩ := hr9 _ _ _ hkb
                    obtain ⟨fs, rfl, -⟩ := sd_e_o h3 (hcl _ _ _ _ hcv).1
                    cases Option.some.inj (h1.symm.trans hqb)
                    exact va_recv hK9 hP9 hcv h2
                  have cb : ∀ mc2 ms2 : Nat, CallB (sd_rm k mc ms) s args (tb_own k) x (tb_y (tb_rs k x).2.1) (tb_b (tb_rs k x).2.1) (tb_ml (tb_rs k x).2.1) (tb_rt (tb_rs k x).2.1) (sd_ws (tb_rs k x).2.1) (sd_rm (tb_rs k x).2.1 mc2 ms2) mc2 ms2 (tb_na (tb_rs k x).2.1) := fun mc2 ms2 => callB_of _ hts (hG _ b4) rfl rfl rfl b3 b2 b5 b9
                  split at hs
                  · rename_i v h2 hcall
                    have hmm := ev_m_c d f0 _ _ _ _ hcall
                    have hm1 := ev_1_c (ev_m_c d f0) _ _ _ _ _ _ _ hs
                    have hmm : hp_c h ≤ hp_c h2 ∧ hp_s h ≤ hp_s h2 := hmm
                    have hM := IH _ _ _ _ b1 hcall (ad0 ++ z) H.size _ hargs (hp_c h2 - hp_c h) (hp_s h2 - hp_s h) (by show _ = hp_c h2; omega) (by show _ = hp_s h2; omega)
                    exact goR v h2 r K _ (hp_c h2 - hp_c h) (hp_s h2 - hp_s h) hK hs (by omega) (by omega)
                      (va_runV ⟨hx, hb, hml, hown, hts⟩ (hM.1 v rfl) ⟨cb _ _, b6, b7⟩ ⟨sd_Pc_blind, hrecv, hpre _⟩ rfl hlen hsz (by simp) (lv_room hroom) hd ⟨by show _ ≤ mc; omega, by show _ ≤ ms; omega⟩)
                  · rename_i q h2 hcall
                    have hmm := ev_m_c d f0 _ _ _ _ hcall
                    have hmm : hp_c h ≤ hp_c h2 ∧ hp_s h ≤ hp_s h2 := hmm
                    have ho : o = (.inr q, h2) := (Option.some.inj hs).symm
                    have hoc : hp_c o.2 = hp_c h2 := by rw [ho]
                    have hos : hp_s o.2 = hp_s h2 := by rw [ho]
                    have hM := IH _ _ _ _ b1 hcall (ad0 ++ z) H.size _ hargs (hp_c h2 - hp_c h) (hp_s h2 - hp_s h) (by show _ = hp_c h2; omega) (by show _ = hp_s h2; omega)
                    exact goX q h2 K (hp_c h2 - hp_c h) (hp_s h2 - hp_s h) ho (by omega) (by omega)
                      (fun T hT X => sx_callV X hx hown (hM.2 q rfl) ⟨cb _ _, b6, b7⟩ (b := qb) ⟨sd_Pc_blind, hrecv, hpre _⟩ hT (g := F0 m pc ls (SA ++ .ref qb :: K)) rfl hlen (by rw [hml]; exact hsz) (by simp) (lv_room hroom) (by rw [hb]; exact hd) ⟨by show _ ≤ mc; omega, by show _ ≤ ms; omega⟩)
                  · cases hs
                · cases hs
              · cases hs
            · cases hs
          · -- invokespecial
            rename_i x
            split at hs
            · rename_i hz9
              obtain ⟨hz1, hz2⟩ := hz9
              obtain ⟨⟨b1, b2, b3, b4, b5, b9⟩, b6, b7, b8⟩ := hf2 hz1
              have hn : n = 3 := by simpa [ev_len, ev_sw] using hn
              subst hn
              split at hs
              · rename_i b r hdr
                split at hs
                · rename_i hr8
                  have hst : st = st.take (tb_na (tb_rs k x).2.1) ++ (.ref b :: r) := by rw [← hdr, List.take_append_drop]
                  obtain ⟨SA, SB, rfl, hSA, hSB⟩ := sd_l_split (l := st.take (tb_na (tb_rs k x).2.1)) (l' := .ref b :: r) (by rw [← hst]; exact hS)
                  obtain ⟨qb, K, hqb, rfl, hK⟩ := sd_l_r hSB
                  have hargs : sd_l (ad0 ++ z) (.ref b :: (st.take (tb_na (tb_rs k x).2.1)).reverse) (.ref qb :: SA.reverse) := ⟨⟨qb, hqb, rfl⟩, sd_l_rev hSA⟩
                  have hlen : SA.reverse.length = tb_na (tb_rs k x).2.1 := by rw [List.length_reverse, sd_l_len hSA, List.length_take]; omega
                  have hroom : (K.map fun v => v.category).sum ≤ 8 := by rw [sd_l_sum hK]; exact hr8
                  have cb : ∀ mc2 ms2 : Nat, CallB (sd_rm k mc ms) s args (tb_own k) x (tb_y (tb_rs k x).2.1) (tb_b (tb_rs k x).2.1) (tb_ml (tb_rs k x).2.1) none (sd_ws (tb_rs k x).2.1) (sd_rm (tb_rs k x).2.1 mc2 ms2) mc2 ms2 (tb_na (tb_rs k x).2.1) := fun mc2 ms2 => callB_of _ hts (hG _ b4) (by unfold sd_ws; rw [b7]) rfl rfl b3 b2 b5 b9
                  split at hs
                  · rename_i v h2 hcall
                    have hmm := ev_m_c d f0 _ _ _ _ hcall
                    have hm1 := ev_1_c (ev_m_c d f0) _ _ _ _ _ _ _ hs
                    have hmm : hp_c h ≤ hp_c h2 ∧ hp_s h ≤ hp_s h2 := hmm
                    have hM := IH _ _ _ _ b1 hcall (ad0 ++ z) H.size _ hargs (hp_c h2 - hp_c h) (hp_s h2 - hp_s h) (by show _ = hp_c h2; omega) (by show _ = hp_s h2; omega)
                    exact goR v h2 r K _ (hp_c h2 - hp_c h) (hp_s h2 - hp_s h) hK hs (by omega) (by omega)
                      (va_runI ⟨hx, hb, hml, hown, hts⟩ (hM.1 v rfl) ⟨cb _ _, b6, b8⟩ ⟨sd_Pc_blind, hpre _⟩ rfl hlen hsz (by simp) (lv_room hroom) hd ⟨by show _ ≤ mc; omega, by show _ ≤ ms; omega⟩)
                  · cases hs
                · cases hs
              · cases hs
            · cases hs
          · -- invokestatic
            rename_i x
            split at hs
            · rename_i hz9
              obtain ⟨hz1, hz2, hr8⟩ := hz9
              obtain ⟨⟨b1, b2, b3, b4, b5, b9⟩, b6⟩ := hf2 hz1
              have hn : n = 3 := by simpa [ev_len, ev_sw] using hn
              subst hn
              obtain ⟨SA, K, rfl, hSA, hK⟩ := sd_l_split (l := st.take (tb_na (tb_rs k x).2.1)) (l' := st.drop (tb_na (tb_rs k x).2.1)) (by rw [List.take_append_drop]; exact hS)
              have hargs : sd_l (ad0 ++ z) (st.take (tb_na (tb_rs k x).2.1)).reverse SA.reverse := sd_l_rev hSA
              have hlen : SA.reverse.length = tb_na (tb_rs k x).2.1 := by rw [List.length_reverse, sd_l_len hSA, List.length_take]; omega
              have hroom : (K.map fun v => v.category).sum ≤ 8 := by rw [sd_l_sum hK]; exact hr8
              have cb : ∀ mc2 ms2 : Nat, CallB (sd_rm k mc ms) s args (tb_own k) x (tb_y (tb_rs k x).2.1) (tb_b (tb_rs k x).2.1) (tb_ml (tb_rs k x).2.1) (tb_rt (tb_rs k x).2.1) (sd_ws (tb_rs k x).2.1) (sd_rm (tb_rs k x).2.1 mc2 ms2) mc2 ms2 (tb_na (tb_rs k x).2.1) := fun mc2 ms2 => callB_of _ hts (hG _ b4) rfl rfl rfl b3 b2 b5 b9
              split at hs
              · rename_i v h2 hcall
                have hmm := ev_m_c d f0 _ _ _ _ hcall
                have hm1 := ev_1_c (ev_m_c d f0) _ _ _ _ _ _ _ hs
                have hmm : hp_c h ≤ hp_c h2 ∧ hp_s h ≤ hp_s h2 := hmm
                have hM := IH _ _ _ _ b1 hcall (ad0 ++ z) H.size _ hargs (hp_c h2 - hp_c h) (hp_s h2 - hp_s h) (by show _ = hp_c h2; omega) (by show _ = hp_s h2; omega)
                exact goR v h2 _ K _ (hp_c h2 - hp_c h) (hp_s h2 - hp_s h) hK hs (by omega) (by omega)
                  (va_runS ⟨hx, hb, hml, hown, hts⟩ (hM.1 v rfl) ⟨cb _ _, b6⟩ ⟨sd_Pc_blind, hpre _⟩ rfl hlen hsz (by simp) (lv_room hroom) hd ⟨by show _ ≤ mc; omega, by show _ ≤ ms; omega⟩)
              · rename_i q h2 hcall
                have hmm := ev_m_c d f0 _ _ _ _ hcall
                have hmm : hp_c h ≤ hp_c h2 ∧ hp_s h ≤ hp_s h2 := hmm
                have ho : o = (.inr q, h2) := (Option.some.inj hs).symm
                have hoc : hp_c o.2 = hp_c h2 := by rw [ho]
                have hos : hp_s o.2 = hp_s h2 := by rw [ho]
                have hM := IH _ _ _ _ b1 hcall (ad0 ++ z) H.size _ hargs (hp_c h2 - hp_c h) (hp_s h2 - hp_s h) (by show _ = hp_c h2; omega) (by show _ = hp_s h2; omega)
                exact goX q h2 K (hp_c h2 - hp_c h) (hp_s h2 - hp_s h) ho (by omega) (by omega)
                  (fun T hT X => sx_callS X hx hown (hM.2 q rfl) ⟨cb _ _, b6⟩ ⟨sd_Pc_blind, hpre _⟩ hT (g := F0 m pc ls (SA ++ K)) rfl hlen (by rw [hml]; exact hsz) (by simp) (lv_room hroom) (by rw [hb]; exact hd) ⟨by show _ ≤ mc; omega, by show _ ≤ ms; omega⟩)
              · cases hs
            · cases hs
          · cases hs
theorem sd_lg {ad : List Nat} : ∀ {l k : List Value}, sd_l ad l k → (lg_sl k).length = l.length
  | [], [], _ => rfl
  | _ :: l, w :: k, h => by
    have h1 := sd_v_cat h.1
    have h2 := sd_lg h.2
    unfold lg_sl at h2 ⊢
    rw [List.flatMap_cons, if_neg (by omega), List.length_append, List.length_cons, List.length_nil, h2, List.length_cons]
    omega
  | [], _ :: _, h => False.elim h
  | _ :: _, [], h => False.elim h
theorem sd_args {ad : List Nat} : ∀ {l k : List Value} (j : Nat), sd_l ad l k → ∀ (i : Nat) (v : Value), l[i]? = some v → ∃ w : Value, sd_v ad v w ∧ (j + i, w) ∈ lv_args j k
  | [], [], _, _, i, v, hi => by simp at hi
  | u :: l, w :: k, j, h, i, v, hi => by
    have h1 := sd_v_cat h.1
    cases i with
    | zero =>
      simp only [List.getElem?_cons_zero, Option.some.injEq] at hi
      subst hi
      exact ⟨w, h.1, by unfold lv_args; exact List.mem_cons_self⟩
    | succ i =>
      rw [List.getElem?_cons_succ] at hi
      obtain ⟨w2, h3, h4⟩ := sd_args (j + 1) h.2 i v hi
      refine ⟨w2, h3, ?_⟩
      unfold lv_args
      rw [if_neg (by omega)]
      rw [show j + (i + 1) = j + 1 + i by omega]
      exact List.mem_cons_of_mem _ h4
  | [], _ :: _, _, h, _, _, _ => False.elim h
  | _ :: _, [], _, h, _, _, _ => False.elim h
-- every run of the evaluator is a run of the machine
theorem sd_main (htb : sd_tb) (hlt : l.stackTraces = false) (D : va_G) : ∀ (d f k : Nat) (as : List Value) (h : hp_T) (o : ev_O), tb_ok k = true → ev_m d f k as h = some o → ∀ (ad : List Nat) (sz : Nat) (asC : List Value), sd_l ad as asC → sd_Mt l D k ad h sz asC o := by
  intro d
  induction d with
  | zero => intro f k as h o _ hs; cases hs
  | succ d ih =>
    intro f k as h o hk hs ad sz asC has mc ms hmc hms
    rw [ev_m] at hs
    split at hs
    · rename_i hlen
      obtain ⟨hpl, hyo, -, hdec, hfacts⟩ := htb.2.2 k hk
      have body : ∀ p e s m args below meth c s₁, BodyLoose p l (tb_y k) (headSpec (sd_ws k) (sd_rm k mc ms)) (tb_b k) (tb_ml k) (tb_rt k) e s m args below meth c s₁ → c.maxLocals = tb_ml k → sd_Pc D ad h sz asC args s →
          W p l e (headSpec (sd_ws k) (sd_rm k mc ms)).room s m args below meth c s.heap [] 0 0 (sd_MQ below D ad sz o args s mc ms) (entryFrame m args (tb_ml k)) := by
        intro p e s m args below meth c s₁ B hml hv
        obtain ⟨rfl, hsz, hw, hxh, hxa, hg⟩ := hv
        subst hsz
        have hout := sx_notable B rfl
        have hts := atoms_spec (ws := sd_ws k) B.pre
        have hown : s.vm.findClass (tb_own k) = some m.cls := by rw [hyo]; exact findClass_of_methodNamed B.named
        have hnm : meth.name = (tb_y k).name := (name_of_methodNamed B.named B.method).1
        have hlg := sd_lg has
        have hl := lv_entry asC (n := tb_ml k) (by rw [hlg]; exact hlen)
        rw [lg_entry_eq]
        generalize (lg_sl asC ++ List.replicate (tb_ml k - (lg_sl asC).length) Slot.unset).toArray = ls at hl ⊢
        refine sd_one htb hlt hk (fun k2 as h o hk2 => ih f k2 as h o hk2) B.exec B.bytes hml B.returns hown B.notSynchronized hnm hout hts hxh hxa hg hw hmc hms f 0 _ [] h hs [] s.heap [] 0 0 ls [] (by rw [List.append_nil]; exact hw) va_S.rf ⟨by simp; omega, _, hl, fun i v hi hv => ?_⟩ trivial (by omega) (by omega)
        rw [List.append_nil]
        by_cases hlt2 : i < as.length
        · rw [List.getElem?_append_left hlt2] at hi
          obtain ⟨w, h1, h2⟩ := sd_args 0 has i v hi
          exact ⟨w, h1, by rw [Nat.zero_add] at h2; exact h2⟩
        · rw [List.getElem?_append_right (by omega)] at hi
          exact absurd (List.eq_of_mem_replicate (List.mem_of_getElem? hi)) hv
      obtain ⟨r, h2⟩ := o
      cases r with
      | inl v =>
        refine ⟨fun _ _ => Met.ofW (cc := tb_b k) (maxL := tb_ml k) (ret := tb_rt k) hpl rfl body, fun q hq => ?_⟩
        cases hq
      | inr q =>
        refine ⟨fun v hv => ?_, fun q2 hq => ?_⟩
        · cases hv
        · cases hq
          exact sx_ofW (cc := tb_b k) (maxL := tb_ml k) (ret := tb_rt k) hpl rfl body
    · cases hs
end MainC
end
section
theorem wd_o1 {i : Nat} {w : Jvm.Cond} (h : tables_1_1[i]? = some w) (hg : goodWord w = true) : w ∈ tb_all := List.mem_filter.mpr ⟨List.mem_append_right _ (by have h : w ∈ tables_1_1 := List.mem_of_getElem? h; exact List.mem_append_left _ h), hg⟩
theorem wd_o2 {i : Nat} {w : Jvm.Cond} (h : tables_1_2[i]? = some w) (hg : goodWord w = true) : w ∈ tb_all := List.mem_filter.mpr ⟨List.mem_append_right _ (by have h : w ∈ tables_1_2 := List.mem_of_getElem? h; exact List.mem_append_right _ (List.mem_append_left _ h)), hg⟩
theorem wd_o3 {i : Nat} {w : Jvm.Cond} (h : tables_1_3[i]? = some w) (hg : goodWord w = true) : w ∈ tb_all := List.mem_filter.mpr ⟨List.mem_append_right _ (by have h : w ∈ tables_1_3 := List.mem_of_getElem? h; exact List.mem_append_right _ (List.mem_append_right _ (List.mem_append_left _ h))), hg⟩
theorem wd_o4 {i : Nat} {w : Jvm.Cond} (h : tables_1_4[i]? = some w) (hg : goodWord w = true) : w ∈ tb_all := List.mem_filter.mpr ⟨List.mem_append_right _ (by have h : w ∈ tables_1_4 := List.mem_of_getElem? h; exact List.mem_append_right _ (List.mem_append_right _ (List.mem_append_right _ (List.mem_append_left _ h)))), hg⟩
theorem wd_o5 {i : Nat} {w : Jvm.Cond} (h : tables_1_5[i]? = some w) (hg : goodWord w = true) : w ∈ tb_all := List.mem_filter.mpr ⟨List.mem_append_right _ (by have h : w ∈ tables_1_5 := List.mem_of_getElem? h; exact List.mem_append_right _ (List.mem_append_right _ (List.mem_append_right _ (List.mem_append_right _ (h))))), hg⟩
theorem wd_of {i : Nat} {w : Jvm.Cond} (h : lw_tbl[i]? = some w) (hg : goodWord w = true) : w ∈ tb_all := List.mem_filter.mpr ⟨List.mem_of_getElem? h, hg⟩
abbrev wv_1 : Jvm.Cond := (Jvm.Cond.initialized "RouteHouse")
theorem wd_1 : wv_1 ∈ tb_all := wd_o1 (i := 1) rfl rfl
abbrev wv_2 : Jvm.Cond := (Jvm.Cond.initialized "RouteHouse$Port")
theorem wd_2 : wv_2 ∈ tb_all := wd_o1 (i := 2) rfl rfl
abbrev wv_3 : Jvm.Cond := (Jvm.Cond.initialized "RouteHouse$Routes")
theorem wd_3 : wv_3 ∈ tb_all := wd_o1 (i := 3) rfl rfl
abbrev wv_4 : Jvm.Cond := (Jvm.Cond.initialized "RouteHouse$Packet")
theorem wd_4 : wv_4 ∈ tb_all := wd_o1 (i := 4) rfl rfl
abbrev wv_5 : Jvm.Cond := (Jvm.Cond.initialized "RouteHouse$Outbox")
theorem wd_5 : wv_5 ∈ tb_all := wd_o1 (i := 5) rfl rfl
abbrev wv_6 : Jvm.Cond := (Jvm.Cond.initialized "RouteHouse$Waits")
theorem wd_6 : wv_6 ∈ tb_all := wd_o1 (i := 6) rfl rfl
abbrev wv_7 : Jvm.Cond := (Jvm.Cond.initialized "RouteHouse$Waiting")
theorem wd_7 : wv_7 ∈ tb_all := wd_o1 (i := 7) rfl rfl
abbrev wv_8 : Jvm.Cond := (Jvm.Cond.initialized "RouteHouse$Delivery")
theorem wd_8 : wv_8 ∈ tb_all := wd_o1 (i := 8) rfl rfl
abbrev wv_9 : Jvm.Cond := (Jvm.Cond.initialized "RouteHouseModel")
theorem wd_9 : wv_9 ∈ tb_all := wd_o1 (i := 9) rfl rfl
abbrev wv_17 : Jvm.Cond := (Jvm.Cond.initialized "RouteHouse$Wire")
theorem wd_17 : wv_17 ∈ tb_all := wd_o1 (i := 17) rfl rfl
abbrev wv_18 : Jvm.Cond := (Jvm.Cond.initialized "java/lang/System")
theorem wd_18 : wv_18 ∈ tb_all := wd_o1 (i := 18) rfl rfl
abbrev wv_19 : Jvm.Cond := (Jvm.Cond.initialized "java/lang/Math")
theorem wd_19 : wv_19 ∈ tb_all := wd_o1 (i := 19) rfl rfl
abbrev wv_25 : Jvm.Cond := (Jvm.Cond.methodLink "RouteHouse" (1 : Nat) ({ cls := "java/lang/Object", name := "<init>", desc := "()V" } : Jvm.MethodName))
theorem wd_25 : wv_25 ∈ tb_all := wd_o1 (i := 25) rfl rfl
abbrev wv_26 : Jvm.Cond := (Jvm.Cond.instanceMethod ({ cls := "java/lang/Object", name := "<init>", desc := "()V" } : Jvm.MethodName))
theorem wd_26 : wv_26 ∈ tb_all := wd_o1 (i := 26) rfl rfl
abbrev wv_27 : Jvm.Cond := (Jvm.Cond.code ({ cls := "java/lang/Object", name := "<init>", desc := "()V" } : Jvm.MethodName) object_method_1_code (1 : Nat) (Option.none : Option Jvm.ClassFile.FieldType))
theorem wd_27 : wv_27 ∈ tb_all := wd_o1 (i := 27) rfl rfl
abbrev wv_28 : Jvm.Cond := (Jvm.Cond.classLink "RouteHouse" (9 : Nat) "RouteHouse$Port")
theorem wd_28 : wv_28 ∈ tb_all := wd_o1 (i := 28) rfl rfl
abbrev wv_30 : Jvm.Cond := (Jvm.Cond.instantiable "RouteHouse$Port" (3 : Nat))
theorem wd_30 : wv_30 ∈ tb_all := wd_o1 (i := 30) rfl rfl
abbrev wv_31 : Jvm.Cond := (Jvm.Cond.methodLink "RouteHouse" (15 : Nat) ({ cls := "RouteHouse$Port", name := "<init>", desc := "()V" } : Jvm.MethodName))
theorem wd_31 : wv_31 ∈ tb_all := wd_o1 (i := 31) rfl rfl
abbrev wv_32 : Jvm.Cond := (Jvm.Cond.instanceMethod ({ cls := "RouteHouse$Port", name := "<init>", desc := "()V" } : Jvm.MethodName))
theorem wd_32 : wv_32 ∈ tb_all := wd_o1 (i := 32) rfl rfl
abbrev wv_33 : Jvm.Cond := (Jvm.Cond.code ({ cls := "RouteHouse$Port", name := "<init>", desc := "()V" } : Jvm.MethodName) prog_5_method_1_code (1 : Nat) (Option.none : Option Jvm.ClassFile.FieldType))
theorem wd_33 : wv_33 ∈ tb_all := wd_o1 (i := 33) rfl rfl
abbrev wv_34 : Jvm.Cond := (Jvm.Cond.methodLink "RouteHouse$Port" (3 : Nat) ({ cls := "java/lang/Object", name := "<init>", desc := "()V" } : Jvm.MethodName))
theorem wd_34 : wv_34 ∈ tb_all := wd_o1 (i := 34) rfl rfl
abbrev wv_35 : Jvm.Cond := (Jvm.Cond.fieldLink "RouteHouse" (73 : Nat) "RouteHouse$Port" "address" "I")
theorem wd_35 : wv_35 ∈ tb_all := wd_o1 (i := 35) rfl rfl
abbrev wv_36 : Jvm.Cond := (Jvm.Cond.fieldLink "RouteHouse$Port" (9 : Nat) "RouteHouse$Port" "mtu" "I")
theorem wd_36 : wv_36 ∈ tb_all := wd_o1 (i := 36) rfl rfl
abbrev wv_37 : Jvm.Cond := (Jvm.Cond.fieldLink "RouteHouse" (76 : Nat) "RouteHouse$Port" "mtu" "I")
theorem wd_37 : wv_37 ∈ tb_all := wd_o1 (i := 37) rfl rfl
abbrev wv_38 : Jvm.Cond := (Jvm.Cond.fieldLink "RouteHouse$Port" (15 : Nat) "RouteHouse$Port" "isUp" "Z")
theorem wd_38 : wv_38 ∈ tb_all := wd_o1 (i := 38) rfl rfl
abbrev wv_39 : Jvm.Cond := (Jvm.Cond.fieldLink "RouteHouse" (79 : Nat) "RouteHouse$Port" "isUp" "Z")
theorem wd_39 : wv_39 ∈ tb_all := wd_o1 (i := 39) rfl rfl
abbrev wv_40 : Jvm.Cond := (Jvm.Cond.lays "RouteHouse$Port" "RouteHouse$Port" "address" "I")
theorem wd_40 : wv_40 ∈ tb_all := wd_o1 (i := 40) rfl rfl
abbrev wv_42 : Jvm.Cond := (Jvm.Cond.lays "RouteHouse$Port" "RouteHouse$Port" "mtu" "I")
theorem wd_42 : wv_42 ∈ tb_all := wd_o1 (i := 42) rfl rfl
abbrev wv_44 : Jvm.Cond := (Jvm.Cond.lays "RouteHouse$Port" "RouteHouse$Port" "isUp" "Z")
theorem wd_44 : wv_44 ∈ tb_all := wd_o1 (i := 44) rfl rfl
abbrev wv_47 : Jvm.Cond := (Jvm.Cond.classLink "RouteHouse" (16 : Nat) "RouteHouse$Routes")
theorem wd_47 : wv_47 ∈ tb_all := wd_o1 (i := 47) rfl rfl
abbrev wv_48 : Jvm.Cond := (Jvm.Cond.instantiable "RouteHouse$Routes" (5 : Nat))
theorem wd_48 : wv_48 ∈ tb_all := wd_o1 (i := 48) rfl rfl
abbrev wv_49 : Jvm.Cond := (Jvm.Cond.methodLink "RouteHouse" (18 : Nat) ({ cls := "RouteHouse$Routes", name := "<init>", desc := "()V" } : Jvm.MethodName))
theorem wd_49 : wv_49 ∈ tb_all := wd_o1 (i := 49) rfl rfl
abbrev wv_50 : Jvm.Cond := (Jvm.Cond.instanceMethod ({ cls := "RouteHouse$Routes", name := "<init>", desc := "()V" } : Jvm.MethodName))
theorem wd_50 : wv_50 ∈ tb_all := wd_o1 (i := 50) rfl rfl
abbrev wv_51 : Jvm.Cond := (Jvm.Cond.code ({ cls := "RouteHouse$Routes", name := "<init>", desc := "()V" } : Jvm.MethodName) prog_6_method_1_code (1 : Nat) (Option.none : Option Jvm.ClassFile.FieldType))
theorem wd_51 : wv_51 ∈ tb_all := wd_o1 (i := 51) rfl rfl
abbrev wv_52 : Jvm.Cond := (Jvm.Cond.methodLink "RouteHouse$Routes" (3 : Nat) ({ cls := "java/lang/Object", name := "<init>", desc := "()V" } : Jvm.MethodName))
theorem wd_52 : wv_52 ∈ tb_all := wd_o1 (i := 52) rfl rfl
abbrev wv_53 : Jvm.Cond := (Jvm.Cond.fieldLink "RouteHouse$Routes" (9 : Nat) "RouteHouse$Routes" "beginnings" "[I")
theorem wd_53 : wv_53 ∈ tb_all := wd_o1 (i := 53) rfl rfl
abbrev wv_54 : Jvm.Cond := (Jvm.Cond.fieldLink "RouteHouse$Routes" (15 : Nat) "RouteHouse$Routes" "bits" "[I")
theorem wd_54 : wv_54 ∈ tb_all := wd_o1 (i := 54) rfl rfl
abbrev wv_55 : Jvm.Cond := (Jvm.Cond.fieldLink "RouteHouse" (115 : Nat) "RouteHouse$Routes" "bits" "[I")
theorem wd_55 : wv_55 ∈ tb_all := wd_o1 (i := 55) rfl rfl
abbrev wv_56 : Jvm.Cond := (Jvm.Cond.fieldLink "RouteHouse$Routes" (18 : Nat) "RouteHouse$Routes" "ways" "[I")
theorem wd_56 : wv_56 ∈ tb_all := wd_o1 (i := 56) rfl rfl
abbrev wv_57 : Jvm.Cond := (Jvm.Cond.fieldLink "RouteHouse" (111 : Nat) "RouteHouse$Routes" "ways" "[I")
theorem wd_57 : wv_57 ∈ tb_all := wd_o1 (i := 57) rfl rfl
abbrev wv_58 : Jvm.Cond := (Jvm.Cond.fieldLink "RouteHouse$Routes" (21 : Nat) "RouteHouse$Routes" "nexts" "[I")
theorem wd_58 : wv_58 ∈ tb_all := wd_o1 (i := 58) rfl rfl
abbrev wv_59 : Jvm.Cond := (Jvm.Cond.fieldLink "RouteHouse" (118 : Nat) "RouteHouse$Routes" "nexts" "[I")
theorem wd_59 : wv_59 ∈ tb_all := wd_o1 (i := 59) rfl rfl
abbrev wv_60 : Jvm.Cond := (Jvm.Cond.fieldLink "RouteHouse$Routes" (28 : Nat) "RouteHouse$Routes" "count" "I")
theorem wd_60 : wv_60 ∈ tb_all := wd_o1 (i := 60) rfl rfl
abbrev wv_61 : Jvm.Cond := (Jvm.Cond.fieldLink "RouteHouse" (90 : Nat) "RouteHouse$Routes" "count" "I")
theorem wd_61 : wv_61 ∈ tb_all := wd_o1 (i := 61) rfl rfl
abbrev wv_62 : Jvm.Cond := (Jvm.Cond.laysFinal "RouteHouse$Routes" "RouteHouse$Routes" "beginnings" "[I")
theorem wd_62 : wv_62 ∈ tb_all := wd_o1 (i := 62) rfl rfl
abbrev wv_64 : Jvm.Cond := (Jvm.Cond.laysFinal "RouteHouse$Routes" "RouteHouse$Routes" "bits" "[I")
theorem wd_64 : wv_64 ∈ tb_all := wd_o1 (i := 64) rfl rfl
abbrev wv_66 : Jvm.Cond := (Jvm.Cond.laysFinal "RouteHouse$Routes" "RouteHouse$Routes" "ways" "[I")
theorem wd_66 : wv_66 ∈ tb_all := wd_o1 (i := 66) rfl rfl
abbrev wv_68 : Jvm.Cond := (Jvm.Cond.laysFinal "RouteHouse$Routes" "RouteHouse$Routes" "nexts" "[I")
theorem wd_68 : wv_68 ∈ tb_all := wd_o1 (i := 68) rfl rfl
abbrev wv_70 : Jvm.Cond := (Jvm.Cond.lays "RouteHouse$Routes" "RouteHouse$Routes" "count" "I")
theorem wd_70 : wv_70 ∈ tb_all := wd_o1 (i := 70) rfl rfl
abbrev wv_73 : Jvm.Cond := (Jvm.Cond.arrayClass Jvm.ClassFile.FieldType.int)
theorem wd_73 : wv_73 ∈ tb_all := wd_o1 (i := 73) rfl rfl
abbrev wv_74 : Jvm.Cond := (Jvm.Cond.classLink "RouteHouse" (23 : Nat) "RouteHouse$Packet")
theorem wd_74 : wv_74 ∈ tb_all := wd_o1 (i := 74) rfl rfl
abbrev wv_75 : Jvm.Cond := (Jvm.Cond.instantiable "RouteHouse$Packet" (2 : Nat))
theorem wd_75 : wv_75 ∈ tb_all := wd_o1 (i := 75) rfl rfl
abbrev wv_76 : Jvm.Cond := (Jvm.Cond.methodLink "RouteHouse" (25 : Nat) ({ cls := "RouteHouse$Packet", name := "<init>", desc := "(I)V" } : Jvm.MethodName))
theorem wd_76 : wv_76 ∈ tb_all := wd_o1 (i := 76) rfl rfl
abbrev wv_77 : Jvm.Cond := (Jvm.Cond.instanceMethod ({ cls := "RouteHouse$Packet", name := "<init>", desc := "(I)V" } : Jvm.MethodName))
theorem wd_77 : wv_77 ∈ tb_all := wd_o1 (i := 77) rfl rfl
abbrev wv_78 : Jvm.Cond := (Jvm.Cond.code ({ cls := "RouteHouse$Packet", name := "<init>", desc := "(I)V" } : Jvm.MethodName) prog_4_method_1_code (2 : Nat) (Option.none : Option Jvm.ClassFile.FieldType))
theorem wd_78 : wv_78 ∈ tb_all := wd_o1 (i := 78) rfl rfl
abbrev wv_79 : Jvm.Cond := (Jvm.Cond.methodLink "RouteHouse$Packet" (3 : Nat) ({ cls := "java/lang/Object", name := "<init>", desc := "()V" } : Jvm.MethodName))
theorem wd_79 : wv_79 ∈ tb_all := wd_o1 (i := 79) rfl rfl
abbrev wv_80 : Jvm.Cond := (Jvm.Cond.fieldLink "RouteHouse$Packet" (9 : Nat) "RouteHouse$Packet" "row" "[B")
theorem wd_80 : wv_80 ∈ tb_all := wd_o1 (i := 80) rfl rfl
abbrev wv_81 : Jvm.Cond := (Jvm.Cond.fieldLink "RouteHouse$Delivery" (38 : Nat) "RouteHouse$Packet" "row" "[B")
theorem wd_81 : wv_81 ∈ tb_all := wd_o1 (i := 81) rfl rfl
abbrev wv_82 : Jvm.Cond := (Jvm.Cond.fieldLink "RouteHouse$Outbox" (44 : Nat) "RouteHouse$Packet" "row" "[B")
theorem wd_82 : wv_82 ∈ tb_all := wd_o1 (i := 82) rfl rfl
abbrev wv_83 : Jvm.Cond := (Jvm.Cond.fieldLink "RouteHouse$Waiting" (76 : Nat) "RouteHouse$Packet" "row" "[B")
theorem wd_83 : wv_83 ∈ tb_all := wd_o1 (i := 83) rfl rfl
abbrev wv_84 : Jvm.Cond := (Jvm.Cond.fieldLink "RouteHouse" (127 : Nat) "RouteHouse$Packet" "row" "[B")
theorem wd_84 : wv_84 ∈ tb_all := wd_o1 (i := 84) rfl rfl
abbrev wv_85 : Jvm.Cond := (Jvm.Cond.fieldLink "RouteHouse" (121 : Nat) "RouteHouse$Packet" "count" "I")
theorem wd_85 : wv_85 ∈ tb_all := wd_o1 (i := 85) rfl rfl
abbrev wv_86 : Jvm.Cond := (Jvm.Cond.fieldLink "RouteHouse$Packet" (24 : Nat) "RouteHouse$Packet" "count" "I")
theorem wd_86 : wv_86 ∈ tb_all := wd_o1 (i := 86) rfl rfl
abbrev wv_87 : Jvm.Cond := (Jvm.Cond.laysFinal "RouteHouse$Packet" "RouteHouse$Packet" "row" "[B")
theorem wd_87 : wv_87 ∈ tb_all := wd_o1 (i := 87) rfl rfl
abbrev wv_89 : Jvm.Cond := (Jvm.Cond.lays "RouteHouse$Packet" "RouteHouse$Packet" "count" "I")
theorem wd_89 : wv_89 ∈ tb_all := wd_o1 (i := 89) rfl rfl
abbrev wv_92 : Jvm.Cond := (Jvm.Cond.arrayClass Jvm.ClassFile.FieldType.byte)
theorem wd_92 : wv_92 ∈ tb_all := wd_o1 (i := 92) rfl rfl
abbrev wv_93 : Jvm.Cond := (Jvm.Cond.classLink "RouteHouse" (38 : Nat) "RouteHouse$Outbox")
theorem wd_93 : wv_93 ∈ tb_all := wd_o1 (i := 93) rfl rfl
abbrev wv_94 : Jvm.Cond := (Jvm.Cond.instantiable "RouteHouse$Outbox" (8 : Nat))
theorem wd_94 : wv_94 ∈ tb_all := wd_o1 (i := 94) rfl rfl
abbrev wv_95 : Jvm.Cond := (Jvm.Cond.methodLink "RouteHouse" (40 : Nat) ({ cls := "RouteHouse$Outbox", name := "<init>", desc := "()V" } : Jvm.MethodName))
theorem wd_95 : wv_95 ∈ tb_all := wd_o1 (i := 95) rfl rfl
abbrev wv_96 : Jvm.Cond := (Jvm.Cond.instanceMethod ({ cls := "RouteHouse$Outbox", name := "<init>", desc := "()V" } : Jvm.MethodName))
theorem wd_96 : wv_96 ∈ tb_all := wd_o1 (i := 96) rfl rfl
abbrev wv_97 : Jvm.Cond := (Jvm.Cond.code ({ cls := "RouteHouse$Outbox", name := "<init>", desc := "()V" } : Jvm.MethodName) prog_3_method_1_code (1 : Nat) (Option.none : Option Jvm.ClassFile.FieldType))
theorem wd_97 : wv_97 ∈ tb_all := wd_o1 (i := 97) rfl rfl
abbrev wv_98 : Jvm.Cond := (Jvm.Cond.methodLink "RouteHouse$Outbox" (3 : Nat) ({ cls := "java/lang/Object", name := "<init>", desc := "()V" } : Jvm.MethodName))
theorem wd_98 : wv_98 ∈ tb_all := wd_o1 (i := 98) rfl rfl
abbrev wv_99 : Jvm.Cond := (Jvm.Cond.fieldLink "RouteHouse$Outbox" (11 : Nat) "RouteHouse$Outbox" "bytes" "[B")
theorem wd_99 : wv_99 ∈ tb_all := wd_o1 (i := 99) rfl rfl
abbrev wv_100 : Jvm.Cond := (Jvm.Cond.fieldLink "RouteHouse" (154 : Nat) "RouteHouse$Outbox" "bytes" "[B")
theorem wd_100 : wv_100 ∈ tb_all := wd_o1 (i := 100) rfl rfl
abbrev wv_101 : Jvm.Cond := (Jvm.Cond.fieldLink "RouteHouse$Outbox" (15 : Nat) "RouteHouse$Outbox" "starts" "[I")
theorem wd_101 : wv_101 ∈ tb_all := wd_o1 (i := 101) rfl rfl
abbrev wv_102 : Jvm.Cond := (Jvm.Cond.fieldLink "RouteHouse" (157 : Nat) "RouteHouse$Outbox" "starts" "[I")
theorem wd_102 : wv_102 ∈ tb_all := wd_o1 (i := 102) rfl rfl
abbrev wv_103 : Jvm.Cond := (Jvm.Cond.fieldLink "RouteHouse$Outbox" (19 : Nat) "RouteHouse$Outbox" "lengths" "[I")
theorem wd_103 : wv_103 ∈ tb_all := wd_o1 (i := 103) rfl rfl
abbrev wv_104 : Jvm.Cond := (Jvm.Cond.fieldLink "RouteHouse" (151 : Nat) "RouteHouse$Outbox" "lengths" "[I")
theorem wd_104 : wv_104 ∈ tb_all := wd_o1 (i := 104) rfl rfl
abbrev wv_105 : Jvm.Cond := (Jvm.Cond.fieldLink "RouteHouse$Outbox" (22 : Nat) "RouteHouse$Outbox" "ways" "[I")
theorem wd_105 : wv_105 ∈ tb_all := wd_o1 (i := 105) rfl rfl
abbrev wv_106 : Jvm.Cond := (Jvm.Cond.fieldLink "RouteHouse" (182 : Nat) "RouteHouse$Outbox" "ways" "[I")
theorem wd_106 : wv_106 ∈ tb_all := wd_o1 (i := 106) rfl rfl
abbrev wv_107 : Jvm.Cond := (Jvm.Cond.fieldLink "RouteHouse$Outbox" (25 : Nat) "RouteHouse$Outbox" "nexts" "[I")
theorem wd_107 : wv_107 ∈ tb_all := wd_o1 (i := 107) rfl rfl
abbrev wv_108 : Jvm.Cond := (Jvm.Cond.fieldLink "RouteHouse" (183 : Nat) "RouteHouse$Outbox" "nexts" "[I")
theorem wd_108 : wv_108 ∈ tb_all := wd_o1 (i := 108) rfl rfl
abbrev wv_109 : Jvm.Cond := (Jvm.Cond.fieldLink "RouteHouse$Outbox" (28 : Nat) "RouteHouse$Outbox" "laterHeader" "[B")
theorem wd_109 : wv_109 ∈ tb_all := wd_o1 (i := 109) rfl rfl
abbrev wv_110 : Jvm.Cond := (Jvm.Cond.fieldLink "RouteHouse$Outbox" (31 : Nat) "RouteHouse$Outbox" "count" "I")
theorem wd_110 : wv_110 ∈ tb_all := wd_o1 (i := 110) rfl rfl
abbrev wv_111 : Jvm.Cond := (Jvm.Cond.fieldLink "RouteHouse" (181 : Nat) "RouteHouse$Outbox" "count" "I")
theorem wd_111 : wv_111 ∈ tb_all := wd_o1 (i := 111) rfl rfl
abbrev wv_112 : Jvm.Cond := (Jvm.Cond.fieldLink "RouteHouse$Outbox" (35 : Nat) "RouteHouse$Outbox" "used" "I")
theorem wd_112 : wv_112 ∈ tb_all := wd_o1 (i := 112) rfl rfl
abbrev wv_113 : Jvm.Cond := (Jvm.Cond.laysFinal "RouteHouse$Outbox" "RouteHouse$Outbox" "bytes" "[B")
theorem wd_113 : wv_113 ∈ tb_all := wd_o1 (i := 113) rfl rfl
abbrev wv_115 : Jvm.Cond := (Jvm.Cond.laysFinal "RouteHouse$Outbox" "RouteHouse$Outbox" "starts" "[I")
theorem wd_115 : wv_115 ∈ tb_all := wd_o1 (i := 115) rfl rfl
abbrev wv_117 : Jvm.Cond := (Jvm.Cond.laysFinal "RouteHouse$Outbox" "RouteHouse$Outbox" "lengths" "[I")
theorem wd_117 : wv_117 ∈ tb_all := wd_o1 (i := 117) rfl rfl
abbrev wv_119 : Jvm.Cond := (Jvm.Cond.laysFinal "RouteHouse$Outbox" "RouteHouse$Outbox" "ways" "[I")
theorem wd_119 : wv_119 ∈ tb_all := wd_o1 (i := 119) rfl rfl
abbrev wv_121 : Jvm.Cond := (Jvm.Cond.laysFinal "RouteHouse$Outbox" "RouteHouse$Outbox" "nexts" "[I")
theorem wd_121 : wv_121 ∈ tb_all := wd_o1 (i := 121) rfl rfl
abbrev wv_123 : Jvm.Cond := (Jvm.Cond.laysFinal "RouteHouse$Outbox" "RouteHouse$Outbox" "laterHeader" "[B")
theorem wd_123 : wv_123 ∈ tb_all := wd_o1 (i := 123) rfl rfl
abbrev wv_125 : Jvm.Cond := (Jvm.Cond.lays "RouteHouse$Outbox" "RouteHouse$Outbox" "count" "I")
theorem wd_125 : wv_125 ∈ tb_all := wd_o1 (i := 125) rfl rfl
abbrev wv_127 : Jvm.Cond := (Jvm.Cond.lays "RouteHouse$Outbox" "RouteHouse$Outbox" "used" "I")
theorem wd_127 : wv_127 ∈ tb_all := wd_o1 (i := 127) rfl rfl
abbrev wv_130 : Jvm.Cond := (Jvm.Cond.classLink "RouteHouse" (45 : Nat) "RouteHouse$Waits")
theorem wd_130 : wv_130 ∈ tb_all := wd_o1 (i := 130) rfl rfl
abbrev wv_131 : Jvm.Cond := (Jvm.Cond.instantiable "RouteHouse$Waits" (2 : Nat))
theorem wd_131 : wv_131 ∈ tb_all := wd_o1 (i := 131) rfl rfl
abbrev wv_132 : Jvm.Cond := (Jvm.Cond.methodLink "RouteHouse" (47 : Nat) ({ cls := "RouteHouse$Waits", name := "<init>", desc := "()V" } : Jvm.MethodName))
theorem wd_132 : wv_132 ∈ tb_all := wd_o1 (i := 132) rfl rfl
abbrev wv_133 : Jvm.Cond := (Jvm.Cond.instanceMethod ({ cls := "RouteHouse$Waits", name := "<init>", desc := "()V" } : Jvm.MethodName))
theorem wd_133 : wv_133 ∈ tb_all := wd_o1 (i := 133) rfl rfl
abbrev wv_134 : Jvm.Cond := (Jvm.Cond.code ({ cls := "RouteHouse$Waits", name := "<init>", desc := "()V" } : Jvm.MethodName) prog_8_method_1_code (2 : Nat) (Option.none : Option Jvm.ClassFile.FieldType))
theorem wd_134 : wv_134 ∈ tb_all := wd_o1 (i := 134) rfl rfl
abbrev wv_135 : Jvm.Cond := (Jvm.Cond.methodLink "RouteHouse$Waits" (3 : Nat) ({ cls := "java/lang/Object", name := "<init>", desc := "()V" } : Jvm.MethodName))
theorem wd_135 : wv_135 ∈ tb_all := wd_o1 (i := 135) rfl rfl
abbrev wv_136 : Jvm.Cond := (Jvm.Cond.classLink "RouteHouse$Waits" (9 : Nat) "RouteHouse$Waiting")
theorem wd_136 : wv_136 ∈ tb_all := wd_o1 (i := 136) rfl rfl
abbrev wv_138 : Jvm.Cond := (Jvm.Cond.instantiable "RouteHouse$Waiting" (13 : Nat))
theorem wd_138 : wv_138 ∈ tb_all := wd_o1 (i := 138) rfl rfl
abbrev wv_139 : Jvm.Cond := (Jvm.Cond.methodLink "RouteHouse$Waits" (17 : Nat) ({ cls := "RouteHouse$Waiting", name := "<init>", desc := "()V" } : Jvm.MethodName))
theorem wd_139 : wv_139 ∈ tb_all := wd_o1 (i := 139) rfl rfl
abbrev wv_140 : Jvm.Cond := (Jvm.Cond.instanceMethod ({ cls := "RouteHouse$Waiting", name := "<init>", desc := "()V" } : Jvm.MethodName))
theorem wd_140 : wv_140 ∈ tb_all := wd_o1 (i := 140) rfl rfl
abbrev wv_141 : Jvm.Cond := (Jvm.Cond.code ({ cls := "RouteHouse$Waiting", name := "<init>", desc := "()V" } : Jvm.MethodName) prog_7_method_1_code (1 : Nat) (Option.none : Option Jvm.ClassFile.FieldType))
theorem wd_141 : wv_141 ∈ tb_all := wd_o1 (i := 141) rfl rfl
abbrev wv_142 : Jvm.Cond := (Jvm.Cond.methodLink "RouteHouse$Waiting" (3 : Nat) ({ cls := "java/lang/Object", name := "<init>", desc := "()V" } : Jvm.MethodName))
theorem wd_142 : wv_142 ∈ tb_all := wd_o1 (i := 142) rfl rfl
abbrev wv_143 : Jvm.Cond := (Jvm.Cond.classLink "RouteHouse$Waiting" (9 : Nat) "RouteHouse$Packet")
theorem wd_143 : wv_143 ∈ tb_all := wd_o1 (i := 143) rfl rfl
abbrev wv_144 : Jvm.Cond := (Jvm.Cond.methodLink "RouteHouse$Waiting" (11 : Nat) ({ cls := "RouteHouse$Packet", name := "<init>", desc := "(I)V" } : Jvm.MethodName))
theorem wd_144 : wv_144 ∈ tb_all := wd_o1 (i := 144) rfl rfl
abbrev wv_145 : Jvm.Cond := (Jvm.Cond.fieldLink "RouteHouse$Waiting" (14 : Nat) "RouteHouse$Waiting" "first" "LRouteHouse$Packet;")
theorem wd_145 : wv_145 ∈ tb_all := wd_o1 (i := 145) rfl rfl
abbrev wv_146 : Jvm.Cond := (Jvm.Cond.fieldLink "RouteHouse" (305 : Nat) "RouteHouse$Waiting" "first" "LRouteHouse$Packet;")
theorem wd_146 : wv_146 ∈ tb_all := wd_o1 (i := 146) rfl rfl
abbrev wv_147 : Jvm.Cond := (Jvm.Cond.fieldLink "RouteHouse$Waiting" (20 : Nat) "RouteHouse$Waiting" "bytes" "[B")
theorem wd_147 : wv_147 ∈ tb_all := wd_o1 (i := 147) rfl rfl
abbrev wv_148 : Jvm.Cond := (Jvm.Cond.fieldLink "RouteHouse$Waiting" (24 : Nat) "RouteHouse$Waiting" "unitsThere" "[Z")
theorem wd_148 : wv_148 ∈ tb_all := wd_o1 (i := 148) rfl rfl
abbrev wv_149 : Jvm.Cond := (Jvm.Cond.fieldLink "RouteHouse$Waiting" (53 : Nat) "RouteHouse$Waiting" "hasFirst" "Z")
theorem wd_149 : wv_149 ∈ tb_all := wd_o1 (i := 149) rfl rfl
abbrev wv_150 : Jvm.Cond := (Jvm.Cond.fieldLink "RouteHouse" (300 : Nat) "RouteHouse$Waiting" "hasFirst" "Z")
theorem wd_150 : wv_150 ∈ tb_all := wd_o1 (i := 150) rfl rfl
abbrev wv_151 : Jvm.Cond := (Jvm.Cond.fieldLink "RouteHouse$Waiting" (94 : Nat) "RouteHouse$Waiting" "firstPort" "I")
theorem wd_151 : wv_151 ∈ tb_all := wd_o1 (i := 151) rfl rfl
abbrev wv_152 : Jvm.Cond := (Jvm.Cond.fieldLink "RouteHouse" (308 : Nat) "RouteHouse$Waiting" "firstPort" "I")
theorem wd_152 : wv_152 ∈ tb_all := wd_o1 (i := 152) rfl rfl
abbrev wv_153 : Jvm.Cond := (Jvm.Cond.fieldLink "RouteHouse$Waiting" (32 : Nat) "RouteHouse$Waiting" "source" "I")
theorem wd_153 : wv_153 ∈ tb_all := wd_o1 (i := 153) rfl rfl
abbrev wv_154 : Jvm.Cond := (Jvm.Cond.fieldLink "RouteHouse$Waiting" (38 : Nat) "RouteHouse$Waiting" "destination" "I")
theorem wd_154 : wv_154 ∈ tb_all := wd_o1 (i := 154) rfl rfl
abbrev wv_155 : Jvm.Cond := (Jvm.Cond.fieldLink "RouteHouse$Waiting" (43 : Nat) "RouteHouse$Waiting" "identity" "I")
theorem wd_155 : wv_155 ∈ tb_all := wd_o1 (i := 155) rfl rfl
abbrev wv_156 : Jvm.Cond := (Jvm.Cond.fieldLink "RouteHouse$Waiting" (48 : Nat) "RouteHouse$Waiting" "protocol" "I")
theorem wd_156 : wv_156 ∈ tb_all := wd_o1 (i := 156) rfl rfl
abbrev wv_157 : Jvm.Cond := (Jvm.Cond.fieldLink "RouteHouse$Waiting" (50 : Nat) "RouteHouse$Waiting" "since" "I")
theorem wd_157 : wv_157 ∈ tb_all := wd_o1 (i := 157) rfl rfl
abbrev wv_158 : Jvm.Cond := (Jvm.Cond.fieldLink "RouteHouse$Waits" (53 : Nat) "RouteHouse$Waiting" "since" "I")
theorem wd_158 : wv_158 ∈ tb_all := wd_o1 (i := 158) rfl rfl
abbrev wv_159 : Jvm.Cond := (Jvm.Cond.fieldLink "RouteHouse$Waiting" (57 : Nat) "RouteHouse$Waiting" "unitCount" "I")
theorem wd_159 : wv_159 ∈ tb_all := wd_o1 (i := 159) rfl rfl
abbrev wv_160 : Jvm.Cond := (Jvm.Cond.fieldLink "RouteHouse$Waiting" (60 : Nat) "RouteHouse$Waiting" "reach" "I")
theorem wd_160 : wv_160 ∈ tb_all := wd_o1 (i := 160) rfl rfl
abbrev wv_161 : Jvm.Cond := (Jvm.Cond.fieldLink "RouteHouse$Waiting" (63 : Nat) "RouteHouse$Waiting" "isEndKnown" "Z")
theorem wd_161 : wv_161 ∈ tb_all := wd_o1 (i := 161) rfl rfl
abbrev wv_162 : Jvm.Cond := (Jvm.Cond.laysFinal "RouteHouse$Waiting" "RouteHouse$Waiting" "first" "LRouteHouse$Packet;")
theorem wd_162 : wv_162 ∈ tb_all := wd_o1 (i := 162) rfl rfl
abbrev wv_164 : Jvm.Cond := (Jvm.Cond.laysFinal "RouteHouse$Waiting" "RouteHouse$Waiting" "bytes" "[B")
theorem wd_164 : wv_164 ∈ tb_all := wd_o1 (i := 164) rfl rfl
abbrev wv_166 : Jvm.Cond := (Jvm.Cond.laysFinal "RouteHouse$Waiting" "RouteHouse$Waiting" "unitsThere" "[Z")
theorem wd_166 : wv_166 ∈ tb_all := wd_o1 (i := 166) rfl rfl
abbrev wv_168 : Jvm.Cond := (Jvm.Cond.lays "RouteHouse$Waiting" "RouteHouse$Waiting" "hasFirst" "Z")
theorem wd_168 : wv_168 ∈ tb_all := wd_o1 (i := 168) rfl rfl
abbrev wv_170 : Jvm.Cond := (Jvm.Cond.lays "RouteHouse$Waiting" "RouteHouse$Waiting" "firstPort" "I")
theorem wd_170 : wv_170 ∈ tb_all := wd_o1 (i := 170) rfl rfl
abbrev wv_172 : Jvm.Cond := (Jvm.Cond.lays "RouteHouse$Waiting" "RouteHouse$Waiting" "source" "I")
theorem wd_172 : wv_172 ∈ tb_all := wd_o1 (i := 172) rfl rfl
abbrev wv_174 : Jvm.Cond := (Jvm.Cond.lays "RouteHouse$Waiting" "RouteHouse$Waiting" "destination" "I")
theorem wd_174 : wv_174 ∈ tb_all := wd_o1 (i := 174) rfl rfl
abbrev wv_176 : Jvm.Cond := (Jvm.Cond.lays "RouteHouse$Waiting" "RouteHouse$Waiting" "identity" "I")
theorem wd_176 : wv_176 ∈ tb_all := wd_o1 (i := 176) rfl rfl
abbrev wv_178 : Jvm.Cond := (Jvm.Cond.lays "RouteHouse$Waiting" "RouteHouse$Waiting" "protocol" "I")
theorem wd_178 : wv_178 ∈ tb_all := wd_o1 (i := 178) rfl rfl
abbrev wv_180 : Jvm.Cond := (Jvm.Cond.lays "RouteHouse$Waiting" "RouteHouse$Waiting" "since" "I")
theorem wd_180 : wv_180 ∈ tb_all := wd_o1 (i := 180) rfl rfl
abbrev wv_182 : Jvm.Cond := (Jvm.Cond.lays "RouteHouse$Waiting" "RouteHouse$Waiting" "unitCount" "I")
theorem wd_182 : wv_182 ∈ tb_all := wd_o1 (i := 182) rfl rfl
abbrev wv_184 : Jvm.Cond := (Jvm.Cond.lays "RouteHouse$Waiting" "RouteHouse$Waiting" "reach" "I")
theorem wd_184 : wv_184 ∈ tb_all := wd_o1 (i := 184) rfl rfl
abbrev wv_186 : Jvm.Cond := (Jvm.Cond.lays "RouteHouse$Waiting" "RouteHouse$Waiting" "isEndKnown" "Z")
theorem wd_186 : wv_186 ∈ tb_all := wd_o1 (i := 186) rfl rfl
abbrev wv_189 : Jvm.Cond := (Jvm.Cond.arrayClass Jvm.ClassFile.FieldType.boolean)
theorem wd_189 : wv_189 ∈ tb_all := wd_o1 (i := 189) rfl rfl
abbrev wv_190 : Jvm.Cond := (Jvm.Cond.fieldLink "RouteHouse$Waits" (11 : Nat) "RouteHouse$Waits" "oldestFirst" "[LRouteHouse$Waiting;")
theorem wd_190 : wv_190 ∈ tb_all := wd_o1 (i := 190) rfl rfl
abbrev wv_191 : Jvm.Cond := (Jvm.Cond.fieldLink "RouteHouse" (296 : Nat) "RouteHouse$Waits" "oldestFirst" "[LRouteHouse$Waiting;")
theorem wd_191 : wv_191 ∈ tb_all := wd_o1 (i := 191) rfl rfl
abbrev wv_192 : Jvm.Cond := (Jvm.Cond.fieldLink "RouteHouse$Waits" (49 : Nat) "RouteHouse$Waits" "count" "I")
theorem wd_192 : wv_192 ∈ tb_all := wd_o1 (i := 192) rfl rfl
abbrev wv_193 : Jvm.Cond := (Jvm.Cond.fieldLink "RouteHouse" (193 : Nat) "RouteHouse$Waits" "count" "I")
theorem wd_193 : wv_193 ∈ tb_all := wd_o1 (i := 193) rfl rfl
abbrev wv_194 : Jvm.Cond := (Jvm.Cond.laysFinal "RouteHouse$Waits" "RouteHouse$Waits" "oldestFirst" "[LRouteHouse$Waiting;")
theorem wd_194 : wv_194 ∈ tb_all := wd_o1 (i := 194) rfl rfl
abbrev wv_196 : Jvm.Cond := (Jvm.Cond.lays "RouteHouse$Waits" "RouteHouse$Waits" "count" "I")
theorem wd_196 : wv_196 ∈ tb_all := wd_o1 (i := 196) rfl rfl
abbrev wv_199 : Jvm.Cond := (Jvm.Cond.classLink "RouteHouse" (52 : Nat) "RouteHouse$Delivery")
theorem wd_199 : wv_199 ∈ tb_all := wd_o1 (i := 199) rfl rfl
abbrev wv_200 : Jvm.Cond := (Jvm.Cond.instantiable "RouteHouse$Delivery" (5 : Nat))
theorem wd_200 : wv_200 ∈ tb_all := wd_o1 (i := 200) rfl rfl
abbrev wv_201 : Jvm.Cond := (Jvm.Cond.methodLink "RouteHouse" (54 : Nat) ({ cls := "RouteHouse$Delivery", name := "<init>", desc := "()V" } : Jvm.MethodName))
theorem wd_201 : wv_201 ∈ tb_all := wd_o1 (i := 201) rfl rfl
abbrev wv_202 : Jvm.Cond := (Jvm.Cond.instanceMethod ({ cls := "RouteHouse$Delivery", name := "<init>", desc := "()V" } : Jvm.MethodName))
theorem wd_202 : wv_202 ∈ tb_all := wd_o1 (i := 202) rfl rfl
abbrev wv_203 : Jvm.Cond := (Jvm.Cond.code ({ cls := "RouteHouse$Delivery", name := "<init>", desc := "()V" } : Jvm.MethodName) prog_2_method_1_code (1 : Nat) (Option.none : Option Jvm.ClassFile.FieldType))
theorem wd_203 : wv_203 ∈ tb_all := wd_o1 (i := 203) rfl rfl
abbrev wv_204 : Jvm.Cond := (Jvm.Cond.methodLink "RouteHouse$Delivery" (3 : Nat) ({ cls := "java/lang/Object", name := "<init>", desc := "()V" } : Jvm.MethodName))
theorem wd_204 : wv_204 ∈ tb_all := wd_o1 (i := 204) rfl rfl
abbrev wv_205 : Jvm.Cond := (Jvm.Cond.fieldLink "RouteHouse$Delivery" (9 : Nat) "RouteHouse$Delivery" "bytes" "[B")
theorem wd_205 : wv_205 ∈ tb_all := wd_o1 (i := 205) rfl rfl
abbrev wv_206 : Jvm.Cond := (Jvm.Cond.fieldLink "RouteHouse" (192 : Nat) "RouteHouse$Delivery" "bytes" "[B")
theorem wd_206 : wv_206 ∈ tb_all := wd_o1 (i := 206) rfl rfl
abbrev wv_207 : Jvm.Cond := (Jvm.Cond.fieldLink "RouteHouse$Delivery" (15 : Nat) "RouteHouse$Delivery" "times" "I")
theorem wd_207 : wv_207 ∈ tb_all := wd_o1 (i := 207) rfl rfl
abbrev wv_208 : Jvm.Cond := (Jvm.Cond.fieldLink "RouteHouse" (200 : Nat) "RouteHouse$Delivery" "times" "I")
theorem wd_208 : wv_208 ∈ tb_all := wd_o1 (i := 208) rfl rfl
abbrev wv_209 : Jvm.Cond := (Jvm.Cond.fieldLink "RouteHouse$Delivery" (25 : Nat) "RouteHouse$Delivery" "source" "I")
theorem wd_209 : wv_209 ∈ tb_all := wd_o1 (i := 209) rfl rfl
abbrev wv_210 : Jvm.Cond := (Jvm.Cond.fieldLink "RouteHouse" (203 : Nat) "RouteHouse$Delivery" "source" "I")
theorem wd_210 : wv_210 ∈ tb_all := wd_o1 (i := 210) rfl rfl
abbrev wv_211 : Jvm.Cond := (Jvm.Cond.fieldLink "RouteHouse$Delivery" (30 : Nat) "RouteHouse$Delivery" "destination" "I")
theorem wd_211 : wv_211 ∈ tb_all := wd_o1 (i := 211) rfl rfl
abbrev wv_212 : Jvm.Cond := (Jvm.Cond.fieldLink "RouteHouse" (206 : Nat) "RouteHouse$Delivery" "destination" "I")
theorem wd_212 : wv_212 ∈ tb_all := wd_o1 (i := 212) rfl rfl
abbrev wv_213 : Jvm.Cond := (Jvm.Cond.fieldLink "RouteHouse$Delivery" (35 : Nat) "RouteHouse$Delivery" "count" "I")
theorem wd_213 : wv_213 ∈ tb_all := wd_o1 (i := 213) rfl rfl
abbrev wv_214 : Jvm.Cond := (Jvm.Cond.fieldLink "RouteHouse" (191 : Nat) "RouteHouse$Delivery" "count" "I")
theorem wd_214 : wv_214 ∈ tb_all := wd_o1 (i := 214) rfl rfl
abbrev wv_215 : Jvm.Cond := (Jvm.Cond.laysFinal "RouteHouse$Delivery" "RouteHouse$Delivery" "bytes" "[B")
theorem wd_215 : wv_215 ∈ tb_all := wd_o1 (i := 215) rfl rfl
abbrev wv_217 : Jvm.Cond := (Jvm.Cond.lays "RouteHouse$Delivery" "RouteHouse$Delivery" "times" "I")
theorem wd_217 : wv_217 ∈ tb_all := wd_o1 (i := 217) rfl rfl
abbrev wv_219 : Jvm.Cond := (Jvm.Cond.lays "RouteHouse$Delivery" "RouteHouse$Delivery" "source" "I")
theorem wd_219 : wv_219 ∈ tb_all := wd_o1 (i := 219) rfl rfl
abbrev wv_221 : Jvm.Cond := (Jvm.Cond.lays "RouteHouse$Delivery" "RouteHouse$Delivery" "destination" "I")
theorem wd_221 : wv_221 ∈ tb_all := wd_o1 (i := 221) rfl rfl
abbrev wv_223 : Jvm.Cond := (Jvm.Cond.lays "RouteHouse$Delivery" "RouteHouse$Delivery" "count" "I")
theorem wd_223 : wv_223 ∈ tb_all := wd_o1 (i := 223) rfl rfl
abbrev wv_226 : Jvm.Cond := (Jvm.Cond.fieldLink "RouteHouse" (11 : Nat) "RouteHouse" "ports" "[LRouteHouse$Port;")
theorem wd_226 : wv_226 ∈ tb_all := wd_o1 (i := 226) rfl rfl
abbrev wv_227 : Jvm.Cond := (Jvm.Cond.fieldLink "RouteHouse" (19 : Nat) "RouteHouse" "routes" "LRouteHouse$Routes;")
theorem wd_227 : wv_227 ∈ tb_all := wd_o1 (i := 227) rfl rfl
abbrev wv_228 : Jvm.Cond := (Jvm.Cond.fieldLink "RouteHouse" (28 : Nat) "RouteHouse" "tape" "LRouteHouse$Packet;")
theorem wd_228 : wv_228 ∈ tb_all := wd_o1 (i := 228) rfl rfl
abbrev wv_229 : Jvm.Cond := (Jvm.Cond.fieldLink "RouteHouse" (32 : Nat) "RouteHouse" "whole" "LRouteHouse$Packet;")
theorem wd_229 : wv_229 ∈ tb_all := wd_o1 (i := 229) rfl rfl
abbrev wv_230 : Jvm.Cond := (Jvm.Cond.fieldLink "RouteHouse" (35 : Nat) "RouteHouse" "reply" "LRouteHouse$Packet;")
theorem wd_230 : wv_230 ∈ tb_all := wd_o1 (i := 230) rfl rfl
abbrev wv_231 : Jvm.Cond := (Jvm.Cond.fieldLink "RouteHouse" (41 : Nat) "RouteHouse" "outbox" "LRouteHouse$Outbox;")
theorem wd_231 : wv_231 ∈ tb_all := wd_o1 (i := 231) rfl rfl
abbrev wv_232 : Jvm.Cond := (Jvm.Cond.fieldLink "RouteHouse" (48 : Nat) "RouteHouse" "waits" "LRouteHouse$Waits;")
theorem wd_232 : wv_232 ∈ tb_all := wd_o1 (i := 232) rfl rfl
abbrev wv_233 : Jvm.Cond := (Jvm.Cond.fieldLink "RouteHouse" (55 : Nat) "RouteHouse" "delivery" "LRouteHouse$Delivery;")
theorem wd_233 : wv_233 ∈ tb_all := wd_o1 (i := 233) rfl rfl
abbrev wv_234 : Jvm.Cond := (Jvm.Cond.fieldLink "RouteHouse" (59 : Nat) "RouteHouse" "tokens" "I")
theorem wd_234 : wv_234 ∈ tb_all := wd_o1 (i := 234) rfl rfl
abbrev wv_235 : Jvm.Cond := (Jvm.Cond.fieldLink "RouteHouse" (194 : Nat) "RouteHouse" "replies" "I")
theorem wd_235 : wv_235 ∈ tb_all := wd_o1 (i := 235) rfl rfl
abbrev wv_236 : Jvm.Cond := (Jvm.Cond.fieldLink "RouteHouse" (197 : Nat) "RouteHouse" "time" "I")
theorem wd_236 : wv_236 ∈ tb_all := wd_o1 (i := 236) rfl rfl
abbrev wv_237 : Jvm.Cond := (Jvm.Cond.laysFinal "RouteHouse" "RouteHouse" "ports" "[LRouteHouse$Port;")
theorem wd_237 : wv_237 ∈ tb_all := wd_o1 (i := 237) rfl rfl
abbrev wv_239 : Jvm.Cond := (Jvm.Cond.laysFinal "RouteHouse" "RouteHouse" "routes" "LRouteHouse$Routes;")
theorem wd_239 : wv_239 ∈ tb_all := wd_o1 (i := 239) rfl rfl
abbrev wv_241 : Jvm.Cond := (Jvm.Cond.laysFinal "RouteHouse" "RouteHouse" "tape" "LRouteHouse$Packet;")
theorem wd_241 : wv_241 ∈ tb_all := wd_o2 (i := 1) rfl rfl
abbrev wv_243 : Jvm.Cond := (Jvm.Cond.laysFinal "RouteHouse" "RouteHouse" "whole" "LRouteHouse$Packet;")
theorem wd_243 : wv_243 ∈ tb_all := wd_o2 (i := 3) rfl rfl
abbrev wv_245 : Jvm.Cond := (Jvm.Cond.laysFinal "RouteHouse" "RouteHouse" "reply" "LRouteHouse$Packet;")
theorem wd_245 : wv_245 ∈ tb_all := wd_o2 (i := 5) rfl rfl
abbrev wv_247 : Jvm.Cond := (Jvm.Cond.laysFinal "RouteHouse" "RouteHouse" "outbox" "LRouteHouse$Outbox;")
theorem wd_247 : wv_247 ∈ tb_all := wd_o2 (i := 7) rfl rfl
abbrev wv_249 : Jvm.Cond := (Jvm.Cond.laysFinal "RouteHouse" "RouteHouse" "waits" "LRouteHouse$Waits;")
theorem wd_249 : wv_249 ∈ tb_all := wd_o2 (i := 9) rfl rfl
abbrev wv_251 : Jvm.Cond := (Jvm.Cond.laysFinal "RouteHouse" "RouteHouse" "delivery" "LRouteHouse$Delivery;")
theorem wd_251 : wv_251 ∈ tb_all := wd_o2 (i := 11) rfl rfl
abbrev wv_253 : Jvm.Cond := (Jvm.Cond.lays "RouteHouse" "RouteHouse" "tokens" "I")
theorem wd_253 : wv_253 ∈ tb_all := wd_o2 (i := 13) rfl rfl
abbrev wv_255 : Jvm.Cond := (Jvm.Cond.lays "RouteHouse" "RouteHouse" "replies" "I")
theorem wd_255 : wv_255 ∈ tb_all := wd_o2 (i := 15) rfl rfl
abbrev wv_257 : Jvm.Cond := (Jvm.Cond.lays "RouteHouse" "RouteHouse" "time" "I")
theorem wd_257 : wv_257 ∈ tb_all := wd_o2 (i := 17) rfl rfl
abbrev wv_273 : Jvm.Cond := (Jvm.Cond.methodLink "RouteHouse" (63 : Nat) ({ cls := "RouteHouse", name := "refuseStrangePort", desc := "(I)V" } : Jvm.MethodName))
theorem wd_273 : wv_273 ∈ tb_all := wd_o2 (i := 33) rfl rfl
abbrev wv_275 : Jvm.Cond := (Jvm.Cond.instanceMethod ({ cls := "RouteHouse", name := "refuseStrangePort", desc := "(I)V" } : Jvm.MethodName))
theorem wd_275 : wv_275 ∈ tb_all := wd_o2 (i := 35) rfl rfl
abbrev wv_276 : Jvm.Cond := (Jvm.Cond.code ({ cls := "RouteHouse", name := "refuseStrangePort", desc := "(I)V" } : Jvm.MethodName) prog_1_method_17_code (2 : Nat) (Option.none : Option Jvm.ClassFile.FieldType))
theorem wd_276 : wv_276 ∈ tb_all := wd_o2 (i := 36) rfl rfl
abbrev wv_376 : Jvm.Cond := (Jvm.Cond.methodLink "RouteHouse" (83 : Nat) ({ cls := "RouteHouse", name := "refuseStrangeBits", desc := "(I)V" } : Jvm.MethodName))
theorem wd_376 : wv_376 ∈ tb_all := wd_o2 (i := 136) rfl rfl
abbrev wv_378 : Jvm.Cond := (Jvm.Cond.instanceMethod ({ cls := "RouteHouse", name := "refuseStrangeBits", desc := "(I)V" } : Jvm.MethodName))
theorem wd_378 : wv_378 ∈ tb_all := wd_o2 (i := 138) rfl rfl
abbrev wv_379 : Jvm.Cond := (Jvm.Cond.code ({ cls := "RouteHouse", name := "refuseStrangeBits", desc := "(I)V" } : Jvm.MethodName) prog_1_method_19_code (2 : Nat) (Option.none : Option Jvm.ClassFile.FieldType))
theorem wd_379 : wv_379 ∈ tb_all := wd_o2 (i := 139) rfl rfl
abbrev wv_381 : Jvm.Cond := (Jvm.Cond.methodLink "RouteHouse" (86 : Nat) ({ cls := "RouteHouse$Routes", name := "find", desc := "(II)I" } : Jvm.MethodName))
theorem wd_381 : wv_381 ∈ tb_all := wd_o2 (i := 141) rfl rfl
abbrev wv_382 : Jvm.Cond := (Jvm.Cond.instanceMethod ({ cls := "RouteHouse$Routes", name := "find", desc := "(II)I" } : Jvm.MethodName))
theorem wd_382 : wv_382 ∈ tb_all := wd_o2 (i := 142) rfl rfl
abbrev wv_383 : Jvm.Cond := (Jvm.Cond.selects "RouteHouse$Routes" ({ cls := "RouteHouse$Routes", name := "find", desc := "(II)I" } : Jvm.MethodName) ({ cls := "RouteHouse$Routes", name := "find", desc := "(II)I" } : Jvm.MethodName))
theorem wd_383 : wv_383 ∈ tb_all := wd_o2 (i := 143) rfl rfl
abbrev wv_384 : Jvm.Cond := (Jvm.Cond.code ({ cls := "RouteHouse$Routes", name := "find", desc := "(II)I" } : Jvm.MethodName) prog_6_method_3_code (5 : Nat) (Option.some Jvm.ClassFile.FieldType.int))
theorem wd_384 : wv_384 ∈ tb_all := wd_o2 (i := 144) rfl rfl
abbrev wv_385 : Jvm.Cond := (Jvm.Cond.methodLink "RouteHouse$Routes" (24 : Nat) ({ cls := "RouteHouse$Routes", name := "beginning", desc := "(II)I" } : Jvm.MethodName))
theorem wd_385 : wv_385 ∈ tb_all := wd_o2 (i := 145) rfl rfl
abbrev wv_386 : Jvm.Cond := (Jvm.Cond.static ({ cls := "RouteHouse$Routes", name := "beginning", desc := "(II)I" } : Jvm.MethodName))
theorem wd_386 : wv_386 ∈ tb_all := wd_o2 (i := 146) rfl rfl
abbrev wv_387 : Jvm.Cond := (Jvm.Cond.code ({ cls := "RouteHouse$Routes", name := "beginning", desc := "(II)I" } : Jvm.MethodName) prog_6_method_2_code (2 : Nat) (Option.some Jvm.ClassFile.FieldType.int))
theorem wd_387 : wv_387 ∈ tb_all := wd_o2 (i := 147) rfl rfl
abbrev wv_404 : Jvm.Cond := (Jvm.Cond.methodLink "RouteHouse" (98 : Nat) ({ cls := "RouteHouse$Routes", name := "put", desc := "(IIIII)V" } : Jvm.MethodName))
theorem wd_404 : wv_404 ∈ tb_all := wd_o2 (i := 164) rfl rfl
abbrev wv_405 : Jvm.Cond := (Jvm.Cond.instanceMethod ({ cls := "RouteHouse$Routes", name := "put", desc := "(IIIII)V" } : Jvm.MethodName))
theorem wd_405 : wv_405 ∈ tb_all := wd_o2 (i := 165) rfl rfl
abbrev wv_406 : Jvm.Cond := (Jvm.Cond.selects "RouteHouse$Routes" ({ cls := "RouteHouse$Routes", name := "put", desc := "(IIIII)V" } : Jvm.MethodName) ({ cls := "RouteHouse$Routes", name := "put", desc := "(IIIII)V" } : Jvm.MethodName))
theorem wd_406 : wv_406 ∈ tb_all := wd_o2 (i := 166) rfl rfl
abbrev wv_407 : Jvm.Cond := (Jvm.Cond.code ({ cls := "RouteHouse$Routes", name := "put", desc := "(IIIII)V" } : Jvm.MethodName) prog_6_method_5_code (7 : Nat) (Option.none : Option Jvm.ClassFile.FieldType))
theorem wd_407 : wv_407 ∈ tb_all := wd_o2 (i := 167) rfl rfl
abbrev wv_415 : Jvm.Cond := (Jvm.Cond.methodLink "RouteHouse" (102 : Nat) ({ cls := "RouteHouse$Routes", name := "remove", desc := "(I)V" } : Jvm.MethodName))
theorem wd_415 : wv_415 ∈ tb_all := wd_o2 (i := 175) rfl rfl
abbrev wv_416 : Jvm.Cond := (Jvm.Cond.instanceMethod ({ cls := "RouteHouse$Routes", name := "remove", desc := "(I)V" } : Jvm.MethodName))
theorem wd_416 : wv_416 ∈ tb_all := wd_o2 (i := 176) rfl rfl
abbrev wv_417 : Jvm.Cond := (Jvm.Cond.selects "RouteHouse$Routes" ({ cls := "RouteHouse$Routes", name := "remove", desc := "(I)V" } : Jvm.MethodName) ({ cls := "RouteHouse$Routes", name := "remove", desc := "(I)V" } : Jvm.MethodName))
theorem wd_417 : wv_417 ∈ tb_all := wd_o2 (i := 177) rfl rfl
abbrev wv_418 : Jvm.Cond := (Jvm.Cond.code ({ cls := "RouteHouse$Routes", name := "remove", desc := "(I)V" } : Jvm.MethodName) prog_6_method_6_code (2 : Nat) (Option.none : Option Jvm.ClassFile.FieldType))
theorem wd_418 : wv_418 ∈ tb_all := wd_o2 (i := 178) rfl rfl
abbrev wv_427 : Jvm.Cond := (Jvm.Cond.methodLink "RouteHouse" (107 : Nat) ({ cls := "RouteHouse$Routes", name := "longest", desc := "(I)I" } : Jvm.MethodName))
theorem wd_427 : wv_427 ∈ tb_all := wd_o2 (i := 187) rfl rfl
abbrev wv_428 : Jvm.Cond := (Jvm.Cond.instanceMethod ({ cls := "RouteHouse$Routes", name := "longest", desc := "(I)I" } : Jvm.MethodName))
theorem wd_428 : wv_428 ∈ tb_all := wd_o2 (i := 188) rfl rfl
abbrev wv_429 : Jvm.Cond := (Jvm.Cond.selects "RouteHouse$Routes" ({ cls := "RouteHouse$Routes", name := "longest", desc := "(I)I" } : Jvm.MethodName) ({ cls := "RouteHouse$Routes", name := "longest", desc := "(I)I" } : Jvm.MethodName))
theorem wd_429 : wv_429 ∈ tb_all := wd_o2 (i := 189) rfl rfl
abbrev wv_430 : Jvm.Cond := (Jvm.Cond.code ({ cls := "RouteHouse$Routes", name := "longest", desc := "(I)I" } : Jvm.MethodName) prog_6_method_4_code (5 : Nat) (Option.some Jvm.ClassFile.FieldType.int))
theorem wd_430 : wv_430 ∈ tb_all := wd_o2 (i := 190) rfl rfl
abbrev wv_455 : Jvm.Cond := (Jvm.Cond.methodLink "RouteHouse" (131 : Nat) ({ cls := "RouteHouse$Wire", name := "setFour", desc := "([BII)V" } : Jvm.MethodName))
theorem wd_455 : wv_455 ∈ tb_all := wd_o2 (i := 215) rfl rfl
abbrev wv_456 : Jvm.Cond := (Jvm.Cond.static ({ cls := "RouteHouse$Wire", name := "setFour", desc := "([BII)V" } : Jvm.MethodName))
theorem wd_456 : wv_456 ∈ tb_all := wd_o2 (i := 216) rfl rfl
abbrev wv_457 : Jvm.Cond := (Jvm.Cond.code ({ cls := "RouteHouse$Wire", name := "setFour", desc := "([BII)V" } : Jvm.MethodName) prog_9_method_5_code (3 : Nat) (Option.none : Option Jvm.ClassFile.FieldType))
theorem wd_457 : wv_457 ∈ tb_all := wd_o2 (i := 217) rfl rfl
abbrev wv_474 : Jvm.Cond := (Jvm.Cond.methodLink "RouteHouse" (141 : Nat) ({ cls := "RouteHouse$Wire", name := "sumOf", desc := "([BIII)I" } : Jvm.MethodName))
theorem wd_474 : wv_474 ∈ tb_all := wd_o2 (i := 234) rfl rfl
abbrev wv_475 : Jvm.Cond := (Jvm.Cond.static ({ cls := "RouteHouse$Wire", name := "sumOf", desc := "([BIII)I" } : Jvm.MethodName))
theorem wd_475 : wv_475 ∈ tb_all := wd_o2 (i := 235) rfl rfl
abbrev wv_476 : Jvm.Cond := (Jvm.Cond.code ({ cls := "RouteHouse$Wire", name := "sumOf", desc := "([BIII)I" } : Jvm.MethodName) prog_9_method_6_code (7 : Nat) (Option.some Jvm.ClassFile.FieldType.int))
theorem wd_476 : wv_476 ∈ tb_all := wd_o2 (i := 236) rfl rfl
abbrev wv_477 : Jvm.Cond := (Jvm.Cond.constant "RouteHouse$Wire" (7 : Nat) (65535 : Int32))
theorem wd_477 : wv_477 ∈ tb_all := wd_o2 (i := 237) rfl rfl
abbrev wv_478 : Jvm.Cond := (Jvm.Cond.methodLink "RouteHouse" (145 : Nat) ({ cls := "RouteHouse$Wire", name := "setTwo", desc := "([BII)V" } : Jvm.MethodName))
theorem wd_478 : wv_478 ∈ tb_all := wd_o2 (i := 238) rfl rfl
abbrev wv_479 : Jvm.Cond := (Jvm.Cond.static ({ cls := "RouteHouse$Wire", name := "setTwo", desc := "([BII)V" } : Jvm.MethodName))
theorem wd_479 : wv_479 ∈ tb_all := wd_o2 (i := 239) rfl rfl
abbrev wv_480 : Jvm.Cond := (Jvm.Cond.code ({ cls := "RouteHouse$Wire", name := "setTwo", desc := "([BII)V" } : Jvm.MethodName) prog_9_method_4_code (3 : Nat) (Option.none : Option Jvm.ClassFile.FieldType))
theorem wd_480 : wv_480 ∈ tb_all := wd_o3 (i := 0) rfl rfl
abbrev wv_488 : Jvm.Cond := (Jvm.Cond.methodLink "RouteHouse" (148 : Nat) ({ cls := "RouteHouse", name := "refuseStrangePacket", desc := "(I)V" } : Jvm.MethodName))
theorem wd_488 : wv_488 ∈ tb_all := wd_o3 (i := 8) rfl rfl
abbrev wv_490 : Jvm.Cond := (Jvm.Cond.instanceMethod ({ cls := "RouteHouse", name := "refuseStrangePacket", desc := "(I)V" } : Jvm.MethodName))
theorem wd_490 : wv_490 ∈ tb_all := wd_o3 (i := 10) rfl rfl
abbrev wv_491 : Jvm.Cond := (Jvm.Cond.code ({ cls := "RouteHouse", name := "refuseStrangePacket", desc := "(I)V" } : Jvm.MethodName) prog_1_method_18_code (2 : Nat) (Option.none : Option Jvm.ClassFile.FieldType))
theorem wd_491 : wv_491 ∈ tb_all := wd_o3 (i := 11) rfl rfl
abbrev wv_493 : Jvm.Cond := (Jvm.Cond.methodLink "RouteHouse" (160 : Nat) ({ cls := "java/lang/System", name := "arraycopy", desc := "(Ljava/lang/Object;ILjava/lang/Object;II)V" } : Jvm.MethodName))
theorem wd_493 : wv_493 ∈ tb_all := wd_o3 (i := 13) rfl rfl
abbrev wv_494 : Jvm.Cond := (Jvm.Cond.static ({ cls := "java/lang/System", name := "arraycopy", desc := "(Ljava/lang/Object;ILjava/lang/Object;II)V" } : Jvm.MethodName))
theorem wd_494 : wv_494 ∈ tb_all := wd_o3 (i := 14) rfl rfl
abbrev wv_495 : Jvm.Cond := (Jvm.Cond.native ({ cls := "java/lang/System", name := "arraycopy", desc := "(Ljava/lang/Object;ILjava/lang/Object;II)V" } : Jvm.MethodName))
theorem wd_495 : wv_495 ∈ tb_all := wd_o3 (i := 15) rfl rfl
abbrev wv_503 : Jvm.Cond := (Jvm.Cond.methodLink "RouteHouse" (166 : Nat) ({ cls := "RouteHouse$Outbox", name := "empty", desc := "()V" } : Jvm.MethodName))
theorem wd_503 : wv_503 ∈ tb_all := wd_o3 (i := 23) rfl rfl
abbrev wv_504 : Jvm.Cond := (Jvm.Cond.instanceMethod ({ cls := "RouteHouse$Outbox", name := "empty", desc := "()V" } : Jvm.MethodName))
theorem wd_504 : wv_504 ∈ tb_all := wd_o3 (i := 24) rfl rfl
abbrev wv_505 : Jvm.Cond := (Jvm.Cond.selects "RouteHouse$Outbox" ({ cls := "RouteHouse$Outbox", name := "empty", desc := "()V" } : Jvm.MethodName) ({ cls := "RouteHouse$Outbox", name := "empty", desc := "()V" } : Jvm.MethodName))
theorem wd_505 : wv_505 ∈ tb_all := wd_o3 (i := 25) rfl rfl
abbrev wv_506 : Jvm.Cond := (Jvm.Cond.code ({ cls := "RouteHouse$Outbox", name := "empty", desc := "()V" } : Jvm.MethodName) prog_3_method_2_code (1 : Nat) (Option.none : Option Jvm.ClassFile.FieldType))
theorem wd_506 : wv_506 ∈ tb_all := wd_o3 (i := 26) rfl rfl
abbrev wv_507 : Jvm.Cond := (Jvm.Cond.methodLink "RouteHouse" (169 : Nat) ({ cls := "RouteHouse$Packet", name := "headerFault", desc := "()I" } : Jvm.MethodName))
theorem wd_507 : wv_507 ∈ tb_all := wd_o3 (i := 27) rfl rfl
abbrev wv_508 : Jvm.Cond := (Jvm.Cond.instanceMethod ({ cls := "RouteHouse$Packet", name := "headerFault", desc := "()I" } : Jvm.MethodName))
theorem wd_508 : wv_508 ∈ tb_all := wd_o3 (i := 28) rfl rfl
abbrev wv_509 : Jvm.Cond := (Jvm.Cond.selects "RouteHouse$Packet" ({ cls := "RouteHouse$Packet", name := "headerFault", desc := "()I" } : Jvm.MethodName) ({ cls := "RouteHouse$Packet", name := "headerFault", desc := "()I" } : Jvm.MethodName))
theorem wd_509 : wv_509 ∈ tb_all := wd_o3 (i := 29) rfl rfl
abbrev wv_510 : Jvm.Cond := (Jvm.Cond.code ({ cls := "RouteHouse$Packet", name := "headerFault", desc := "()I" } : Jvm.MethodName) prog_4_method_14_code (4 : Nat) (Option.some Jvm.ClassFile.FieldType.int))
theorem wd_510 : wv_510 ∈ tb_all := wd_o3 (i := 30) rfl rfl
abbrev wv_511 : Jvm.Cond := (Jvm.Cond.methodLink "RouteHouse$Packet" (28 : Nat) ({ cls := "RouteHouse$Packet", name := "headerLength", desc := "()I" } : Jvm.MethodName))
theorem wd_511 : wv_511 ∈ tb_all := wd_o3 (i := 31) rfl rfl
abbrev wv_512 : Jvm.Cond := (Jvm.Cond.instanceMethod ({ cls := "RouteHouse$Packet", name := "headerLength", desc := "()I" } : Jvm.MethodName))
theorem wd_512 : wv_512 ∈ tb_all := wd_o3 (i := 32) rfl rfl
abbrev wv_513 : Jvm.Cond := (Jvm.Cond.selects "RouteHouse$Packet" ({ cls := "RouteHouse$Packet", name := "headerLength", desc := "()I" } : Jvm.MethodName) ({ cls := "RouteHouse$Packet", name := "headerLength", desc := "()I" } : Jvm.MethodName))
theorem wd_513 : wv_513 ∈ tb_all := wd_o3 (i := 33) rfl rfl
abbrev wv_514 : Jvm.Cond := (Jvm.Cond.code ({ cls := "RouteHouse$Packet", name := "headerLength", desc := "()I" } : Jvm.MethodName) prog_4_method_2_code (1 : Nat) (Option.some Jvm.ClassFile.FieldType.int))
theorem wd_514 : wv_514 ∈ tb_all := wd_o3 (i := 34) rfl rfl
abbrev wv_515 : Jvm.Cond := (Jvm.Cond.methodLink "RouteHouse$Packet" (32 : Nat) ({ cls := "RouteHouse$Packet", name := "length", desc := "()I" } : Jvm.MethodName))
theorem wd_515 : wv_515 ∈ tb_all := wd_o3 (i := 35) rfl rfl
abbrev wv_516 : Jvm.Cond := (Jvm.Cond.instanceMethod ({ cls := "RouteHouse$Packet", name := "length", desc := "()I" } : Jvm.MethodName))
theorem wd_516 : wv_516 ∈ tb_all := wd_o3 (i := 36) rfl rfl
abbrev wv_517 : Jvm.Cond := (Jvm.Cond.selects "RouteHouse$Packet" ({ cls := "RouteHouse$Packet", name := "length", desc := "()I" } : Jvm.MethodName) ({ cls := "RouteHouse$Packet", name := "length", desc := "()I" } : Jvm.MethodName))
theorem wd_517 : wv_517 ∈ tb_all := wd_o3 (i := 37) rfl rfl
abbrev wv_518 : Jvm.Cond := (Jvm.Cond.code ({ cls := "RouteHouse$Packet", name := "length", desc := "()I" } : Jvm.MethodName) prog_4_method_3_code (1 : Nat) (Option.some Jvm.ClassFile.FieldType.int))
theorem wd_518 : wv_518 ∈ tb_all := wd_o3 (i := 38) rfl rfl
abbrev wv_519 : Jvm.Cond := (Jvm.Cond.methodLink "RouteHouse$Packet" (15 : Nat) ({ cls := "RouteHouse$Wire", name := "two", desc := "([BI)I" } : Jvm.MethodName))
theorem wd_519 : wv_519 ∈ tb_all := wd_o3 (i := 39) rfl rfl
abbrev wv_520 : Jvm.Cond := (Jvm.Cond.static ({ cls := "RouteHouse$Wire", name := "two", desc := "([BI)I" } : Jvm.MethodName))
theorem wd_520 : wv_520 ∈ tb_all := wd_o3 (i := 40) rfl rfl
abbrev wv_521 : Jvm.Cond := (Jvm.Cond.code ({ cls := "RouteHouse$Wire", name := "two", desc := "([BI)I" } : Jvm.MethodName) prog_9_method_2_code (2 : Nat) (Option.some Jvm.ClassFile.FieldType.int))
theorem wd_521 : wv_521 ∈ tb_all := wd_o3 (i := 41) rfl rfl
abbrev wv_522 : Jvm.Cond := (Jvm.Cond.methodLink "RouteHouse$Packet" (35 : Nat) ({ cls := "RouteHouse$Wire", name := "sumOf", desc := "([BIII)I" } : Jvm.MethodName))
theorem wd_522 : wv_522 ∈ tb_all := wd_o3 (i := 42) rfl rfl
abbrev wv_523 : Jvm.Cond := (Jvm.Cond.methodLink "RouteHouse$Packet" (39 : Nat) ({ cls := "RouteHouse$Packet", name := "dataStart", desc := "()I" } : Jvm.MethodName))
theorem wd_523 : wv_523 ∈ tb_all := wd_o3 (i := 43) rfl rfl
abbrev wv_524 : Jvm.Cond := (Jvm.Cond.instanceMethod ({ cls := "RouteHouse$Packet", name := "dataStart", desc := "()I" } : Jvm.MethodName))
theorem wd_524 : wv_524 ∈ tb_all := wd_o3 (i := 44) rfl rfl
abbrev wv_525 : Jvm.Cond := (Jvm.Cond.selects "RouteHouse$Packet" ({ cls := "RouteHouse$Packet", name := "dataStart", desc := "()I" } : Jvm.MethodName) ({ cls := "RouteHouse$Packet", name := "dataStart", desc := "()I" } : Jvm.MethodName))
theorem wd_525 : wv_525 ∈ tb_all := wd_o3 (i := 45) rfl rfl
abbrev wv_526 : Jvm.Cond := (Jvm.Cond.code ({ cls := "RouteHouse$Packet", name := "dataStart", desc := "()I" } : Jvm.MethodName) prog_4_method_9_code (1 : Nat) (Option.some Jvm.ClassFile.FieldType.int))
theorem wd_526 : wv_526 ∈ tb_all := wd_o3 (i := 46) rfl rfl
abbrev wv_527 : Jvm.Cond := (Jvm.Cond.methodLink "RouteHouse$Packet" (42 : Nat) ({ cls := "RouteHouse$Packet", name := "dataLength", desc := "()I" } : Jvm.MethodName))
theorem wd_527 : wv_527 ∈ tb_all := wd_o3 (i := 47) rfl rfl
abbrev wv_528 : Jvm.Cond := (Jvm.Cond.instanceMethod ({ cls := "RouteHouse$Packet", name := "dataLength", desc := "()I" } : Jvm.MethodName))
theorem wd_528 : wv_528 ∈ tb_all := wd_o3 (i := 48) rfl rfl
abbrev wv_529 : Jvm.Cond := (Jvm.Cond.selects "RouteHouse$Packet" ({ cls := "RouteHouse$Packet", name := "dataLength", desc := "()I" } : Jvm.MethodName) ({ cls := "RouteHouse$Packet", name := "dataLength", desc := "()I" } : Jvm.MethodName))
theorem wd_529 : wv_529 ∈ tb_all := wd_o3 (i := 49) rfl rfl
abbrev wv_530 : Jvm.Cond := (Jvm.Cond.code ({ cls := "RouteHouse$Packet", name := "dataLength", desc := "()I" } : Jvm.MethodName) prog_4_method_4_code (1 : Nat) (Option.some Jvm.ClassFile.FieldType.int))
theorem wd_530 : wv_530 ∈ tb_all := wd_o3 (i := 50) rfl rfl
abbrev wv_531 : Jvm.Cond := (Jvm.Cond.constant "RouteHouse$Packet" (45 : Nat) (65535 : Int32))
theorem wd_531 : wv_531 ∈ tb_all := wd_o3 (i := 51) rfl rfl
abbrev wv_532 : Jvm.Cond := (Jvm.Cond.methodLink "RouteHouse" (173 : Nat) ({ cls := "RouteHouse", name := "takeSound", desc := "(I)I" } : Jvm.MethodName))
theorem wd_532 : wv_532 ∈ tb_all := wd_o3 (i := 52) rfl rfl
abbrev wv_534 : Jvm.Cond := (Jvm.Cond.instanceMethod ({ cls := "RouteHouse", name := "takeSound", desc := "(I)I" } : Jvm.MethodName))
theorem wd_534 : wv_534 ∈ tb_all := wd_o3 (i := 54) rfl rfl
abbrev wv_535 : Jvm.Cond := (Jvm.Cond.code ({ cls := "RouteHouse", name := "takeSound", desc := "(I)I" } : Jvm.MethodName) prog_1_method_20_code (3 : Nat) (Option.some Jvm.ClassFile.FieldType.int))
theorem wd_535 : wv_535 ∈ tb_all := wd_o3 (i := 55) rfl rfl
abbrev wv_536 : Jvm.Cond := (Jvm.Cond.methodLink "RouteHouse" (217 : Nat) ({ cls := "RouteHouse$Packet", name := "wrongOption", desc := "()I" } : Jvm.MethodName))
theorem wd_536 : wv_536 ∈ tb_all := wd_o3 (i := 56) rfl rfl
abbrev wv_537 : Jvm.Cond := (Jvm.Cond.instanceMethod ({ cls := "RouteHouse$Packet", name := "wrongOption", desc := "()I" } : Jvm.MethodName))
theorem wd_537 : wv_537 ∈ tb_all := wd_o3 (i := 57) rfl rfl
abbrev wv_538 : Jvm.Cond := (Jvm.Cond.selects "RouteHouse$Packet" ({ cls := "RouteHouse$Packet", name := "wrongOption", desc := "()I" } : Jvm.MethodName) ({ cls := "RouteHouse$Packet", name := "wrongOption", desc := "()I" } : Jvm.MethodName))
theorem wd_538 : wv_538 ∈ tb_all := wd_o3 (i := 58) rfl rfl
abbrev wv_539 : Jvm.Cond := (Jvm.Cond.code ({ cls := "RouteHouse$Packet", name := "wrongOption", desc := "()I" } : Jvm.MethodName) prog_4_method_15_code (4 : Nat) (Option.some Jvm.ClassFile.FieldType.int))
theorem wd_539 : wv_539 ∈ tb_all := wd_o3 (i := 59) rfl rfl
abbrev wv_540 : Jvm.Cond := (Jvm.Cond.methodLink "RouteHouse$Packet" (46 : Nat) ({ cls := "RouteHouse$Packet", name := "optionSize", desc := "(II)I" } : Jvm.MethodName))
theorem wd_540 : wv_540 ∈ tb_all := wd_o3 (i := 60) rfl rfl
abbrev wv_541 : Jvm.Cond := (Jvm.Cond.instanceMethod ({ cls := "RouteHouse$Packet", name := "optionSize", desc := "(II)I" } : Jvm.MethodName))
theorem wd_541 : wv_541 ∈ tb_all := wd_o3 (i := 61) rfl rfl
abbrev wv_542 : Jvm.Cond := (Jvm.Cond.selects "RouteHouse$Packet" ({ cls := "RouteHouse$Packet", name := "optionSize", desc := "(II)I" } : Jvm.MethodName) ({ cls := "RouteHouse$Packet", name := "optionSize", desc := "(II)I" } : Jvm.MethodName))
theorem wd_542 : wv_542 ∈ tb_all := wd_o3 (i := 62) rfl rfl
abbrev wv_543 : Jvm.Cond := (Jvm.Cond.code ({ cls := "RouteHouse$Packet", name := "optionSize", desc := "(II)I" } : Jvm.MethodName) prog_4_method_16_code (4 : Nat) (Option.some Jvm.ClassFile.FieldType.int))
theorem wd_543 : wv_543 ∈ tb_all := wd_o3 (i := 63) rfl rfl
abbrev wv_544 : Jvm.Cond := (Jvm.Cond.methodLink "RouteHouse" (220 : Nat) ({ cls := "RouteHouse", name := "sendError", desc := "(LRouteHouse$Packet;IIII)V" } : Jvm.MethodName))
theorem wd_544 : wv_544 ∈ tb_all := wd_o3 (i := 64) rfl rfl
abbrev wv_546 : Jvm.Cond := (Jvm.Cond.instanceMethod ({ cls := "RouteHouse", name := "sendError", desc := "(LRouteHouse$Packet;IIII)V" } : Jvm.MethodName))
theorem wd_546 : wv_546 ∈ tb_all := wd_o3 (i := 66) rfl rfl
abbrev wv_547 : Jvm.Cond := (Jvm.Cond.code ({ cls := "RouteHouse", name := "sendError", desc := "(LRouteHouse$Packet;IIII)V" } : Jvm.MethodName) prog_1_method_24_code (7 : Nat) (Option.none : Option Jvm.ClassFile.FieldType))
theorem wd_547 : wv_547 ∈ tb_all := wd_o3 (i := 67) rfl rfl
abbrev wv_548 : Jvm.Cond := (Jvm.Cond.methodLink "RouteHouse" (271 : Nat) ({ cls := "RouteHouse$Packet", name := "mayHaveError", desc := "()Z" } : Jvm.MethodName))
theorem wd_548 : wv_548 ∈ tb_all := wd_o3 (i := 68) rfl rfl
abbrev wv_549 : Jvm.Cond := (Jvm.Cond.instanceMethod ({ cls := "RouteHouse$Packet", name := "mayHaveError", desc := "()Z" } : Jvm.MethodName))
theorem wd_549 : wv_549 ∈ tb_all := wd_o3 (i := 69) rfl rfl
abbrev wv_550 : Jvm.Cond := (Jvm.Cond.selects "RouteHouse$Packet" ({ cls := "RouteHouse$Packet", name := "mayHaveError", desc := "()Z" } : Jvm.MethodName) ({ cls := "RouteHouse$Packet", name := "mayHaveError", desc := "()Z" } : Jvm.MethodName))
theorem wd_550 : wv_550 ∈ tb_all := wd_o3 (i := 70) rfl rfl
abbrev wv_551 : Jvm.Cond := (Jvm.Cond.code ({ cls := "RouteHouse$Packet", name := "mayHaveError", desc := "()Z" } : Jvm.MethodName) prog_4_method_18_code (2 : Nat) (Option.some Jvm.ClassFile.FieldType.boolean))
theorem wd_551 : wv_551 ∈ tb_all := wd_o3 (i := 71) rfl rfl
abbrev wv_552 : Jvm.Cond := (Jvm.Cond.methodLink "RouteHouse$Packet" (50 : Nat) ({ cls := "RouteHouse$Packet", name := "source", desc := "()I" } : Jvm.MethodName))
theorem wd_552 : wv_552 ∈ tb_all := wd_o3 (i := 72) rfl rfl
abbrev wv_553 : Jvm.Cond := (Jvm.Cond.instanceMethod ({ cls := "RouteHouse$Packet", name := "source", desc := "()I" } : Jvm.MethodName))
theorem wd_553 : wv_553 ∈ tb_all := wd_o3 (i := 73) rfl rfl
abbrev wv_554 : Jvm.Cond := (Jvm.Cond.selects "RouteHouse$Packet" ({ cls := "RouteHouse$Packet", name := "source", desc := "()I" } : Jvm.MethodName) ({ cls := "RouteHouse$Packet", name := "source", desc := "()I" } : Jvm.MethodName))
theorem wd_554 : wv_554 ∈ tb_all := wd_o3 (i := 74) rfl rfl
abbrev wv_555 : Jvm.Cond := (Jvm.Cond.code ({ cls := "RouteHouse$Packet", name := "source", desc := "()I" } : Jvm.MethodName) prog_4_method_12_code (1 : Nat) (Option.some Jvm.ClassFile.FieldType.int))
theorem wd_555 : wv_555 ∈ tb_all := wd_o3 (i := 75) rfl rfl
abbrev wv_556 : Jvm.Cond := (Jvm.Cond.methodLink "RouteHouse$Packet" (21 : Nat) ({ cls := "RouteHouse$Wire", name := "four", desc := "([BI)I" } : Jvm.MethodName))
theorem wd_556 : wv_556 ∈ tb_all := wd_o3 (i := 76) rfl rfl
abbrev wv_557 : Jvm.Cond := (Jvm.Cond.static ({ cls := "RouteHouse$Wire", name := "four", desc := "([BI)I" } : Jvm.MethodName))
theorem wd_557 : wv_557 ∈ tb_all := wd_o3 (i := 77) rfl rfl
abbrev wv_558 : Jvm.Cond := (Jvm.Cond.code ({ cls := "RouteHouse$Wire", name := "four", desc := "([BI)I" } : Jvm.MethodName) prog_9_method_3_code (2 : Nat) (Option.some Jvm.ClassFile.FieldType.int))
theorem wd_558 : wv_558 ∈ tb_all := wd_o3 (i := 78) rfl rfl
abbrev wv_559 : Jvm.Cond := (Jvm.Cond.methodLink "RouteHouse$Packet" (53 : Nat) ({ cls := "RouteHouse$Packet", name := "protocol", desc := "()I" } : Jvm.MethodName))
theorem wd_559 : wv_559 ∈ tb_all := wd_o3 (i := 79) rfl rfl
abbrev wv_560 : Jvm.Cond := (Jvm.Cond.instanceMethod ({ cls := "RouteHouse$Packet", name := "protocol", desc := "()I" } : Jvm.MethodName))
theorem wd_560 : wv_560 ∈ tb_all := wd_o3 (i := 80) rfl rfl
abbrev wv_561 : Jvm.Cond := (Jvm.Cond.selects "RouteHouse$Packet" ({ cls := "RouteHouse$Packet", name := "protocol", desc := "()I" } : Jvm.MethodName) ({ cls := "RouteHouse$Packet", name := "protocol", desc := "()I" } : Jvm.MethodName))
theorem wd_561 : wv_561 ∈ tb_all := wd_o3 (i := 81) rfl rfl
abbrev wv_562 : Jvm.Cond := (Jvm.Cond.code ({ cls := "RouteHouse$Packet", name := "protocol", desc := "()I" } : Jvm.MethodName) prog_4_method_11_code (1 : Nat) (Option.some Jvm.ClassFile.FieldType.int))
theorem wd_562 : wv_562 ∈ tb_all := wd_o3 (i := 82) rfl rfl
abbrev wv_563 : Jvm.Cond := (Jvm.Cond.methodLink "RouteHouse" (274 : Nat) ({ cls := "RouteHouse$Packet", name := "headerLength", desc := "()I" } : Jvm.MethodName))
theorem wd_563 : wv_563 ∈ tb_all := wd_o3 (i := 83) rfl rfl
abbrev wv_564 : Jvm.Cond := (Jvm.Cond.methodLink "RouteHouse" (277 : Nat) ({ cls := "RouteHouse$Packet", name := "dataLength", desc := "()I" } : Jvm.MethodName))
theorem wd_564 : wv_564 ∈ tb_all := wd_o3 (i := 84) rfl rfl
abbrev wv_565 : Jvm.Cond := (Jvm.Cond.methodLink "RouteHouse" (280 : Nat) ({ cls := "java/lang/Math", name := "min", desc := "(II)I" } : Jvm.MethodName))
theorem wd_565 : wv_565 ∈ tb_all := wd_o3 (i := 85) rfl rfl
abbrev wv_566 : Jvm.Cond := (Jvm.Cond.static ({ cls := "java/lang/Math", name := "min", desc := "(II)I" } : Jvm.MethodName))
theorem wd_566 : wv_566 ∈ tb_all := wd_o3 (i := 86) rfl rfl
abbrev wv_567 : Jvm.Cond := (Jvm.Cond.code ({ cls := "java/lang/Math", name := "min", desc := "(II)I" } : Jvm.MethodName) prog_16_method_69_code (2 : Nat) (Option.some Jvm.ClassFile.FieldType.int))
theorem wd_567 : wv_567 ∈ tb_all := wd_o3 (i := 87) rfl rfl
abbrev wv_568 : Jvm.Cond := (Jvm.Cond.methodLink "RouteHouse" (285 : Nat) ({ cls := "RouteHouse$Packet", name := "source", desc := "()I" } : Jvm.MethodName))
theorem wd_568 : wv_568 ∈ tb_all := wd_o3 (i := 88) rfl rfl
abbrev wv_569 : Jvm.Cond := (Jvm.Cond.methodLink "RouteHouse" (287 : Nat) ({ cls := "RouteHouse", name := "sendReply", desc := "(IIII)V" } : Jvm.MethodName))
theorem wd_569 : wv_569 ∈ tb_all := wd_o3 (i := 89) rfl rfl
abbrev wv_571 : Jvm.Cond := (Jvm.Cond.instanceMethod ({ cls := "RouteHouse", name := "sendReply", desc := "(IIII)V" } : Jvm.MethodName))
theorem wd_571 : wv_571 ∈ tb_all := wd_o3 (i := 91) rfl rfl
abbrev wv_572 : Jvm.Cond := (Jvm.Cond.code ({ cls := "RouteHouse", name := "sendReply", desc := "(IIII)V" } : Jvm.MethodName) prog_1_method_26_code (7 : Nat) (Option.none : Option Jvm.ClassFile.FieldType))
theorem wd_572 : wv_572 ∈ tb_all := wd_o3 (i := 92) rfl rfl
abbrev wv_573 : Jvm.Cond := (Jvm.Cond.constant "RouteHouse" (291 : Nat) (1157627904 : Int32))
theorem wd_573 : wv_573 ∈ tb_all := wd_o3 (i := 93) rfl rfl
abbrev wv_574 : Jvm.Cond := (Jvm.Cond.constant "RouteHouse" (292 : Nat) (1073807360 : Int32))
theorem wd_574 : wv_574 ∈ tb_all := wd_o3 (i := 94) rfl rfl
abbrev wv_575 : Jvm.Cond := (Jvm.Cond.methodLink "RouteHouse" (267 : Nat) ({ cls := "RouteHouse$Outbox", name := "send", desc := "(LRouteHouse$Packet;III)V" } : Jvm.MethodName))
theorem wd_575 : wv_575 ∈ tb_all := wd_o3 (i := 95) rfl rfl
abbrev wv_576 : Jvm.Cond := (Jvm.Cond.instanceMethod ({ cls := "RouteHouse$Outbox", name := "send", desc := "(LRouteHouse$Packet;III)V" } : Jvm.MethodName))
theorem wd_576 : wv_576 ∈ tb_all := wd_o3 (i := 96) rfl rfl
abbrev wv_577 : Jvm.Cond := (Jvm.Cond.selects "RouteHouse$Outbox" ({ cls := "RouteHouse$Outbox", name := "send", desc := "(LRouteHouse$Packet;III)V" } : Jvm.MethodName) ({ cls := "RouteHouse$Outbox", name := "send", desc := "(LRouteHouse$Packet;III)V" } : Jvm.MethodName))
theorem wd_577 : wv_577 ∈ tb_all := wd_o3 (i := 97) rfl rfl
abbrev wv_578 : Jvm.Cond := (Jvm.Cond.code ({ cls := "RouteHouse$Outbox", name := "send", desc := "(LRouteHouse$Packet;III)V" } : Jvm.MethodName) prog_3_method_3_code (10 : Nat) (Option.none : Option Jvm.ClassFile.FieldType))
theorem wd_578 : wv_578 ∈ tb_all := wd_o3 (i := 98) rfl rfl
abbrev wv_579 : Jvm.Cond := (Jvm.Cond.methodLink "RouteHouse$Outbox" (38 : Nat) ({ cls := "RouteHouse$Packet", name := "dataLength", desc := "()I" } : Jvm.MethodName))
theorem wd_579 : wv_579 ∈ tb_all := wd_o3 (i := 99) rfl rfl
abbrev wv_580 : Jvm.Cond := (Jvm.Cond.methodLink "RouteHouse$Outbox" (47 : Nat) ({ cls := "RouteHouse$Packet", name := "headerLength", desc := "()I" } : Jvm.MethodName))
theorem wd_580 : wv_580 ∈ tb_all := wd_o3 (i := 100) rfl rfl
abbrev wv_581 : Jvm.Cond := (Jvm.Cond.methodLink "RouteHouse$Outbox" (50 : Nat) ({ cls := "RouteHouse$Outbox", name := "addPiece", desc := "(LRouteHouse$Packet;[BIIII)I" } : Jvm.MethodName))
theorem wd_581 : wv_581 ∈ tb_all := wd_o3 (i := 101) rfl rfl
abbrev wv_583 : Jvm.Cond := (Jvm.Cond.instanceMethod ({ cls := "RouteHouse$Outbox", name := "addPiece", desc := "(LRouteHouse$Packet;[BIIII)I" } : Jvm.MethodName))
theorem wd_583 : wv_583 ∈ tb_all := wd_o3 (i := 103) rfl rfl
abbrev wv_584 : Jvm.Cond := (Jvm.Cond.code ({ cls := "RouteHouse$Outbox", name := "addPiece", desc := "(LRouteHouse$Packet;[BIIII)I" } : Jvm.MethodName) prog_3_method_4_code (14 : Nat) (Option.some Jvm.ClassFile.FieldType.int))
theorem wd_584 : wv_584 ∈ tb_all := wd_o3 (i := 104) rfl rfl
abbrev wv_585 : Jvm.Cond := (Jvm.Cond.methodLink "RouteHouse$Outbox" (58 : Nat) ({ cls := "java/lang/System", name := "arraycopy", desc := "(Ljava/lang/Object;ILjava/lang/Object;II)V" } : Jvm.MethodName))
theorem wd_585 : wv_585 ∈ tb_all := wd_o3 (i := 105) rfl rfl
abbrev wv_586 : Jvm.Cond := (Jvm.Cond.methodLink "RouteHouse$Outbox" (64 : Nat) ({ cls := "RouteHouse$Wire", name := "two", desc := "([BI)I" } : Jvm.MethodName))
theorem wd_586 : wv_586 ∈ tb_all := wd_o3 (i := 106) rfl rfl
abbrev wv_587 : Jvm.Cond := (Jvm.Cond.methodLink "RouteHouse$Outbox" (70 : Nat) ({ cls := "RouteHouse$Wire", name := "setTwo", desc := "([BII)V" } : Jvm.MethodName))
theorem wd_587 : wv_587 ∈ tb_all := wd_o3 (i := 107) rfl rfl
abbrev wv_588 : Jvm.Cond := (Jvm.Cond.methodLink "RouteHouse$Outbox" (74 : Nat) ({ cls := "RouteHouse$Wire", name := "sumOf", desc := "([BIII)I" } : Jvm.MethodName))
theorem wd_588 : wv_588 ∈ tb_all := wd_o3 (i := 108) rfl rfl
abbrev wv_589 : Jvm.Cond := (Jvm.Cond.methodLink "RouteHouse$Outbox" (54 : Nat) ({ cls := "RouteHouse$Outbox", name := "makeLaterHeader", desc := "(LRouteHouse$Packet;)I" } : Jvm.MethodName))
theorem wd_589 : wv_589 ∈ tb_all := wd_o3 (i := 109) rfl rfl
abbrev wv_591 : Jvm.Cond := (Jvm.Cond.instanceMethod ({ cls := "RouteHouse$Outbox", name := "makeLaterHeader", desc := "(LRouteHouse$Packet;)I" } : Jvm.MethodName))
theorem wd_591 : wv_591 ∈ tb_all := wd_o3 (i := 111) rfl rfl
abbrev wv_592 : Jvm.Cond := (Jvm.Cond.code ({ cls := "RouteHouse$Outbox", name := "makeLaterHeader", desc := "(LRouteHouse$Packet;)I" } : Jvm.MethodName) prog_3_method_5_code (7 : Nat) (Option.some Jvm.ClassFile.FieldType.int))
theorem wd_592 : wv_592 ∈ tb_all := wd_o3 (i := 112) rfl rfl
abbrev wv_593 : Jvm.Cond := (Jvm.Cond.methodLink "RouteHouse$Outbox" (78 : Nat) ({ cls := "RouteHouse$Packet", name := "optionSize", desc := "(II)I" } : Jvm.MethodName))
theorem wd_593 : wv_593 ∈ tb_all := wd_o3 (i := 113) rfl rfl
abbrev wv_594 : Jvm.Cond := (Jvm.Cond.methodLink "RouteHouse" (224 : Nat) ({ cls := "RouteHouse$Packet", name := "destination", desc := "()I" } : Jvm.MethodName))
theorem wd_594 : wv_594 ∈ tb_all := wd_o3 (i := 114) rfl rfl
abbrev wv_595 : Jvm.Cond := (Jvm.Cond.instanceMethod ({ cls := "RouteHouse$Packet", name := "destination", desc := "()I" } : Jvm.MethodName))
theorem wd_595 : wv_595 ∈ tb_all := wd_o3 (i := 115) rfl rfl
abbrev wv_596 : Jvm.Cond := (Jvm.Cond.selects "RouteHouse$Packet" ({ cls := "RouteHouse$Packet", name := "destination", desc := "()I" } : Jvm.MethodName) ({ cls := "RouteHouse$Packet", name := "destination", desc := "()I" } : Jvm.MethodName))
theorem wd_596 : wv_596 ∈ tb_all := wd_o3 (i := 116) rfl rfl
abbrev wv_597 : Jvm.Cond := (Jvm.Cond.code ({ cls := "RouteHouse$Packet", name := "destination", desc := "()I" } : Jvm.MethodName) prog_4_method_13_code (1 : Nat) (Option.some Jvm.ClassFile.FieldType.int))
theorem wd_597 : wv_597 ∈ tb_all := wd_o3 (i := 117) rfl rfl
abbrev wv_598 : Jvm.Cond := (Jvm.Cond.methodLink "RouteHouse" (226 : Nat) ({ cls := "RouteHouse", name := "isOwnAddress", desc := "(I)Z" } : Jvm.MethodName))
theorem wd_598 : wv_598 ∈ tb_all := wd_o3 (i := 118) rfl rfl
abbrev wv_600 : Jvm.Cond := (Jvm.Cond.instanceMethod ({ cls := "RouteHouse", name := "isOwnAddress", desc := "(I)Z" } : Jvm.MethodName))
theorem wd_600 : wv_600 ∈ tb_all := wd_o3 (i := 120) rfl rfl
abbrev wv_601 : Jvm.Cond := (Jvm.Cond.code ({ cls := "RouteHouse", name := "isOwnAddress", desc := "(I)Z" } : Jvm.MethodName) prog_1_method_21_code (3 : Nat) (Option.some Jvm.ClassFile.FieldType.boolean))
theorem wd_601 : wv_601 ∈ tb_all := wd_o3 (i := 121) rfl rfl
abbrev wv_602 : Jvm.Cond := (Jvm.Cond.methodLink "RouteHouse" (230 : Nat) ({ cls := "RouteHouse", name := "takeOwn", desc := "(I)I" } : Jvm.MethodName))
theorem wd_602 : wv_602 ∈ tb_all := wd_o3 (i := 122) rfl rfl
abbrev wv_604 : Jvm.Cond := (Jvm.Cond.instanceMethod ({ cls := "RouteHouse", name := "takeOwn", desc := "(I)I" } : Jvm.MethodName))
theorem wd_604 : wv_604 ∈ tb_all := wd_o3 (i := 124) rfl rfl
abbrev wv_605 : Jvm.Cond := (Jvm.Cond.code ({ cls := "RouteHouse", name := "takeOwn", desc := "(I)I" } : Jvm.MethodName) prog_1_method_22_code (4 : Nat) (Option.some Jvm.ClassFile.FieldType.int))
theorem wd_605 : wv_605 ∈ tb_all := wd_o3 (i := 125) rfl rfl
abbrev wv_606 : Jvm.Cond := (Jvm.Cond.methodLink "RouteHouse" (236 : Nat) ({ cls := "RouteHouse$Packet", name := "isPiece", desc := "()Z" } : Jvm.MethodName))
theorem wd_606 : wv_606 ∈ tb_all := wd_o3 (i := 126) rfl rfl
abbrev wv_607 : Jvm.Cond := (Jvm.Cond.instanceMethod ({ cls := "RouteHouse$Packet", name := "isPiece", desc := "()Z" } : Jvm.MethodName))
theorem wd_607 : wv_607 ∈ tb_all := wd_o3 (i := 127) rfl rfl
abbrev wv_608 : Jvm.Cond := (Jvm.Cond.selects "RouteHouse$Packet" ({ cls := "RouteHouse$Packet", name := "isPiece", desc := "()Z" } : Jvm.MethodName) ({ cls := "RouteHouse$Packet", name := "isPiece", desc := "()Z" } : Jvm.MethodName))
theorem wd_608 : wv_608 ∈ tb_all := wd_o3 (i := 128) rfl rfl
abbrev wv_609 : Jvm.Cond := (Jvm.Cond.code ({ cls := "RouteHouse$Packet", name := "isPiece", desc := "()Z" } : Jvm.MethodName) prog_4_method_8_code (1 : Nat) (Option.some Jvm.ClassFile.FieldType.boolean))
theorem wd_609 : wv_609 ∈ tb_all := wd_o3 (i := 129) rfl rfl
abbrev wv_610 : Jvm.Cond := (Jvm.Cond.methodLink "RouteHouse" (240 : Nat) ({ cls := "RouteHouse$Waits", name := "completes", desc := "(LRouteHouse$Packet;IILRouteHouse$Packet;)Z" } : Jvm.MethodName))
theorem wd_610 : wv_610 ∈ tb_all := wd_o3 (i := 130) rfl rfl
abbrev wv_611 : Jvm.Cond := (Jvm.Cond.instanceMethod ({ cls := "RouteHouse$Waits", name := "completes", desc := "(LRouteHouse$Packet;IILRouteHouse$Packet;)Z" } : Jvm.MethodName))
theorem wd_611 : wv_611 ∈ tb_all := wd_o3 (i := 131) rfl rfl
abbrev wv_612 : Jvm.Cond := (Jvm.Cond.selects "RouteHouse$Waits" ({ cls := "RouteHouse$Waits", name := "completes", desc := "(LRouteHouse$Packet;IILRouteHouse$Packet;)Z" } : Jvm.MethodName) ({ cls := "RouteHouse$Waits", name := "completes", desc := "(LRouteHouse$Packet;IILRouteHouse$Packet;)Z" } : Jvm.MethodName))
theorem wd_612 : wv_612 ∈ tb_all := wd_o3 (i := 132) rfl rfl
abbrev wv_613 : Jvm.Cond := (Jvm.Cond.code ({ cls := "RouteHouse$Waits", name := "completes", desc := "(LRouteHouse$Packet;IILRouteHouse$Packet;)Z" } : Jvm.MethodName) prog_8_method_2_code (7 : Nat) (Option.some Jvm.ClassFile.FieldType.boolean))
theorem wd_613 : wv_613 ∈ tb_all := wd_o3 (i := 133) rfl rfl
abbrev wv_614 : Jvm.Cond := (Jvm.Cond.methodLink "RouteHouse$Waits" (18 : Nat) ({ cls := "RouteHouse$Waits", name := "find", desc := "(LRouteHouse$Packet;)I" } : Jvm.MethodName))
theorem wd_614 : wv_614 ∈ tb_all := wd_o3 (i := 134) rfl rfl
abbrev wv_616 : Jvm.Cond := (Jvm.Cond.instanceMethod ({ cls := "RouteHouse$Waits", name := "find", desc := "(LRouteHouse$Packet;)I" } : Jvm.MethodName))
theorem wd_616 : wv_616 ∈ tb_all := wd_o3 (i := 136) rfl rfl
abbrev wv_617 : Jvm.Cond := (Jvm.Cond.code ({ cls := "RouteHouse$Waits", name := "find", desc := "(LRouteHouse$Packet;)I" } : Jvm.MethodName) prog_8_method_5_code (3 : Nat) (Option.some Jvm.ClassFile.FieldType.int))
theorem wd_617 : wv_617 ∈ tb_all := wd_o3 (i := 137) rfl rfl
abbrev wv_618 : Jvm.Cond := (Jvm.Cond.methodLink "RouteHouse$Waits" (56 : Nat) ({ cls := "RouteHouse$Waiting", name := "waitsFor", desc := "(LRouteHouse$Packet;)Z" } : Jvm.MethodName))
theorem wd_618 : wv_618 ∈ tb_all := wd_o3 (i := 138) rfl rfl
abbrev wv_619 : Jvm.Cond := (Jvm.Cond.instanceMethod ({ cls := "RouteHouse$Waiting", name := "waitsFor", desc := "(LRouteHouse$Packet;)Z" } : Jvm.MethodName))
theorem wd_619 : wv_619 ∈ tb_all := wd_o3 (i := 139) rfl rfl
abbrev wv_620 : Jvm.Cond := (Jvm.Cond.selects "RouteHouse$Waiting" ({ cls := "RouteHouse$Waiting", name := "waitsFor", desc := "(LRouteHouse$Packet;)Z" } : Jvm.MethodName) ({ cls := "RouteHouse$Waiting", name := "waitsFor", desc := "(LRouteHouse$Packet;)Z" } : Jvm.MethodName))
theorem wd_620 : wv_620 ∈ tb_all := wd_o3 (i := 140) rfl rfl
abbrev wv_621 : Jvm.Cond := (Jvm.Cond.code ({ cls := "RouteHouse$Waiting", name := "waitsFor", desc := "(LRouteHouse$Packet;)Z" } : Jvm.MethodName) prog_7_method_3_code (2 : Nat) (Option.some Jvm.ClassFile.FieldType.boolean))
theorem wd_621 : wv_621 ∈ tb_all := wd_o3 (i := 141) rfl rfl
abbrev wv_622 : Jvm.Cond := (Jvm.Cond.methodLink "RouteHouse$Waiting" (28 : Nat) ({ cls := "RouteHouse$Packet", name := "source", desc := "()I" } : Jvm.MethodName))
theorem wd_622 : wv_622 ∈ tb_all := wd_o3 (i := 142) rfl rfl
abbrev wv_623 : Jvm.Cond := (Jvm.Cond.methodLink "RouteHouse$Waiting" (35 : Nat) ({ cls := "RouteHouse$Packet", name := "destination", desc := "()I" } : Jvm.MethodName))
theorem wd_623 : wv_623 ∈ tb_all := wd_o3 (i := 143) rfl rfl
abbrev wv_624 : Jvm.Cond := (Jvm.Cond.methodLink "RouteHouse$Waiting" (40 : Nat) ({ cls := "RouteHouse$Packet", name := "identity", desc := "()I" } : Jvm.MethodName))
theorem wd_624 : wv_624 ∈ tb_all := wd_o3 (i := 144) rfl rfl
abbrev wv_625 : Jvm.Cond := (Jvm.Cond.instanceMethod ({ cls := "RouteHouse$Packet", name := "identity", desc := "()I" } : Jvm.MethodName))
theorem wd_625 : wv_625 ∈ tb_all := wd_o3 (i := 145) rfl rfl
abbrev wv_626 : Jvm.Cond := (Jvm.Cond.selects "RouteHouse$Packet" ({ cls := "RouteHouse$Packet", name := "identity", desc := "()I" } : Jvm.MethodName) ({ cls := "RouteHouse$Packet", name := "identity", desc := "()I" } : Jvm.MethodName))
theorem wd_626 : wv_626 ∈ tb_all := wd_o3 (i := 146) rfl rfl
abbrev wv_627 : Jvm.Cond := (Jvm.Cond.code ({ cls := "RouteHouse$Packet", name := "identity", desc := "()I" } : Jvm.MethodName) prog_4_method_5_code (1 : Nat) (Option.some Jvm.ClassFile.FieldType.int))
theorem wd_627 : wv_627 ∈ tb_all := wd_o3 (i := 147) rfl rfl
abbrev wv_628 : Jvm.Cond := (Jvm.Cond.methodLink "RouteHouse$Waiting" (45 : Nat) ({ cls := "RouteHouse$Packet", name := "protocol", desc := "()I" } : Jvm.MethodName))
theorem wd_628 : wv_628 ∈ tb_all := wd_o3 (i := 148) rfl rfl
abbrev wv_629 : Jvm.Cond := (Jvm.Cond.methodLink "RouteHouse$Waits" (22 : Nat) ({ cls := "RouteHouse$Waits", name := "isWrong", desc := "(LRouteHouse$Packet;)Z" } : Jvm.MethodName))
theorem wd_629 : wv_629 ∈ tb_all := wd_o3 (i := 149) rfl rfl
abbrev wv_631 : Jvm.Cond := (Jvm.Cond.instanceMethod ({ cls := "RouteHouse$Waits", name := "isWrong", desc := "(LRouteHouse$Packet;)Z" } : Jvm.MethodName))
theorem wd_631 : wv_631 ∈ tb_all := wd_o3 (i := 151) rfl rfl
abbrev wv_632 : Jvm.Cond := (Jvm.Cond.code ({ cls := "RouteHouse$Waits", name := "isWrong", desc := "(LRouteHouse$Packet;)Z" } : Jvm.MethodName) prog_8_method_6_code (3 : Nat) (Option.some Jvm.ClassFile.FieldType.boolean))
theorem wd_632 : wv_632 ∈ tb_all := wd_o3 (i := 152) rfl rfl
abbrev wv_633 : Jvm.Cond := (Jvm.Cond.methodLink "RouteHouse$Waits" (59 : Nat) ({ cls := "RouteHouse$Packet", name := "dataLength", desc := "()I" } : Jvm.MethodName))
theorem wd_633 : wv_633 ∈ tb_all := wd_o3 (i := 153) rfl rfl
abbrev wv_634 : Jvm.Cond := (Jvm.Cond.methodLink "RouteHouse$Waits" (65 : Nat) ({ cls := "RouteHouse$Packet", name := "hasMore", desc := "()Z" } : Jvm.MethodName))
theorem wd_634 : wv_634 ∈ tb_all := wd_o3 (i := 154) rfl rfl
abbrev wv_635 : Jvm.Cond := (Jvm.Cond.instanceMethod ({ cls := "RouteHouse$Packet", name := "hasMore", desc := "()Z" } : Jvm.MethodName))
theorem wd_635 : wv_635 ∈ tb_all := wd_o3 (i := 155) rfl rfl
abbrev wv_636 : Jvm.Cond := (Jvm.Cond.selects "RouteHouse$Packet" ({ cls := "RouteHouse$Packet", name := "hasMore", desc := "()Z" } : Jvm.MethodName) ({ cls := "RouteHouse$Packet", name := "hasMore", desc := "()Z" } : Jvm.MethodName))
theorem wd_636 : wv_636 ∈ tb_all := wd_o3 (i := 156) rfl rfl
abbrev wv_637 : Jvm.Cond := (Jvm.Cond.code ({ cls := "RouteHouse$Packet", name := "hasMore", desc := "()Z" } : Jvm.MethodName) prog_4_method_7_code (1 : Nat) (Option.some Jvm.ClassFile.FieldType.boolean))
theorem wd_637 : wv_637 ∈ tb_all := wd_o3 (i := 157) rfl rfl
abbrev wv_638 : Jvm.Cond := (Jvm.Cond.methodLink "RouteHouse$Waits" (68 : Nat) ({ cls := "RouteHouse$Packet", name := "dataStart", desc := "()I" } : Jvm.MethodName))
theorem wd_638 : wv_638 ∈ tb_all := wd_o3 (i := 158) rfl rfl
abbrev wv_639 : Jvm.Cond := (Jvm.Cond.methodLink "RouteHouse$Waits" (26 : Nat) ({ cls := "RouteHouse$Waiting", name := "refuses", desc := "(LRouteHouse$Packet;)Z" } : Jvm.MethodName))
theorem wd_639 : wv_639 ∈ tb_all := wd_o3 (i := 159) rfl rfl
abbrev wv_640 : Jvm.Cond := (Jvm.Cond.instanceMethod ({ cls := "RouteHouse$Waiting", name := "refuses", desc := "(LRouteHouse$Packet;)Z" } : Jvm.MethodName))
theorem wd_640 : wv_640 ∈ tb_all := wd_o3 (i := 160) rfl rfl
abbrev wv_641 : Jvm.Cond := (Jvm.Cond.selects "RouteHouse$Waiting" ({ cls := "RouteHouse$Waiting", name := "refuses", desc := "(LRouteHouse$Packet;)Z" } : Jvm.MethodName) ({ cls := "RouteHouse$Waiting", name := "refuses", desc := "(LRouteHouse$Packet;)Z" } : Jvm.MethodName))
theorem wd_641 : wv_641 ∈ tb_all := wd_o3 (i := 161) rfl rfl
abbrev wv_642 : Jvm.Cond := (Jvm.Cond.code ({ cls := "RouteHouse$Waiting", name := "refuses", desc := "(LRouteHouse$Packet;)Z" } : Jvm.MethodName) prog_7_method_4_code (3 : Nat) (Option.some Jvm.ClassFile.FieldType.boolean))
theorem wd_642 : wv_642 ∈ tb_all := wd_o3 (i := 162) rfl rfl
abbrev wv_643 : Jvm.Cond := (Jvm.Cond.methodLink "RouteHouse$Waiting" (66 : Nat) ({ cls := "RouteHouse$Packet", name := "dataStart", desc := "()I" } : Jvm.MethodName))
theorem wd_643 : wv_643 ∈ tb_all := wd_o3 (i := 163) rfl rfl
abbrev wv_644 : Jvm.Cond := (Jvm.Cond.methodLink "RouteHouse$Waiting" (69 : Nat) ({ cls := "RouteHouse$Packet", name := "dataLength", desc := "()I" } : Jvm.MethodName))
theorem wd_644 : wv_644 ∈ tb_all := wd_o3 (i := 164) rfl rfl
abbrev wv_645 : Jvm.Cond := (Jvm.Cond.methodLink "RouteHouse$Waiting" (72 : Nat) ({ cls := "RouteHouse$Packet", name := "hasMore", desc := "()Z" } : Jvm.MethodName))
theorem wd_645 : wv_645 ∈ tb_all := wd_o3 (i := 165) rfl rfl
abbrev wv_646 : Jvm.Cond := (Jvm.Cond.methodLink "RouteHouse$Waits" (29 : Nat) ({ cls := "RouteHouse$Waits", name := "remove", desc := "(I)V" } : Jvm.MethodName))
theorem wd_646 : wv_646 ∈ tb_all := wd_o3 (i := 166) rfl rfl
abbrev wv_647 : Jvm.Cond := (Jvm.Cond.instanceMethod ({ cls := "RouteHouse$Waits", name := "remove", desc := "(I)V" } : Jvm.MethodName))
theorem wd_647 : wv_647 ∈ tb_all := wd_o3 (i := 167) rfl rfl
abbrev wv_648 : Jvm.Cond := (Jvm.Cond.selects "RouteHouse$Waits" ({ cls := "RouteHouse$Waits", name := "remove", desc := "(I)V" } : Jvm.MethodName) ({ cls := "RouteHouse$Waits", name := "remove", desc := "(I)V" } : Jvm.MethodName))
theorem wd_648 : wv_648 ∈ tb_all := wd_o3 (i := 168) rfl rfl
abbrev wv_649 : Jvm.Cond := (Jvm.Cond.code ({ cls := "RouteHouse$Waits", name := "remove", desc := "(I)V" } : Jvm.MethodName) prog_8_method_4_code (4 : Nat) (Option.none : Option Jvm.ClassFile.FieldType))
theorem wd_649 : wv_649 ∈ tb_all := wd_o3 (i := 169) rfl rfl
abbrev wv_650 : Jvm.Cond := (Jvm.Cond.methodLink "RouteHouse$Waits" (33 : Nat) ({ cls := "RouteHouse$Waits", name := "begin", desc := "(LRouteHouse$Packet;I)I" } : Jvm.MethodName))
theorem wd_650 : wv_650 ∈ tb_all := wd_o3 (i := 170) rfl rfl
abbrev wv_652 : Jvm.Cond := (Jvm.Cond.instanceMethod ({ cls := "RouteHouse$Waits", name := "begin", desc := "(LRouteHouse$Packet;I)I" } : Jvm.MethodName))
theorem wd_652 : wv_652 ∈ tb_all := wd_o3 (i := 172) rfl rfl
abbrev wv_653 : Jvm.Cond := (Jvm.Cond.code ({ cls := "RouteHouse$Waits", name := "begin", desc := "(LRouteHouse$Packet;I)I" } : Jvm.MethodName) prog_8_method_7_code (3 : Nat) (Option.some Jvm.ClassFile.FieldType.int))
theorem wd_653 : wv_653 ∈ tb_all := wd_o3 (i := 173) rfl rfl
abbrev wv_654 : Jvm.Cond := (Jvm.Cond.methodLink "RouteHouse$Waits" (71 : Nat) ({ cls := "RouteHouse$Waiting", name := "begin", desc := "(LRouteHouse$Packet;I)V" } : Jvm.MethodName))
theorem wd_654 : wv_654 ∈ tb_all := wd_o3 (i := 174) rfl rfl
abbrev wv_655 : Jvm.Cond := (Jvm.Cond.instanceMethod ({ cls := "RouteHouse$Waiting", name := "begin", desc := "(LRouteHouse$Packet;I)V" } : Jvm.MethodName))
theorem wd_655 : wv_655 ∈ tb_all := wd_o3 (i := 175) rfl rfl
abbrev wv_656 : Jvm.Cond := (Jvm.Cond.selects "RouteHouse$Waiting" ({ cls := "RouteHouse$Waiting", name := "begin", desc := "(LRouteHouse$Packet;I)V" } : Jvm.MethodName) ({ cls := "RouteHouse$Waiting", name := "begin", desc := "(LRouteHouse$Packet;I)V" } : Jvm.MethodName))
theorem wd_656 : wv_656 ∈ tb_all := wd_o3 (i := 176) rfl rfl
abbrev wv_657 : Jvm.Cond := (Jvm.Cond.code ({ cls := "RouteHouse$Waiting", name := "begin", desc := "(LRouteHouse$Packet;I)V" } : Jvm.MethodName) prog_7_method_2_code (4 : Nat) (Option.none : Option Jvm.ClassFile.FieldType))
theorem wd_657 : wv_657 ∈ tb_all := wd_o3 (i := 177) rfl rfl
abbrev wv_658 : Jvm.Cond := (Jvm.Cond.methodLink "RouteHouse$Waits" (37 : Nat) ({ cls := "RouteHouse$Waiting", name := "add", desc := "(LRouteHouse$Packet;I)V" } : Jvm.MethodName))
theorem wd_658 : wv_658 ∈ tb_all := wd_o3 (i := 178) rfl rfl
abbrev wv_659 : Jvm.Cond := (Jvm.Cond.instanceMethod ({ cls := "RouteHouse$Waiting", name := "add", desc := "(LRouteHouse$Packet;I)V" } : Jvm.MethodName))
theorem wd_659 : wv_659 ∈ tb_all := wd_o3 (i := 179) rfl rfl
abbrev wv_660 : Jvm.Cond := (Jvm.Cond.selects "RouteHouse$Waiting" ({ cls := "RouteHouse$Waiting", name := "add", desc := "(LRouteHouse$Packet;I)V" } : Jvm.MethodName) ({ cls := "RouteHouse$Waiting", name := "add", desc := "(LRouteHouse$Packet;I)V" } : Jvm.MethodName))
theorem wd_660 : wv_660 ∈ tb_all := wd_o3 (i := 180) rfl rfl
abbrev wv_661 : Jvm.Cond := (Jvm.Cond.code ({ cls := "RouteHouse$Waiting", name := "add", desc := "(LRouteHouse$Packet;I)V" } : Jvm.MethodName) prog_7_method_5_code (6 : Nat) (Option.none : Option Jvm.ClassFile.FieldType))
theorem wd_661 : wv_661 ∈ tb_all := wd_o3 (i := 181) rfl rfl
abbrev wv_662 : Jvm.Cond := (Jvm.Cond.methodLink "RouteHouse$Waiting" (79 : Nat) ({ cls := "RouteHouse$Packet", name := "headerLength", desc := "()I" } : Jvm.MethodName))
theorem wd_662 : wv_662 ∈ tb_all := wd_o3 (i := 182) rfl rfl
abbrev wv_663 : Jvm.Cond := (Jvm.Cond.methodLink "RouteHouse$Waiting" (82 : Nat) ({ cls := "java/lang/System", name := "arraycopy", desc := "(Ljava/lang/Object;ILjava/lang/Object;II)V" } : Jvm.MethodName))
theorem wd_663 : wv_663 ∈ tb_all := wd_o3 (i := 183) rfl rfl
abbrev wv_664 : Jvm.Cond := (Jvm.Cond.methodLink "RouteHouse$Waiting" (88 : Nat) ({ cls := "java/lang/Math", name := "max", desc := "(II)I" } : Jvm.MethodName))
theorem wd_664 : wv_664 ∈ tb_all := wd_o3 (i := 184) rfl rfl
abbrev wv_665 : Jvm.Cond := (Jvm.Cond.static ({ cls := "java/lang/Math", name := "max", desc := "(II)I" } : Jvm.MethodName))
theorem wd_665 : wv_665 ∈ tb_all := wd_o3 (i := 185) rfl rfl
abbrev wv_666 : Jvm.Cond := (Jvm.Cond.code ({ cls := "java/lang/Math", name := "max", desc := "(II)I" } : Jvm.MethodName) prog_16_method_65_code (2 : Nat) (Option.some Jvm.ClassFile.FieldType.int))
theorem wd_666 : wv_666 ∈ tb_all := wd_o3 (i := 186) rfl rfl
abbrev wv_667 : Jvm.Cond := (Jvm.Cond.methodLink "RouteHouse$Waits" (41 : Nat) ({ cls := "RouteHouse$Waiting", name := "isComplete", desc := "()Z" } : Jvm.MethodName))
theorem wd_667 : wv_667 ∈ tb_all := wd_o3 (i := 187) rfl rfl
abbrev wv_668 : Jvm.Cond := (Jvm.Cond.instanceMethod ({ cls := "RouteHouse$Waiting", name := "isComplete", desc := "()Z" } : Jvm.MethodName))
theorem wd_668 : wv_668 ∈ tb_all := wd_o3 (i := 188) rfl rfl
abbrev wv_669 : Jvm.Cond := (Jvm.Cond.selects "RouteHouse$Waiting" ({ cls := "RouteHouse$Waiting", name := "isComplete", desc := "()Z" } : Jvm.MethodName) ({ cls := "RouteHouse$Waiting", name := "isComplete", desc := "()Z" } : Jvm.MethodName))
theorem wd_669 : wv_669 ∈ tb_all := wd_o3 (i := 189) rfl rfl
abbrev wv_670 : Jvm.Cond := (Jvm.Cond.code ({ cls := "RouteHouse$Waiting", name := "isComplete", desc := "()Z" } : Jvm.MethodName) prog_7_method_6_code (1 : Nat) (Option.some Jvm.ClassFile.FieldType.boolean))
theorem wd_670 : wv_670 ∈ tb_all := wd_o3 (i := 190) rfl rfl
abbrev wv_671 : Jvm.Cond := (Jvm.Cond.methodLink "RouteHouse$Waits" (45 : Nat) ({ cls := "RouteHouse$Waiting", name := "writeTo", desc := "(LRouteHouse$Packet;)V" } : Jvm.MethodName))
theorem wd_671 : wv_671 ∈ tb_all := wd_o3 (i := 191) rfl rfl
abbrev wv_672 : Jvm.Cond := (Jvm.Cond.instanceMethod ({ cls := "RouteHouse$Waiting", name := "writeTo", desc := "(LRouteHouse$Packet;)V" } : Jvm.MethodName))
theorem wd_672 : wv_672 ∈ tb_all := wd_o3 (i := 192) rfl rfl
abbrev wv_673 : Jvm.Cond := (Jvm.Cond.selects "RouteHouse$Waiting" ({ cls := "RouteHouse$Waiting", name := "writeTo", desc := "(LRouteHouse$Packet;)V" } : Jvm.MethodName) ({ cls := "RouteHouse$Waiting", name := "writeTo", desc := "(LRouteHouse$Packet;)V" } : Jvm.MethodName))
theorem wd_673 : wv_673 ∈ tb_all := wd_o3 (i := 193) rfl rfl
abbrev wv_674 : Jvm.Cond := (Jvm.Cond.code ({ cls := "RouteHouse$Waiting", name := "writeTo", desc := "(LRouteHouse$Packet;)V" } : Jvm.MethodName) prog_7_method_7_code (4 : Nat) (Option.none : Option Jvm.ClassFile.FieldType))
theorem wd_674 : wv_674 ∈ tb_all := wd_o3 (i := 194) rfl rfl
abbrev wv_675 : Jvm.Cond := (Jvm.Cond.methodLink "RouteHouse$Waiting" (97 : Nat) ({ cls := "RouteHouse$Wire", name := "setTwo", desc := "([BII)V" } : Jvm.MethodName))
theorem wd_675 : wv_675 ∈ tb_all := wd_o3 (i := 195) rfl rfl
abbrev wv_676 : Jvm.Cond := (Jvm.Cond.methodLink "RouteHouse$Waiting" (103 : Nat) ({ cls := "RouteHouse$Wire", name := "two", desc := "([BI)I" } : Jvm.MethodName))
theorem wd_676 : wv_676 ∈ tb_all := wd_o3 (i := 196) rfl rfl
abbrev wv_677 : Jvm.Cond := (Jvm.Cond.methodLink "RouteHouse$Waiting" (107 : Nat) ({ cls := "RouteHouse$Wire", name := "sumOf", desc := "([BIII)I" } : Jvm.MethodName))
theorem wd_677 : wv_677 ∈ tb_all := wd_o3 (i := 197) rfl rfl
abbrev wv_678 : Jvm.Cond := (Jvm.Cond.methodLink "RouteHouse" (244 : Nat) ({ cls := "RouteHouse$Packet", name := "protocol", desc := "()I" } : Jvm.MethodName))
theorem wd_678 : wv_678 ∈ tb_all := wd_o3 (i := 198) rfl rfl
abbrev wv_679 : Jvm.Cond := (Jvm.Cond.methodLink "RouteHouse" (247 : Nat) ({ cls := "RouteHouse$Delivery", name := "take", desc := "(LRouteHouse$Packet;)V" } : Jvm.MethodName))
theorem wd_679 : wv_679 ∈ tb_all := wd_o3 (i := 199) rfl rfl
abbrev wv_680 : Jvm.Cond := (Jvm.Cond.instanceMethod ({ cls := "RouteHouse$Delivery", name := "take", desc := "(LRouteHouse$Packet;)V" } : Jvm.MethodName))
theorem wd_680 : wv_680 ∈ tb_all := wd_o3 (i := 200) rfl rfl
abbrev wv_681 : Jvm.Cond := (Jvm.Cond.selects "RouteHouse$Delivery" ({ cls := "RouteHouse$Delivery", name := "take", desc := "(LRouteHouse$Packet;)V" } : Jvm.MethodName) ({ cls := "RouteHouse$Delivery", name := "take", desc := "(LRouteHouse$Packet;)V" } : Jvm.MethodName))
theorem wd_681 : wv_681 ∈ tb_all := wd_o3 (i := 201) rfl rfl
abbrev wv_682 : Jvm.Cond := (Jvm.Cond.code ({ cls := "RouteHouse$Delivery", name := "take", desc := "(LRouteHouse$Packet;)V" } : Jvm.MethodName) prog_2_method_2_code (2 : Nat) (Option.none : Option Jvm.ClassFile.FieldType))
theorem wd_682 : wv_682 ∈ tb_all := wd_o3 (i := 202) rfl rfl
abbrev wv_683 : Jvm.Cond := (Jvm.Cond.methodLink "RouteHouse$Delivery" (19 : Nat) ({ cls := "RouteHouse$Packet", name := "source", desc := "()I" } : Jvm.MethodName))
theorem wd_683 : wv_683 ∈ tb_all := wd_o3 (i := 203) rfl rfl
abbrev wv_684 : Jvm.Cond := (Jvm.Cond.methodLink "RouteHouse$Delivery" (27 : Nat) ({ cls := "RouteHouse$Packet", name := "destination", desc := "()I" } : Jvm.MethodName))
theorem wd_684 : wv_684 ∈ tb_all := wd_o3 (i := 204) rfl rfl
abbrev wv_685 : Jvm.Cond := (Jvm.Cond.methodLink "RouteHouse$Delivery" (32 : Nat) ({ cls := "RouteHouse$Packet", name := "dataLength", desc := "()I" } : Jvm.MethodName))
theorem wd_685 : wv_685 ∈ tb_all := wd_o3 (i := 205) rfl rfl
abbrev wv_686 : Jvm.Cond := (Jvm.Cond.methodLink "RouteHouse$Delivery" (41 : Nat) ({ cls := "RouteHouse$Packet", name := "headerLength", desc := "()I" } : Jvm.MethodName))
theorem wd_686 : wv_686 ∈ tb_all := wd_o3 (i := 206) rfl rfl
abbrev wv_687 : Jvm.Cond := (Jvm.Cond.methodLink "RouteHouse$Delivery" (44 : Nat) ({ cls := "java/lang/System", name := "arraycopy", desc := "(Ljava/lang/Object;ILjava/lang/Object;II)V" } : Jvm.MethodName))
theorem wd_687 : wv_687 ∈ tb_all := wd_o3 (i := 207) rfl rfl
abbrev wv_688 : Jvm.Cond := (Jvm.Cond.methodLink "RouteHouse" (251 : Nat) ({ cls := "RouteHouse$Packet", name := "isRequest", desc := "()Z" } : Jvm.MethodName))
theorem wd_688 : wv_688 ∈ tb_all := wd_o3 (i := 208) rfl rfl
abbrev wv_689 : Jvm.Cond := (Jvm.Cond.instanceMethod ({ cls := "RouteHouse$Packet", name := "isRequest", desc := "()Z" } : Jvm.MethodName))
theorem wd_689 : wv_689 ∈ tb_all := wd_o3 (i := 209) rfl rfl
abbrev wv_690 : Jvm.Cond := (Jvm.Cond.selects "RouteHouse$Packet" ({ cls := "RouteHouse$Packet", name := "isRequest", desc := "()Z" } : Jvm.MethodName) ({ cls := "RouteHouse$Packet", name := "isRequest", desc := "()Z" } : Jvm.MethodName))
theorem wd_690 : wv_690 ∈ tb_all := wd_o3 (i := 210) rfl rfl
abbrev wv_691 : Jvm.Cond := (Jvm.Cond.code ({ cls := "RouteHouse$Packet", name := "isRequest", desc := "()Z" } : Jvm.MethodName) prog_4_method_17_code (3 : Nat) (Option.some Jvm.ClassFile.FieldType.boolean))
theorem wd_691 : wv_691 ∈ tb_all := wd_o3 (i := 211) rfl rfl
abbrev wv_692 : Jvm.Cond := (Jvm.Cond.methodLink "RouteHouse" (254 : Nat) ({ cls := "RouteHouse", name := "sendAnswer", desc := "(LRouteHouse$Packet;I)V" } : Jvm.MethodName))
theorem wd_692 : wv_692 ∈ tb_all := wd_o3 (i := 212) rfl rfl
abbrev wv_694 : Jvm.Cond := (Jvm.Cond.instanceMethod ({ cls := "RouteHouse", name := "sendAnswer", desc := "(LRouteHouse$Packet;I)V" } : Jvm.MethodName))
theorem wd_694 : wv_694 ∈ tb_all := wd_o3 (i := 214) rfl rfl
abbrev wv_695 : Jvm.Cond := (Jvm.Cond.code ({ cls := "RouteHouse", name := "sendAnswer", desc := "(LRouteHouse$Packet;I)V" } : Jvm.MethodName) prog_1_method_25_code (4 : Nat) (Option.none : Option Jvm.ClassFile.FieldType))
theorem wd_695 : wv_695 ∈ tb_all := wd_o3 (i := 215) rfl rfl
abbrev wv_696 : Jvm.Cond := (Jvm.Cond.methodLink "RouteHouse" (233 : Nat) ({ cls := "RouteHouse", name := "sendOn", desc := "(I)I" } : Jvm.MethodName))
theorem wd_696 : wv_696 ∈ tb_all := wd_o3 (i := 216) rfl rfl
abbrev wv_698 : Jvm.Cond := (Jvm.Cond.instanceMethod ({ cls := "RouteHouse", name := "sendOn", desc := "(I)I" } : Jvm.MethodName))
theorem wd_698 : wv_698 ∈ tb_all := wd_o3 (i := 218) rfl rfl
abbrev wv_699 : Jvm.Cond := (Jvm.Cond.code ({ cls := "RouteHouse", name := "sendOn", desc := "(I)I" } : Jvm.MethodName) prog_1_method_23_code (9 : Nat) (Option.some Jvm.ClassFile.FieldType.int))
theorem wd_699 : wv_699 ∈ tb_all := wd_o3 (i := 219) rfl rfl
abbrev wv_700 : Jvm.Cond := (Jvm.Cond.methodLink "RouteHouse" (258 : Nat) ({ cls := "RouteHouse$Packet", name := "hops", desc := "()I" } : Jvm.MethodName))
theorem wd_700 : wv_700 ∈ tb_all := wd_o3 (i := 220) rfl rfl
abbrev wv_701 : Jvm.Cond := (Jvm.Cond.instanceMethod ({ cls := "RouteHouse$Packet", name := "hops", desc := "()I" } : Jvm.MethodName))
theorem wd_701 : wv_701 ∈ tb_all := wd_o3 (i := 221) rfl rfl
abbrev wv_702 : Jvm.Cond := (Jvm.Cond.selects "RouteHouse$Packet" ({ cls := "RouteHouse$Packet", name := "hops", desc := "()I" } : Jvm.MethodName) ({ cls := "RouteHouse$Packet", name := "hops", desc := "()I" } : Jvm.MethodName))
theorem wd_702 : wv_702 ∈ tb_all := wd_o3 (i := 222) rfl rfl
abbrev wv_703 : Jvm.Cond := (Jvm.Cond.code ({ cls := "RouteHouse$Packet", name := "hops", desc := "()I" } : Jvm.MethodName) prog_4_method_10_code (1 : Nat) (Option.some Jvm.ClassFile.FieldType.int))
theorem wd_703 : wv_703 ∈ tb_all := wd_o3 (i := 223) rfl rfl
abbrev wv_704 : Jvm.Cond := (Jvm.Cond.methodLink "RouteHouse" (261 : Nat) ({ cls := "RouteHouse$Packet", name := "length", desc := "()I" } : Jvm.MethodName))
theorem wd_704 : wv_704 ∈ tb_all := wd_o3 (i := 224) rfl rfl
abbrev wv_705 : Jvm.Cond := (Jvm.Cond.methodLink "RouteHouse" (264 : Nat) ({ cls := "RouteHouse$Packet", name := "isUncut", desc := "()Z" } : Jvm.MethodName))
theorem wd_705 : wv_705 ∈ tb_all := wd_o3 (i := 225) rfl rfl
abbrev wv_706 : Jvm.Cond := (Jvm.Cond.instanceMethod ({ cls := "RouteHouse$Packet", name := "isUncut", desc := "()Z" } : Jvm.MethodName))
theorem wd_706 : wv_706 ∈ tb_all := wd_o3 (i := 226) rfl rfl
abbrev wv_707 : Jvm.Cond := (Jvm.Cond.selects "RouteHouse$Packet" ({ cls := "RouteHouse$Packet", name := "isUncut", desc := "()Z" } : Jvm.MethodName) ({ cls := "RouteHouse$Packet", name := "isUncut", desc := "()Z" } : Jvm.MethodName))
theorem wd_707 : wv_707 ∈ tb_all := wd_o3 (i := 227) rfl rfl
abbrev wv_708 : Jvm.Cond := (Jvm.Cond.code ({ cls := "RouteHouse$Packet", name := "isUncut", desc := "()Z" } : Jvm.MethodName) prog_4_method_6_code (1 : Nat) (Option.some Jvm.ClassFile.FieldType.boolean))
theorem wd_708 : wv_708 ∈ tb_all := wd_o3 (i := 228) rfl rfl
abbrev wv_717 : Jvm.Cond := (Jvm.Cond.methodLink "RouteHouse" (178 : Nat) ({ cls := "RouteHouse", name := "passOne", desc := "()V" } : Jvm.MethodName))
theorem wd_717 : wv_717 ∈ tb_all := wd_o3 (i := 237) rfl rfl
abbrev wv_719 : Jvm.Cond := (Jvm.Cond.instanceMethod ({ cls := "RouteHouse", name := "passOne", desc := "()V" } : Jvm.MethodName))
theorem wd_719 : wv_719 ∈ tb_all := wd_o3 (i := 239) rfl rfl
abbrev wv_720 : Jvm.Cond := (Jvm.Cond.code ({ cls := "RouteHouse", name := "passOne", desc := "()V" } : Jvm.MethodName) prog_1_method_27_code (3 : Nat) (Option.none : Option Jvm.ClassFile.FieldType))
theorem wd_720 : wv_720 ∈ tb_all := wd_o4 (i := 0) rfl rfl
abbrev wv_721 : Jvm.Cond := (Jvm.Cond.methodLink "RouteHouse" (293 : Nat) ({ cls := "RouteHouse$Waits", name := "hasOverdue", desc := "(I)Z" } : Jvm.MethodName))
theorem wd_721 : wv_721 ∈ tb_all := wd_o4 (i := 1) rfl rfl
abbrev wv_722 : Jvm.Cond := (Jvm.Cond.instanceMethod ({ cls := "RouteHouse$Waits", name := "hasOverdue", desc := "(I)Z" } : Jvm.MethodName))
theorem wd_722 : wv_722 ∈ tb_all := wd_o4 (i := 2) rfl rfl
abbrev wv_723 : Jvm.Cond := (Jvm.Cond.selects "RouteHouse$Waits" ({ cls := "RouteHouse$Waits", name := "hasOverdue", desc := "(I)Z" } : Jvm.MethodName) ({ cls := "RouteHouse$Waits", name := "hasOverdue", desc := "(I)Z" } : Jvm.MethodName))
theorem wd_723 : wv_723 ∈ tb_all := wd_o4 (i := 3) rfl rfl
abbrev wv_724 : Jvm.Cond := (Jvm.Cond.code ({ cls := "RouteHouse$Waits", name := "hasOverdue", desc := "(I)Z" } : Jvm.MethodName) prog_8_method_3_code (2 : Nat) (Option.some Jvm.ClassFile.FieldType.boolean))
theorem wd_724 : wv_724 ∈ tb_all := wd_o4 (i := 4) rfl rfl
abbrev wv_725 : Jvm.Cond := (Jvm.Cond.methodLink "RouteHouse" (311 : Nat) ({ cls := "RouteHouse$Waits", name := "remove", desc := "(I)V" } : Jvm.MethodName))
theorem wd_725 : wv_725 ∈ tb_all := wd_o4 (i := 5) rfl rfl
abbrev wv_755 : Jvm.Cond := (Jvm.Cond.methodLink "RouteHouseModel" (1 : Nat) ({ cls := "java/lang/Object", name := "<init>", desc := "()V" } : Jvm.MethodName))
theorem wd_755 : wv_755 ∈ tb_all := wd_o4 (i := 35) rfl rfl
abbrev wv_756 : Jvm.Cond := (Jvm.Cond.fieldLink "RouteHouseModel" (7 : Nat) "RouteHouseModel" "addresses" "[I")
theorem wd_756 : wv_756 ∈ tb_all := wd_o4 (i := 36) rfl rfl
abbrev wv_757 : Jvm.Cond := (Jvm.Cond.fieldLink "RouteHouseModel" (13 : Nat) "RouteHouseModel" "mtus" "[I")
theorem wd_757 : wv_757 ∈ tb_all := wd_o4 (i := 37) rfl rfl
abbrev wv_758 : Jvm.Cond := (Jvm.Cond.fieldLink "RouteHouseModel" (16 : Nat) "RouteHouseModel" "down" "[Z")
theorem wd_758 : wv_758 ∈ tb_all := wd_o4 (i := 38) rfl rfl
abbrev wv_759 : Jvm.Cond := (Jvm.Cond.fieldLink "RouteHouseModel" (20 : Nat) "RouteHouseModel" "starts" "[I")
theorem wd_759 : wv_759 ∈ tb_all := wd_o4 (i := 39) rfl rfl
abbrev wv_760 : Jvm.Cond := (Jvm.Cond.fieldLink "RouteHouseModel" (23 : Nat) "RouteHouseModel" "lengths" "[I")
theorem wd_760 : wv_760 ∈ tb_all := wd_o4 (i := 40) rfl rfl
abbrev wv_761 : Jvm.Cond := (Jvm.Cond.fieldLink "RouteHouseModel" (26 : Nat) "RouteHouseModel" "ports" "[I")
theorem wd_761 : wv_761 ∈ tb_all := wd_o4 (i := 41) rfl rfl
abbrev wv_762 : Jvm.Cond := (Jvm.Cond.fieldLink "RouteHouseModel" (29 : Nat) "RouteHouseModel" "nexts" "[I")
theorem wd_762 : wv_762 ∈ tb_all := wd_o4 (i := 42) rfl rfl
abbrev wv_763 : Jvm.Cond := (Jvm.Cond.fieldLink "RouteHouseModel" (113 : Nat) "RouteHouseModel" "routes" "I")
theorem wd_763 : wv_763 ∈ tb_all := wd_o4 (i := 43) rfl rfl
abbrev wv_764 : Jvm.Cond := (Jvm.Cond.fieldLink "RouteHouseModel" (32 : Nat) "RouteHouseModel" "tape" "[I")
theorem wd_764 : wv_764 ∈ tb_all := wd_o4 (i := 44) rfl rfl
abbrev wv_765 : Jvm.Cond := (Jvm.Cond.fieldLink "RouteHouseModel" (127 : Nat) "RouteHouseModel" "taped" "I")
theorem wd_765 : wv_765 ∈ tb_all := wd_o4 (i := 45) rfl rfl
abbrev wv_766 : Jvm.Cond := (Jvm.Cond.fieldLink "RouteHouseModel" (35 : Nat) "RouteHouseModel" "p" "[I")
theorem wd_766 : wv_766 ∈ tb_all := wd_o4 (i := 46) rfl rfl
abbrev wv_767 : Jvm.Cond := (Jvm.Cond.fieldLink "RouteHouseModel" (38 : Nat) "RouteHouseModel" "q" "[I")
theorem wd_767 : wv_767 ∈ tb_all := wd_o4 (i := 47) rfl rfl
abbrev wv_768 : Jvm.Cond := (Jvm.Cond.fieldLink "RouteHouseModel" (149 : Nat) "RouteHouseModel" "size" "I")
theorem wd_768 : wv_768 ∈ tb_all := wd_o4 (i := 48) rfl rfl
abbrev wv_769 : Jvm.Cond := (Jvm.Cond.fieldLink "RouteHouseModel" (146 : Nat) "RouteHouseModel" "made" "I")
theorem wd_769 : wv_769 ∈ tb_all := wd_o4 (i := 49) rfl rfl
abbrev wv_770 : Jvm.Cond := (Jvm.Cond.fieldLink "RouteHouseModel" (41 : Nat) "RouteHouseModel" "bytes" "[I")
theorem wd_770 : wv_770 ∈ tb_all := wd_o4 (i := 50) rfl rfl
abbrev wv_771 : Jvm.Cond := (Jvm.Cond.fieldLink "RouteHouseModel" (44 : Nat) "RouteHouseModel" "from" "[I")
theorem wd_771 : wv_771 ∈ tb_all := wd_o4 (i := 51) rfl rfl
abbrev wv_772 : Jvm.Cond := (Jvm.Cond.fieldLink "RouteHouseModel" (47 : Nat) "RouteHouseModel" "sizes" "[I")
theorem wd_772 : wv_772 ∈ tb_all := wd_o4 (i := 52) rfl rfl
abbrev wv_773 : Jvm.Cond := (Jvm.Cond.fieldLink "RouteHouseModel" (50 : Nat) "RouteHouseModel" "outPorts" "[I")
theorem wd_773 : wv_773 ∈ tb_all := wd_o4 (i := 53) rfl rfl
abbrev wv_774 : Jvm.Cond := (Jvm.Cond.fieldLink "RouteHouseModel" (53 : Nat) "RouteHouseModel" "outNexts" "[I")
theorem wd_774 : wv_774 ∈ tb_all := wd_o4 (i := 54) rfl rfl
abbrev wv_775 : Jvm.Cond := (Jvm.Cond.fieldLink "RouteHouseModel" (143 : Nat) "RouteHouseModel" "outs" "I")
theorem wd_775 : wv_775 ∈ tb_all := wd_o4 (i := 55) rfl rfl
abbrev wv_776 : Jvm.Cond := (Jvm.Cond.fieldLink "RouteHouseModel" (56 : Nat) "RouteHouseModel" "tokens" "I")
theorem wd_776 : wv_776 ∈ tb_all := wd_o4 (i := 56) rfl rfl
abbrev wv_777 : Jvm.Cond := (Jvm.Cond.fieldLink "RouteHouseModel" (160 : Nat) "RouteHouseModel" "sentCount" "I")
theorem wd_777 : wv_777 ∈ tb_all := wd_o4 (i := 57) rfl rfl
abbrev wv_778 : Jvm.Cond := (Jvm.Cond.fieldLink "RouteHouseModel" (197 : Nat) "RouteHouseModel" "time" "I")
theorem wd_778 : wv_778 ∈ tb_all := wd_o4 (i := 58) rfl rfl
abbrev wv_779 : Jvm.Cond := (Jvm.Cond.fieldLink "RouteHouseModel" (207 : Nat) "RouteHouseModel" "deliveries" "I")
theorem wd_779 : wv_779 ∈ tb_all := wd_o4 (i := 59) rfl rfl
abbrev wv_780 : Jvm.Cond := (Jvm.Cond.fieldLink "RouteHouseModel" (210 : Nat) "RouteHouseModel" "deliveredFrom" "I")
theorem wd_780 : wv_780 ∈ tb_all := wd_o4 (i := 60) rfl rfl
abbrev wv_781 : Jvm.Cond := (Jvm.Cond.fieldLink "RouteHouseModel" (213 : Nat) "RouteHouseModel" "deliveredTo" "I")
theorem wd_781 : wv_781 ∈ tb_all := wd_o4 (i := 61) rfl rfl
abbrev wv_782 : Jvm.Cond := (Jvm.Cond.fieldLink "RouteHouseModel" (216 : Nat) "RouteHouseModel" "deliveredSize" "I")
theorem wd_782 : wv_782 ∈ tb_all := wd_o4 (i := 62) rfl rfl
abbrev wv_783 : Jvm.Cond := (Jvm.Cond.fieldLink "RouteHouseModel" (60 : Nat) "RouteHouseModel" "delivered" "[I")
theorem wd_783 : wv_783 ∈ tb_all := wd_o4 (i := 63) rfl rfl
abbrev wv_784 : Jvm.Cond := (Jvm.Cond.fieldLink "RouteHouseModel" (176 : Nat) "RouteHouseModel" "waits" "I")
theorem wd_784 : wv_784 ∈ tb_all := wd_o4 (i := 64) rfl rfl
abbrev wv_785 : Jvm.Cond := (Jvm.Cond.fieldLink "RouteHouseModel" (63 : Nat) "RouteHouseModel" "sources" "[I")
theorem wd_785 : wv_785 ∈ tb_all := wd_o4 (i := 65) rfl rfl
abbrev wv_786 : Jvm.Cond := (Jvm.Cond.fieldLink "RouteHouseModel" (66 : Nat) "RouteHouseModel" "targets" "[I")
theorem wd_786 : wv_786 ∈ tb_all := wd_o4 (i := 66) rfl rfl
abbrev wv_787 : Jvm.Cond := (Jvm.Cond.fieldLink "RouteHouseModel" (69 : Nat) "RouteHouseModel" "names" "[I")
theorem wd_787 : wv_787 ∈ tb_all := wd_o4 (i := 67) rfl rfl
abbrev wv_788 : Jvm.Cond := (Jvm.Cond.fieldLink "RouteHouseModel" (72 : Nat) "RouteHouseModel" "since" "[I")
theorem wd_788 : wv_788 ∈ tb_all := wd_o4 (i := 68) rfl rfl
abbrev wv_789 : Jvm.Cond := (Jvm.Cond.fieldLink "RouteHouseModel" (75 : Nat) "RouteHouseModel" "ends" "[I")
theorem wd_789 : wv_789 ∈ tb_all := wd_o4 (i := 69) rfl rfl
abbrev wv_790 : Jvm.Cond := (Jvm.Cond.fieldLink "RouteHouseModel" (78 : Nat) "RouteHouseModel" "tops" "[I")
theorem wd_790 : wv_790 ∈ tb_all := wd_o4 (i := 70) rfl rfl
abbrev wv_791 : Jvm.Cond := (Jvm.Cond.fieldLink "RouteHouseModel" (81 : Nat) "RouteHouseModel" "headSizes" "[I")
theorem wd_791 : wv_791 ∈ tb_all := wd_o4 (i := 71) rfl rfl
abbrev wv_792 : Jvm.Cond := (Jvm.Cond.fieldLink "RouteHouseModel" (84 : Nat) "RouteHouseModel" "heads" "[I")
theorem wd_792 : wv_792 ∈ tb_all := wd_o4 (i := 72) rfl rfl
abbrev wv_793 : Jvm.Cond := (Jvm.Cond.fieldLink "RouteHouseModel" (87 : Nat) "RouteHouseModel" "firsts" "[I")
theorem wd_793 : wv_793 ∈ tb_all := wd_o4 (i := 73) rfl rfl
abbrev wv_794 : Jvm.Cond := (Jvm.Cond.fieldLink "RouteHouseModel" (90 : Nat) "RouteHouseModel" "firstSizes" "[I")
theorem wd_794 : wv_794 ∈ tb_all := wd_o4 (i := 74) rfl rfl
abbrev wv_795 : Jvm.Cond := (Jvm.Cond.fieldLink "RouteHouseModel" (93 : Nat) "RouteHouseModel" "firstPorts" "[I")
theorem wd_795 : wv_795 ∈ tb_all := wd_o4 (i := 75) rfl rfl
abbrev wv_796 : Jvm.Cond := (Jvm.Cond.fieldLink "RouteHouseModel" (96 : Nat) "RouteHouseModel" "parts" "[I")
theorem wd_796 : wv_796 ∈ tb_all := wd_o4 (i := 76) rfl rfl
abbrev wv_797 : Jvm.Cond := (Jvm.Cond.fieldLink "RouteHouseModel" (99 : Nat) "RouteHouseModel" "there" "[Z")
theorem wd_797 : wv_797 ∈ tb_all := wd_o4 (i := 77) rfl rfl
abbrev wv_798 : Jvm.Cond := (Jvm.Cond.fieldLink "RouteHouseModel" (102 : Nat) "RouteHouseModel" "thrown" "I")
theorem wd_798 : wv_798 ∈ tb_all := wd_o4 (i := 78) rfl rfl
abbrev wv_799 : Jvm.Cond := (Jvm.Cond.laysFinal "RouteHouseModel" "RouteHouseModel" "addresses" "[I")
theorem wd_799 : wv_799 ∈ tb_all := wd_o4 (i := 79) rfl rfl
abbrev wv_801 : Jvm.Cond := (Jvm.Cond.laysFinal "RouteHouseModel" "RouteHouseModel" "mtus" "[I")
theorem wd_801 : wv_801 ∈ tb_all := wd_o4 (i := 81) rfl rfl
abbrev wv_803 : Jvm.Cond := (Jvm.Cond.laysFinal "RouteHouseModel" "RouteHouseModel" "down" "[Z")
theorem wd_803 : wv_803 ∈ tb_all := wd_o4 (i := 83) rfl rfl
abbrev wv_805 : Jvm.Cond := (Jvm.Cond.laysFinal "RouteHouseModel" "RouteHouseModel" "starts" "[I")
theorem wd_805 : wv_805 ∈ tb_all := wd_o4 (i := 85) rfl rfl
abbrev wv_807 : Jvm.Cond := (Jvm.Cond.laysFinal "RouteHouseModel" "RouteHouseModel" "lengths" "[I")
theorem wd_807 : wv_807 ∈ tb_all := wd_o4 (i := 87) rfl rfl
abbrev wv_809 : Jvm.Cond := (Jvm.Cond.laysFinal "RouteHouseModel" "RouteHouseModel" "ports" "[I")
theorem wd_809 : wv_809 ∈ tb_all := wd_o4 (i := 89) rfl rfl
abbrev wv_811 : Jvm.Cond := (Jvm.Cond.laysFinal "RouteHouseModel" "RouteHouseModel" "nexts" "[I")
theorem wd_811 : wv_811 ∈ tb_all := wd_o4 (i := 91) rfl rfl
abbrev wv_813 : Jvm.Cond := (Jvm.Cond.lays "RouteHouseModel" "RouteHouseModel" "routes" "I")
theorem wd_813 : wv_813 ∈ tb_all := wd_o4 (i := 93) rfl rfl
abbrev wv_815 : Jvm.Cond := (Jvm.Cond.laysFinal "RouteHouseModel" "RouteHouseModel" "tape" "[I")
theorem wd_815 : wv_815 ∈ tb_all := wd_o4 (i := 95) rfl rfl
abbrev wv_817 : Jvm.Cond := (Jvm.Cond.lays "RouteHouseModel" "RouteHouseModel" "taped" "I")
theorem wd_817 : wv_817 ∈ tb_all := wd_o4 (i := 97) rfl rfl
abbrev wv_819 : Jvm.Cond := (Jvm.Cond.laysFinal "RouteHouseModel" "RouteHouseModel" "p" "[I")
theorem wd_819 : wv_819 ∈ tb_all := wd_o4 (i := 99) rfl rfl
abbrev wv_821 : Jvm.Cond := (Jvm.Cond.laysFinal "RouteHouseModel" "RouteHouseModel" "q" "[I")
theorem wd_821 : wv_821 ∈ tb_all := wd_o4 (i := 101) rfl rfl
abbrev wv_823 : Jvm.Cond := (Jvm.Cond.lays "RouteHouseModel" "RouteHouseModel" "size" "I")
theorem wd_823 : wv_823 ∈ tb_all := wd_o4 (i := 103) rfl rfl
abbrev wv_825 : Jvm.Cond := (Jvm.Cond.lays "RouteHouseModel" "RouteHouseModel" "made" "I")
theorem wd_825 : wv_825 ∈ tb_all := wd_o4 (i := 105) rfl rfl
abbrev wv_827 : Jvm.Cond := (Jvm.Cond.laysFinal "RouteHouseModel" "RouteHouseModel" "bytes" "[I")
theorem wd_827 : wv_827 ∈ tb_all := wd_o4 (i := 107) rfl rfl
abbrev wv_829 : Jvm.Cond := (Jvm.Cond.laysFinal "RouteHouseModel" "RouteHouseModel" "from" "[I")
theorem wd_829 : wv_829 ∈ tb_all := wd_o4 (i := 109) rfl rfl
abbrev wv_831 : Jvm.Cond := (Jvm.Cond.laysFinal "RouteHouseModel" "RouteHouseModel" "sizes" "[I")
theorem wd_831 : wv_831 ∈ tb_all := wd_o4 (i := 111) rfl rfl
abbrev wv_833 : Jvm.Cond := (Jvm.Cond.laysFinal "RouteHouseModel" "RouteHouseModel" "outPorts" "[I")
theorem wd_833 : wv_833 ∈ tb_all := wd_o4 (i := 113) rfl rfl
abbrev wv_835 : Jvm.Cond := (Jvm.Cond.laysFinal "RouteHouseModel" "RouteHouseModel" "outNexts" "[I")
theorem wd_835 : wv_835 ∈ tb_all := wd_o4 (i := 115) rfl rfl
abbrev wv_837 : Jvm.Cond := (Jvm.Cond.lays "RouteHouseModel" "RouteHouseModel" "outs" "I")
theorem wd_837 : wv_837 ∈ tb_all := wd_o4 (i := 117) rfl rfl
abbrev wv_839 : Jvm.Cond := (Jvm.Cond.lays "RouteHouseModel" "RouteHouseModel" "tokens" "I")
theorem wd_839 : wv_839 ∈ tb_all := wd_o4 (i := 119) rfl rfl
abbrev wv_841 : Jvm.Cond := (Jvm.Cond.lays "RouteHouseModel" "RouteHouseModel" "sentCount" "I")
theorem wd_841 : wv_841 ∈ tb_all := wd_o4 (i := 121) rfl rfl
abbrev wv_843 : Jvm.Cond := (Jvm.Cond.lays "RouteHouseModel" "RouteHouseModel" "time" "I")
theorem wd_843 : wv_843 ∈ tb_all := wd_o4 (i := 123) rfl rfl
abbrev wv_845 : Jvm.Cond := (Jvm.Cond.lays "RouteHouseModel" "RouteHouseModel" "deliveries" "I")
theorem wd_845 : wv_845 ∈ tb_all := wd_o4 (i := 125) rfl rfl
abbrev wv_847 : Jvm.Cond := (Jvm.Cond.lays "RouteHouseModel" "RouteHouseModel" "deliveredFrom" "I")
theorem wd_847 : wv_847 ∈ tb_all := wd_o4 (i := 127) rfl rfl
abbrev wv_849 : Jvm.Cond := (Jvm.Cond.lays "RouteHouseModel" "RouteHouseModel" "deliveredTo" "I")
theorem wd_849 : wv_849 ∈ tb_all := wd_o4 (i := 129) rfl rfl
abbrev wv_851 : Jvm.Cond := (Jvm.Cond.lays "RouteHouseModel" "RouteHouseModel" "deliveredSize" "I")
theorem wd_851 : wv_851 ∈ tb_all := wd_o4 (i := 131) rfl rfl
abbrev wv_853 : Jvm.Cond := (Jvm.Cond.laysFinal "RouteHouseModel" "RouteHouseModel" "delivered" "[I")
theorem wd_853 : wv_853 ∈ tb_all := wd_o4 (i := 133) rfl rfl
abbrev wv_855 : Jvm.Cond := (Jvm.Cond.lays "RouteHouseModel" "RouteHouseModel" "waits" "I")
theorem wd_855 : wv_855 ∈ tb_all := wd_o4 (i := 135) rfl rfl
abbrev wv_857 : Jvm.Cond := (Jvm.Cond.laysFinal "RouteHouseModel" "RouteHouseModel" "sources" "[I")
theorem wd_857 : wv_857 ∈ tb_all := wd_o4 (i := 137) rfl rfl
abbrev wv_859 : Jvm.Cond := (Jvm.Cond.laysFinal "RouteHouseModel" "RouteHouseModel" "targets" "[I")
theorem wd_859 : wv_859 ∈ tb_all := wd_o4 (i := 139) rfl rfl
abbrev wv_861 : Jvm.Cond := (Jvm.Cond.laysFinal "RouteHouseModel" "RouteHouseModel" "names" "[I")
theorem wd_861 : wv_861 ∈ tb_all := wd_o4 (i := 141) rfl rfl
abbrev wv_863 : Jvm.Cond := (Jvm.Cond.laysFinal "RouteHouseModel" "RouteHouseModel" "since" "[I")
theorem wd_863 : wv_863 ∈ tb_all := wd_o4 (i := 143) rfl rfl
abbrev wv_865 : Jvm.Cond := (Jvm.Cond.laysFinal "RouteHouseModel" "RouteHouseModel" "ends" "[I")
theorem wd_865 : wv_865 ∈ tb_all := wd_o4 (i := 145) rfl rfl
abbrev wv_867 : Jvm.Cond := (Jvm.Cond.laysFinal "RouteHouseModel" "RouteHouseModel" "tops" "[I")
theorem wd_867 : wv_867 ∈ tb_all := wd_o4 (i := 147) rfl rfl
abbrev wv_869 : Jvm.Cond := (Jvm.Cond.laysFinal "RouteHouseModel" "RouteHouseModel" "headSizes" "[I")
theorem wd_869 : wv_869 ∈ tb_all := wd_o4 (i := 149) rfl rfl
abbrev wv_871 : Jvm.Cond := (Jvm.Cond.laysFinal "RouteHouseModel" "RouteHouseModel" "heads" "[I")
theorem wd_871 : wv_871 ∈ tb_all := wd_o4 (i := 151) rfl rfl
abbrev wv_873 : Jvm.Cond := (Jvm.Cond.laysFinal "RouteHouseModel" "RouteHouseModel" "firsts" "[I")
theorem wd_873 : wv_873 ∈ tb_all := wd_o4 (i := 153) rfl rfl
abbrev wv_875 : Jvm.Cond := (Jvm.Cond.laysFinal "RouteHouseModel" "RouteHouseModel" "firstSizes" "[I")
theorem wd_875 : wv_875 ∈ tb_all := wd_o4 (i := 155) rfl rfl
abbrev wv_877 : Jvm.Cond := (Jvm.Cond.laysFinal "RouteHouseModel" "RouteHouseModel" "firstPorts" "[I")
theorem wd_877 : wv_877 ∈ tb_all := wd_o4 (i := 157) rfl rfl
abbrev wv_879 : Jvm.Cond := (Jvm.Cond.laysFinal "RouteHouseModel" "RouteHouseModel" "parts" "[I")
theorem wd_879 : wv_879 ∈ tb_all := wd_o4 (i := 159) rfl rfl
abbrev wv_881 : Jvm.Cond := (Jvm.Cond.laysFinal "RouteHouseModel" "RouteHouseModel" "there" "[Z")
theorem wd_881 : wv_881 ∈ tb_all := wd_o4 (i := 161) rfl rfl
abbrev wv_883 : Jvm.Cond := (Jvm.Cond.lays "RouteHouseModel" "RouteHouseModel" "thrown" "I")
theorem wd_883 : wv_883 ∈ tb_all := wd_o4 (i := 163) rfl rfl
abbrev wv_894 : Jvm.Cond := (Jvm.Cond.methodLink "RouteHouseModel" (105 : Nat) ({ cls := "RouteHouseModel", name := "isPort", desc := "(I)Z" } : Jvm.MethodName))
theorem wd_894 : wv_894 ∈ tb_all := wd_o4 (i := 174) rfl rfl
abbrev wv_895 : Jvm.Cond := (Jvm.Cond.static ({ cls := "RouteHouseModel", name := "isPort", desc := "(I)Z" } : Jvm.MethodName))
theorem wd_895 : wv_895 ∈ tb_all := wd_o4 (i := 175) rfl rfl
abbrev wv_896 : Jvm.Cond := (Jvm.Cond.code ({ cls := "RouteHouseModel", name := "isPort", desc := "(I)Z" } : Jvm.MethodName) prog_11_method_4_code (1 : Nat) (Option.some Jvm.ClassFile.FieldType.boolean))
theorem wd_896 : wv_896 ∈ tb_all := wd_o4 (i := 176) rfl rfl
abbrev wv_897 : Jvm.Cond := (Jvm.Cond.methodLink "RouteHouseModel" (109 : Nat) ({ cls := "RouteHouseModel", name := "fails", desc := "(ZI)Z" } : Jvm.MethodName))
theorem wd_897 : wv_897 ∈ tb_all := wd_o4 (i := 177) rfl rfl
abbrev wv_899 : Jvm.Cond := (Jvm.Cond.instanceMethod ({ cls := "RouteHouseModel", name := "fails", desc := "(ZI)Z" } : Jvm.MethodName))
theorem wd_899 : wv_899 ∈ tb_all := wd_o4 (i := 179) rfl rfl
abbrev wv_900 : Jvm.Cond := (Jvm.Cond.code ({ cls := "RouteHouseModel", name := "fails", desc := "(ZI)Z" } : Jvm.MethodName) prog_11_method_3_code (3 : Nat) (Option.some Jvm.ClassFile.FieldType.boolean))
theorem wd_900 : wv_900 ∈ tb_all := wd_o4 (i := 180) rfl rfl
abbrev wv_909 : Jvm.Cond := (Jvm.Cond.methodLink "RouteHouseModel" (120 : Nat) ({ cls := "RouteHouseModel", name := "routeFor", desc := "(II)I" } : Jvm.MethodName))
theorem wd_909 : wv_909 ∈ tb_all := wd_o4 (i := 189) rfl rfl
abbrev wv_911 : Jvm.Cond := (Jvm.Cond.instanceMethod ({ cls := "RouteHouseModel", name := "routeFor", desc := "(II)I" } : Jvm.MethodName))
theorem wd_911 : wv_911 ∈ tb_all := wd_o4 (i := 191) rfl rfl
abbrev wv_912 : Jvm.Cond := (Jvm.Cond.code ({ cls := "RouteHouseModel", name := "routeFor", desc := "(II)I" } : Jvm.MethodName) prog_11_method_8_code (4 : Nat) (Option.some Jvm.ClassFile.FieldType.int))
theorem wd_912 : wv_912 ∈ tb_all := wd_o4 (i := 192) rfl rfl
abbrev wv_913 : Jvm.Cond := (Jvm.Cond.methodLink "RouteHouseModel" (116 : Nat) ({ cls := "RouteHouseModel", name := "start", desc := "(II)I" } : Jvm.MethodName))
theorem wd_913 : wv_913 ∈ tb_all := wd_o4 (i := 193) rfl rfl
abbrev wv_914 : Jvm.Cond := (Jvm.Cond.static ({ cls := "RouteHouseModel", name := "start", desc := "(II)I" } : Jvm.MethodName))
theorem wd_914 : wv_914 ∈ tb_all := wd_o4 (i := 194) rfl rfl
abbrev wv_915 : Jvm.Cond := (Jvm.Cond.code ({ cls := "RouteHouseModel", name := "start", desc := "(II)I" } : Jvm.MethodName) prog_11_method_7_code (2 : Nat) (Option.some Jvm.ClassFile.FieldType.int))
theorem wd_915 : wv_915 ∈ tb_all := wd_o4 (i := 195) rfl rfl
abbrev wv_924 : Jvm.Cond := (Jvm.Cond.methodLink "RouteHouseModel" (123 : Nat) ({ cls := "RouteHouseModel", name := "find", desc := "(I)I" } : Jvm.MethodName))
theorem wd_924 : wv_924 ∈ tb_all := wd_o4 (i := 204) rfl rfl
abbrev wv_926 : Jvm.Cond := (Jvm.Cond.instanceMethod ({ cls := "RouteHouseModel", name := "find", desc := "(I)I" } : Jvm.MethodName))
theorem wd_926 : wv_926 ∈ tb_all := wd_o4 (i := 206) rfl rfl
abbrev wv_927 : Jvm.Cond := (Jvm.Cond.code ({ cls := "RouteHouseModel", name := "find", desc := "(I)I" } : Jvm.MethodName) prog_11_method_11_code (4 : Nat) (Option.some Jvm.ClassFile.FieldType.int))
theorem wd_927 : wv_927 ∈ tb_all := wd_o4 (i := 207) rfl rfl
abbrev wv_940 : Jvm.Cond := (Jvm.Cond.methodLink "RouteHouseModel" (139 : Nat) ({ cls := "RouteHouseModel", name := "sumOf", desc := "([IIII)I" } : Jvm.MethodName))
theorem wd_940 : wv_940 ∈ tb_all := wd_o4 (i := 220) rfl rfl
abbrev wv_941 : Jvm.Cond := (Jvm.Cond.static ({ cls := "RouteHouseModel", name := "sumOf", desc := "([IIII)I" } : Jvm.MethodName))
theorem wd_941 : wv_941 ∈ tb_all := wd_o4 (i := 221) rfl rfl
abbrev wv_942 : Jvm.Cond := (Jvm.Cond.code ({ cls := "RouteHouseModel", name := "sumOf", desc := "([IIII)I" } : Jvm.MethodName) prog_11_method_15_code (7 : Nat) (Option.some Jvm.ClassFile.FieldType.int))
theorem wd_942 : wv_942 ∈ tb_all := wd_o4 (i := 222) rfl rfl
abbrev wv_943 : Jvm.Cond := (Jvm.Cond.constant "RouteHouseModel" (130 : Nat) (65535 : Int32))
theorem wd_943 : wv_943 ∈ tb_all := wd_o4 (i := 223) rfl rfl
abbrev wv_944 : Jvm.Cond := (Jvm.Cond.methodLink "RouteHouseModel" (135 : Nat) ({ cls := "RouteHouseModel", name := "putTwo", desc := "([III)V" } : Jvm.MethodName))
theorem wd_944 : wv_944 ∈ tb_all := wd_o4 (i := 224) rfl rfl
abbrev wv_945 : Jvm.Cond := (Jvm.Cond.static ({ cls := "RouteHouseModel", name := "putTwo", desc := "([III)V" } : Jvm.MethodName))
theorem wd_945 : wv_945 ∈ tb_all := wd_o4 (i := 225) rfl rfl
abbrev wv_946 : Jvm.Cond := (Jvm.Cond.code ({ cls := "RouteHouseModel", name := "putTwo", desc := "([III)V" } : Jvm.MethodName) prog_11_method_16_code (3 : Nat) (Option.none : Option Jvm.ClassFile.FieldType))
theorem wd_946 : wv_946 ∈ tb_all := wd_o4 (i := 226) rfl rfl
abbrev wv_955 : Jvm.Cond := (Jvm.Cond.methodLink "RouteHouseModel" (237 : Nat) ({ cls := "RouteHouseModel", name := "judge", desc := "(II)I" } : Jvm.MethodName))
theorem wd_955 : wv_955 ∈ tb_all := wd_o4 (i := 235) rfl rfl
abbrev wv_957 : Jvm.Cond := (Jvm.Cond.instanceMethod ({ cls := "RouteHouseModel", name := "judge", desc := "(II)I" } : Jvm.MethodName))
theorem wd_957 : wv_957 ∈ tb_all := wd_o4 (i := 237) rfl rfl
abbrev wv_958 : Jvm.Cond := (Jvm.Cond.code ({ cls := "RouteHouseModel", name := "judge", desc := "(II)I" } : Jvm.MethodName) prog_11_method_39_code (7 : Nat) (Option.some Jvm.ClassFile.FieldType.int))
theorem wd_958 : wv_958 ∈ tb_all := wd_o4 (i := 238) rfl rfl
abbrev wv_959 : Jvm.Cond := (Jvm.Cond.methodLink "RouteHouseModel" (131 : Nat) ({ cls := "RouteHouseModel", name := "two", desc := "([II)I" } : Jvm.MethodName))
theorem wd_959 : wv_959 ∈ tb_all := wd_o4 (i := 239) rfl rfl
abbrev wv_960 : Jvm.Cond := (Jvm.Cond.static ({ cls := "RouteHouseModel", name := "two", desc := "([II)I" } : Jvm.MethodName))
theorem wd_960 : wv_960 ∈ tb_all := wd_o5 (i := 0) rfl rfl
abbrev wv_961 : Jvm.Cond := (Jvm.Cond.code ({ cls := "RouteHouseModel", name := "two", desc := "([II)I" } : Jvm.MethodName) prog_11_method_17_code (2 : Nat) (Option.some Jvm.ClassFile.FieldType.int))
theorem wd_961 : wv_961 ∈ tb_all := wd_o5 (i := 1) rfl rfl
abbrev wv_962 : Jvm.Cond := (Jvm.Cond.methodLink "RouteHouseModel" (219 : Nat) ({ cls := "RouteHouseModel", name := "isStrange", desc := "(I)Z" } : Jvm.MethodName))
theorem wd_962 : wv_962 ∈ tb_all := wd_o5 (i := 2) rfl rfl
abbrev wv_963 : Jvm.Cond := (Jvm.Cond.static ({ cls := "RouteHouseModel", name := "isStrange", desc := "(I)Z" } : Jvm.MethodName))
theorem wd_963 : wv_963 ∈ tb_all := wd_o5 (i := 3) rfl rfl
abbrev wv_964 : Jvm.Cond := (Jvm.Cond.code ({ cls := "RouteHouseModel", name := "isStrange", desc := "(I)Z" } : Jvm.MethodName) prog_11_method_36_code (1 : Nat) (Option.some Jvm.ClassFile.FieldType.boolean))
theorem wd_964 : wv_964 ∈ tb_all := wd_o5 (i := 4) rfl rfl
abbrev wv_965 : Jvm.Cond := (Jvm.Cond.methodLink "RouteHouseModel" (222 : Nat) ({ cls := "RouteHouseModel", name := "wrongOption", desc := "(I)I" } : Jvm.MethodName))
theorem wd_965 : wv_965 ∈ tb_all := wd_o5 (i := 5) rfl rfl
abbrev wv_967 : Jvm.Cond := (Jvm.Cond.instanceMethod ({ cls := "RouteHouseModel", name := "wrongOption", desc := "(I)I" } : Jvm.MethodName))
theorem wd_967 : wv_967 ∈ tb_all := wd_o5 (i := 7) rfl rfl
abbrev wv_968 : Jvm.Cond := (Jvm.Cond.code ({ cls := "RouteHouseModel", name := "wrongOption", desc := "(I)I" } : Jvm.MethodName) prog_11_method_35_code (4 : Nat) (Option.some Jvm.ClassFile.FieldType.int))
theorem wd_968 : wv_968 ∈ tb_all := wd_o5 (i := 8) rfl rfl
abbrev wv_969 : Jvm.Cond := (Jvm.Cond.methodLink "RouteHouseModel" (203 : Nat) ({ cls := "RouteHouseModel", name := "error", desc := "(IIII)V" } : Jvm.MethodName))
theorem wd_969 : wv_969 ∈ tb_all := wd_o5 (i := 9) rfl rfl
abbrev wv_971 : Jvm.Cond := (Jvm.Cond.instanceMethod ({ cls := "RouteHouseModel", name := "error", desc := "(IIII)V" } : Jvm.MethodName))
theorem wd_971 : wv_971 ∈ tb_all := wd_o5 (i := 11) rfl rfl
abbrev wv_972 : Jvm.Cond := (Jvm.Cond.code ({ cls := "RouteHouseModel", name := "error", desc := "(IIII)V" } : Jvm.MethodName) prog_11_method_26_code (9 : Nat) (Option.none : Option Jvm.ClassFile.FieldType))
theorem wd_972 : wv_972 ∈ tb_all := wd_o5 (i := 12) rfl rfl
abbrev wv_973 : Jvm.Cond := (Jvm.Cond.methodLink "RouteHouseModel" (167 : Nat) ({ cls := "RouteHouseModel", name := "four", desc := "([II)I" } : Jvm.MethodName))
theorem wd_973 : wv_973 ∈ tb_all := wd_o5 (i := 13) rfl rfl
abbrev wv_974 : Jvm.Cond := (Jvm.Cond.static ({ cls := "RouteHouseModel", name := "four", desc := "([II)I" } : Jvm.MethodName))
theorem wd_974 : wv_974 ∈ tb_all := wd_o5 (i := 14) rfl rfl
abbrev wv_975 : Jvm.Cond := (Jvm.Cond.code ({ cls := "RouteHouseModel", name := "four", desc := "([II)I" } : Jvm.MethodName) prog_11_method_18_code (2 : Nat) (Option.some Jvm.ClassFile.FieldType.int))
theorem wd_975 : wv_975 ∈ tb_all := wd_o5 (i := 15) rfl rfl
abbrev wv_976 : Jvm.Cond := (Jvm.Cond.methodLink "RouteHouseModel" (170 : Nat) ({ cls := "RouteHouseModel", name := "begin", desc := "(II)V" } : Jvm.MethodName))
theorem wd_976 : wv_976 ∈ tb_all := wd_o5 (i := 16) rfl rfl
abbrev wv_978 : Jvm.Cond := (Jvm.Cond.instanceMethod ({ cls := "RouteHouseModel", name := "begin", desc := "(II)V" } : Jvm.MethodName))
theorem wd_978 : wv_978 ∈ tb_all := wd_o5 (i := 18) rfl rfl
abbrev wv_979 : Jvm.Cond := (Jvm.Cond.code ({ cls := "RouteHouseModel", name := "begin", desc := "(II)V" } : Jvm.MethodName) prog_11_method_25_code (4 : Nat) (Option.none : Option Jvm.ClassFile.FieldType))
theorem wd_979 : wv_979 ∈ tb_all := wd_o5 (i := 19) rfl rfl
abbrev wv_980 : Jvm.Cond := (Jvm.Cond.constant "RouteHouseModel" (163 : Nat) (65536 : Int32))
theorem wd_980 : wv_980 ∈ tb_all := wd_o5 (i := 20) rfl rfl
abbrev wv_981 : Jvm.Cond := (Jvm.Cond.methodLink "RouteHouseModel" (164 : Nat) ({ cls := "RouteHouseModel", name := "putFour", desc := "([III)V" } : Jvm.MethodName))
theorem wd_981 : wv_981 ∈ tb_all := wd_o5 (i := 21) rfl rfl
abbrev wv_982 : Jvm.Cond := (Jvm.Cond.static ({ cls := "RouteHouseModel", name := "putFour", desc := "([III)V" } : Jvm.MethodName))
theorem wd_982 : wv_982 ∈ tb_all := wd_o5 (i := 22) rfl rfl
abbrev wv_983 : Jvm.Cond := (Jvm.Cond.code ({ cls := "RouteHouseModel", name := "putFour", desc := "([III)V" } : Jvm.MethodName) prog_11_method_19_code (3 : Nat) (Option.none : Option Jvm.ClassFile.FieldType))
theorem wd_983 : wv_983 ∈ tb_all := wd_o5 (i := 23) rfl rfl
abbrev wv_984 : Jvm.Cond := (Jvm.Cond.methodLink "RouteHouseModel" (152 : Nat) ({ cls := "RouteHouseModel", name := "emit", desc := "(II)V" } : Jvm.MethodName))
theorem wd_984 : wv_984 ∈ tb_all := wd_o5 (i := 24) rfl rfl
abbrev wv_986 : Jvm.Cond := (Jvm.Cond.instanceMethod ({ cls := "RouteHouseModel", name := "emit", desc := "(II)V" } : Jvm.MethodName))
theorem wd_986 : wv_986 ∈ tb_all := wd_o5 (i := 26) rfl rfl
abbrev wv_987 : Jvm.Cond := (Jvm.Cond.code ({ cls := "RouteHouseModel", name := "emit", desc := "(II)V" } : Jvm.MethodName) prog_11_method_22_code (5 : Nat) (Option.none : Option Jvm.ClassFile.FieldType))
theorem wd_987 : wv_987 ∈ tb_all := wd_o5 (i := 27) rfl rfl
abbrev wv_988 : Jvm.Cond := (Jvm.Cond.methodLink "RouteHouseModel" (225 : Nat) ({ cls := "RouteHouseModel", name := "isOwn", desc := "(I)Z" } : Jvm.MethodName))
theorem wd_988 : wv_988 ∈ tb_all := wd_o5 (i := 28) rfl rfl
abbrev wv_990 : Jvm.Cond := (Jvm.Cond.instanceMethod ({ cls := "RouteHouseModel", name := "isOwn", desc := "(I)Z" } : Jvm.MethodName))
theorem wd_990 : wv_990 ∈ tb_all := wd_o5 (i := 30) rfl rfl
abbrev wv_991 : Jvm.Cond := (Jvm.Cond.code ({ cls := "RouteHouseModel", name := "isOwn", desc := "(I)Z" } : Jvm.MethodName) prog_11_method_34_code (3 : Nat) (Option.some Jvm.ClassFile.FieldType.boolean))
theorem wd_991 : wv_991 ∈ tb_all := wd_o5 (i := 31) rfl rfl
abbrev wv_992 : Jvm.Cond := (Jvm.Cond.methodLink "RouteHouseModel" (228 : Nat) ({ cls := "RouteHouseModel", name := "pass0", desc := "(I)I" } : Jvm.MethodName))
theorem wd_992 : wv_992 ∈ tb_all := wd_o5 (i := 32) rfl rfl
abbrev wv_994 : Jvm.Cond := (Jvm.Cond.instanceMethod ({ cls := "RouteHouseModel", name := "pass0", desc := "(I)I" } : Jvm.MethodName))
theorem wd_994 : wv_994 ∈ tb_all := wd_o5 (i := 34) rfl rfl
abbrev wv_995 : Jvm.Cond := (Jvm.Cond.code ({ cls := "RouteHouseModel", name := "pass0", desc := "(I)I" } : Jvm.MethodName) prog_11_method_38_code (4 : Nat) (Option.some Jvm.ClassFile.FieldType.int))
theorem wd_995 : wv_995 ∈ tb_all := wd_o5 (i := 35) rfl rfl
abbrev wv_996 : Jvm.Cond := (Jvm.Cond.methodLink "RouteHouseModel" (173 : Nat) ({ cls := "RouteHouseModel", name := "send", desc := "(II)V" } : Jvm.MethodName))
theorem wd_996 : wv_996 ∈ tb_all := wd_o5 (i := 36) rfl rfl
abbrev wv_998 : Jvm.Cond := (Jvm.Cond.instanceMethod ({ cls := "RouteHouseModel", name := "send", desc := "(II)V" } : Jvm.MethodName))
theorem wd_998 : wv_998 ∈ tb_all := wd_o5 (i := 38) rfl rfl
abbrev wv_999 : Jvm.Cond := (Jvm.Cond.code ({ cls := "RouteHouseModel", name := "send", desc := "(II)V" } : Jvm.MethodName) prog_11_method_23_code (12 : Nat) (Option.none : Option Jvm.ClassFile.FieldType))
theorem wd_999 : wv_999 ∈ tb_all := wd_o5 (i := 39) rfl rfl
abbrev wv_1000 : Jvm.Cond := (Jvm.Cond.methodLink "RouteHouseModel" (156 : Nat) ({ cls := "RouteHouseModel", name := "laterHeader", desc := "(I)I" } : Jvm.MethodName))
theorem wd_1000 : wv_1000 ∈ tb_all := wd_o5 (i := 40) rfl rfl
abbrev wv_1002 : Jvm.Cond := (Jvm.Cond.instanceMethod ({ cls := "RouteHouseModel", name := "laterHeader", desc := "(I)I" } : Jvm.MethodName))
theorem wd_1002 : wv_1002 ∈ tb_all := wd_o5 (i := 42) rfl rfl
abbrev wv_1003 : Jvm.Cond := (Jvm.Cond.code ({ cls := "RouteHouseModel", name := "laterHeader", desc := "(I)I" } : Jvm.MethodName) prog_11_method_24_code (7 : Nat) (Option.some Jvm.ClassFile.FieldType.int))
theorem wd_1003 : wv_1003 ∈ tb_all := wd_o5 (i := 43) rfl rfl
abbrev wv_1004 : Jvm.Cond := (Jvm.Cond.constant "RouteHouseModel" (159 : Nat) (49152 : Int32))
theorem wd_1004 : wv_1004 ∈ tb_all := wd_o5 (i := 44) rfl rfl
abbrev wv_1005 : Jvm.Cond := (Jvm.Cond.methodLink "RouteHouseModel" (231 : Nat) ({ cls := "RouteHouseModel", name := "joins", desc := "(I)Z" } : Jvm.MethodName))
theorem wd_1005 : wv_1005 ∈ tb_all := wd_o5 (i := 45) rfl rfl
abbrev wv_1007 : Jvm.Cond := (Jvm.Cond.instanceMethod ({ cls := "RouteHouseModel", name := "joins", desc := "(I)Z" } : Jvm.MethodName))
theorem wd_1007 : wv_1007 ∈ tb_all := wd_o5 (i := 47) rfl rfl
abbrev wv_1008 : Jvm.Cond := (Jvm.Cond.code ({ cls := "RouteHouseModel", name := "joins", desc := "(I)Z" } : Jvm.MethodName) prog_11_method_33_code (9 : Nat) (Option.some Jvm.ClassFile.FieldType.boolean))
theorem wd_1008 : wv_1008 ∈ tb_all := wd_o5 (i := 48) rfl rfl
abbrev wv_1009 : Jvm.Cond := (Jvm.Cond.methodLink "RouteHouseModel" (186 : Nat) ({ cls := "RouteHouseModel", name := "entry", desc := "()I" } : Jvm.MethodName))
theorem wd_1009 : wv_1009 ∈ tb_all := wd_o5 (i := 49) rfl rfl
abbrev wv_1011 : Jvm.Cond := (Jvm.Cond.instanceMethod ({ cls := "RouteHouseModel", name := "entry", desc := "()I" } : Jvm.MethodName))
theorem wd_1011 : wv_1011 ∈ tb_all := wd_o5 (i := 51) rfl rfl
abbrev wv_1012 : Jvm.Cond := (Jvm.Cond.code ({ cls := "RouteHouseModel", name := "entry", desc := "()I" } : Jvm.MethodName) prog_11_method_31_code (2 : Nat) (Option.some Jvm.ClassFile.FieldType.int))
theorem wd_1012 : wv_1012 ∈ tb_all := wd_o5 (i := 52) rfl rfl
abbrev wv_1013 : Jvm.Cond := (Jvm.Cond.methodLink "RouteHouseModel" (182 : Nat) ({ cls := "RouteHouseModel", name := "nameOf", desc := "()I" } : Jvm.MethodName))
theorem wd_1013 : wv_1013 ∈ tb_all := wd_o5 (i := 53) rfl rfl
abbrev wv_1015 : Jvm.Cond := (Jvm.Cond.instanceMethod ({ cls := "RouteHouseModel", name := "nameOf", desc := "()I" } : Jvm.MethodName))
theorem wd_1015 : wv_1015 ∈ tb_all := wd_o5 (i := 55) rfl rfl
abbrev wv_1016 : Jvm.Cond := (Jvm.Cond.code ({ cls := "RouteHouseModel", name := "nameOf", desc := "()I" } : Jvm.MethodName) prog_11_method_30_code (1 : Nat) (Option.some Jvm.ClassFile.FieldType.int))
theorem wd_1016 : wv_1016 ∈ tb_all := wd_o5 (i := 56) rfl rfl
abbrev wv_1017 : Jvm.Cond := (Jvm.Cond.methodLink "RouteHouseModel" (189 : Nat) ({ cls := "RouteHouseModel", name := "isWrong", desc := "(IIIZ)Z" } : Jvm.MethodName))
theorem wd_1017 : wv_1017 ∈ tb_all := wd_o5 (i := 57) rfl rfl
abbrev wv_1019 : Jvm.Cond := (Jvm.Cond.instanceMethod ({ cls := "RouteHouseModel", name := "isWrong", desc := "(IIIZ)Z" } : Jvm.MethodName))
theorem wd_1019 : wv_1019 ∈ tb_all := wd_o5 (i := 59) rfl rfl
abbrev wv_1020 : Jvm.Cond := (Jvm.Cond.code ({ cls := "RouteHouseModel", name := "isWrong", desc := "(IIIZ)Z" } : Jvm.MethodName) prog_11_method_32_code (6 : Nat) (Option.some Jvm.ClassFile.FieldType.boolean))
theorem wd_1020 : wv_1020 ∈ tb_all := wd_o5 (i := 60) rfl rfl
abbrev wv_1021 : Jvm.Cond := (Jvm.Cond.methodLink "RouteHouseModel" (193 : Nat) ({ cls := "RouteHouseModel", name := "drop", desc := "(I)V" } : Jvm.MethodName))
theorem wd_1021 : wv_1021 ∈ tb_all := wd_o5 (i := 61) rfl rfl
abbrev wv_1023 : Jvm.Cond := (Jvm.Cond.instanceMethod ({ cls := "RouteHouseModel", name := "drop", desc := "(I)V" } : Jvm.MethodName))
theorem wd_1023 : wv_1023 ∈ tb_all := wd_o5 (i := 63) rfl rfl
abbrev wv_1024 : Jvm.Cond := (Jvm.Cond.code ({ cls := "RouteHouseModel", name := "drop", desc := "(I)V" } : Jvm.MethodName) prog_11_method_29_code (3 : Nat) (Option.none : Option Jvm.ClassFile.FieldType))
theorem wd_1024 : wv_1024 ∈ tb_all := wd_o5 (i := 64) rfl rfl
abbrev wv_1025 : Jvm.Cond := (Jvm.Cond.methodLink "RouteHouseModel" (179 : Nat) ({ cls := "RouteHouseModel", name := "moveEntry", desc := "(II)V" } : Jvm.MethodName))
theorem wd_1025 : wv_1025 ∈ tb_all := wd_o5 (i := 65) rfl rfl
abbrev wv_1027 : Jvm.Cond := (Jvm.Cond.instanceMethod ({ cls := "RouteHouseModel", name := "moveEntry", desc := "(II)V" } : Jvm.MethodName))
theorem wd_1027 : wv_1027 ∈ tb_all := wd_o5 (i := 67) rfl rfl
abbrev wv_1028 : Jvm.Cond := (Jvm.Cond.code ({ cls := "RouteHouseModel", name := "moveEntry", desc := "(II)V" } : Jvm.MethodName) prog_11_method_28_code (4 : Nat) (Option.none : Option Jvm.ClassFile.FieldType))
theorem wd_1028 : wv_1028 ∈ tb_all := wd_o5 (i := 68) rfl rfl
abbrev wv_1029 : Jvm.Cond := (Jvm.Cond.methodLink "RouteHouseModel" (234 : Nat) ({ cls := "RouteHouseModel", name := "own", desc := "(I)I" } : Jvm.MethodName))
theorem wd_1029 : wv_1029 ∈ tb_all := wd_o5 (i := 69) rfl rfl
abbrev wv_1031 : Jvm.Cond := (Jvm.Cond.instanceMethod ({ cls := "RouteHouseModel", name := "own", desc := "(I)I" } : Jvm.MethodName))
theorem wd_1031 : wv_1031 ∈ tb_all := wd_o5 (i := 71) rfl rfl
abbrev wv_1032 : Jvm.Cond := (Jvm.Cond.code ({ cls := "RouteHouseModel", name := "own", desc := "(I)I" } : Jvm.MethodName) prog_11_method_37_code (5 : Nat) (Option.some Jvm.ClassFile.FieldType.int))
theorem wd_1032 : wv_1032 ∈ tb_all := wd_o5 (i := 72) rfl rfl
abbrev wv_1033 : Jvm.Cond := (Jvm.Cond.methodLink "RouteHouseModel" (200 : Nat) ({ cls := "RouteHouseModel", name := "answer", desc := "(I)V" } : Jvm.MethodName))
theorem wd_1033 : wv_1033 ∈ tb_all := wd_o5 (i := 73) rfl rfl
abbrev wv_1035 : Jvm.Cond := (Jvm.Cond.instanceMethod ({ cls := "RouteHouseModel", name := "answer", desc := "(I)V" } : Jvm.MethodName))
theorem wd_1035 : wv_1035 ∈ tb_all := wd_o5 (i := 75) rfl rfl
abbrev wv_1036 : Jvm.Cond := (Jvm.Cond.code ({ cls := "RouteHouseModel", name := "answer", desc := "(I)V" } : Jvm.MethodName) prog_11_method_27_code (5 : Nat) (Option.none : Option Jvm.ClassFile.FieldType))
theorem wd_1036 : wv_1036 ∈ tb_all := wd_o5 (i := 76) rfl rfl
abbrev wv_1041 : Jvm.Cond := (Jvm.Cond.methodLink "RouteHouseModel" (240 : Nat) ({ cls := "RouteHouseModel", name := "expire", desc := "()V" } : Jvm.MethodName))
theorem wd_1041 : wv_1041 ∈ tb_all := wd_o5 (i := 81) rfl rfl
abbrev wv_1043 : Jvm.Cond := (Jvm.Cond.instanceMethod ({ cls := "RouteHouseModel", name := "expire", desc := "()V" } : Jvm.MethodName))
theorem wd_1043 : wv_1043 ∈ tb_all := wd_o5 (i := 83) rfl rfl
abbrev wv_1044 : Jvm.Cond := (Jvm.Cond.code ({ cls := "RouteHouseModel", name := "expire", desc := "()V" } : Jvm.MethodName) prog_11_method_41_code (3 : Nat) (Option.none : Option Jvm.ClassFile.FieldType))
theorem wd_1044 : wv_1044 ∈ tb_all := wd_o5 (i := 84) rfl rfl
theorem wq_0 : Jvm.Cond.selects "RouteHouse" ⟨"RouteHouse", "refuseStrangePort", "(I)V"⟩ ⟨"RouteHouse", "refuseStrangePort", "(I)V"⟩ ∈ tb_all := wd_of (i := 0) rfl rfl
theorem wq_2 : Jvm.Cond.selects "RouteHouse" ⟨"RouteHouse", "refuseStrangeBits", "(I)V"⟩ ⟨"RouteHouse", "refuseStrangeBits", "(I)V"⟩ ∈ tb_all := wd_of (i := 2) rfl rfl
theorem wq_3 : Jvm.Cond.selects "RouteHouse" ⟨"RouteHouse", "refuseStrangePacket", "(I)V"⟩ ⟨"RouteHouse", "refuseStrangePacket", "(I)V"⟩ ∈ tb_all := wd_of (i := 3) rfl rfl
theorem wq_4 : Jvm.Cond.selects "RouteHouse" ⟨"RouteHouse", "takeSound", "(I)I"⟩ ⟨"RouteHouse", "takeSound", "(I)I"⟩ ∈ tb_all := wd_of (i := 4) rfl rfl
theorem wq_5 : Jvm.Cond.selects "RouteHouse" ⟨"RouteHouse", "sendError", "(LRouteHouse$Packet;IIII)V"⟩ ⟨"RouteHouse", "sendError", "(LRouteHouse$Packet;IIII)V"⟩ ∈ tb_all := wd_of (i := 5) rfl rfl
theorem wq_6 : Jvm.Cond.selects "RouteHouse" ⟨"RouteHouse", "sendReply", "(IIII)V"⟩ ⟨"RouteHouse", "sendReply", "(IIII)V"⟩ ∈ tb_all := wd_of (i := 6) rfl rfl
theorem wq_7 : Jvm.Cond.selects "RouteHouse$Outbox" ⟨"RouteHouse$Outbox", "addPiece", "(LRouteHouse$Packet;[BIIII)I"⟩ ⟨"RouteHouse$Outbox", "addPiece", "(LRouteHouse$Packet;[BIIII)I"⟩ ∈ tb_all := wd_of (i := 7) rfl rfl
theorem wq_8 : Jvm.Cond.selects "RouteHouse$Outbox" ⟨"RouteHouse$Outbox", "makeLaterHeader", "(LRouteHouse$Packet;)I"⟩ ⟨"RouteHouse$Outbox", "makeLaterHeader", "(LRouteHouse$Packet;)I"⟩ ∈ tb_all := wd_of (i := 8) rfl rfl
theorem wq_9 : Jvm.Cond.selects "RouteHouse" ⟨"RouteHouse", "isOwnAddress", "(I)Z"⟩ ⟨"RouteHouse", "isOwnAddress", "(I)Z"⟩ ∈ tb_all := wd_of (i := 9) rfl rfl
theorem wq_10 : Jvm.Cond.selects "RouteHouse" ⟨"RouteHouse", "takeOwn", "(I)I"⟩ ⟨"RouteHouse", "takeOwn", "(I)I"⟩ ∈ tb_all := wd_of (i := 10) rfl rfl
theorem wq_11 : Jvm.Cond.selects "RouteHouse$Waits" ⟨"RouteHouse$Waits", "find", "(LRouteHouse$Packet;)I"⟩ ⟨"RouteHouse$Waits", "find", "(LRouteHouse$Packet;)I"⟩ ∈ tb_all := wd_of (i := 11) rfl rfl
theorem wq_12 : Jvm.Cond.selects "RouteHouse$Waits" ⟨"RouteHouse$Waits", "isWrong", "(LRouteHouse$Packet;)Z"⟩ ⟨"RouteHouse$Waits", "isWrong", "(LRouteHouse$Packet;)Z"⟩ ∈ tb_all := wd_of (i := 12) rfl rfl
theorem wq_13 : Jvm.Cond.selects "RouteHouse$Waits" ⟨"RouteHouse$Waits", "begin", "(LRouteHouse$Packet;I)I"⟩ ⟨"RouteHouse$Waits", "begin", "(LRouteHouse$Packet;I)I"⟩ ∈ tb_all := wd_of (i := 13) rfl rfl
theorem wq_14 : Jvm.Cond.selects "RouteHouse" ⟨"RouteHouse", "sendAnswer", "(LRouteHouse$Packet;I)V"⟩ ⟨"RouteHouse", "sendAnswer", "(LRouteHouse$Packet;I)V"⟩ ∈ tb_all := wd_of (i := 14) rfl rfl
theorem wq_15 : Jvm.Cond.selects "RouteHouse" ⟨"RouteHouse", "sendOn", "(I)I"⟩ ⟨"RouteHouse", "sendOn", "(I)I"⟩ ∈ tb_all := wd_of (i := 15) rfl rfl
theorem wq_16 : Jvm.Cond.selects "RouteHouse" ⟨"RouteHouse", "passOne", "()V"⟩ ⟨"RouteHouse", "passOne", "()V"⟩ ∈ tb_all := wd_of (i := 16) rfl rfl
theorem wq_17 : Jvm.Cond.selects "RouteHouseModel" ⟨"RouteHouseModel", "fails", "(ZI)Z"⟩ ⟨"RouteHouseModel", "fails", "(ZI)Z"⟩ ∈ tb_all := wd_of (i := 17) rfl rfl
theorem wq_18 : Jvm.Cond.selects "RouteHouseModel" ⟨"RouteHouseModel", "routeFor", "(II)I"⟩ ⟨"RouteHouseModel", "routeFor", "(II)I"⟩ ∈ tb_all := wd_of (i := 18) rfl rfl
theorem wq_19 : Jvm.Cond.selects "RouteHouseModel" ⟨"RouteHouseModel", "find", "(I)I"⟩ ⟨"RouteHouseModel", "find", "(I)I"⟩ ∈ tb_all := wd_of (i := 19) rfl rfl
theorem wq_20 : Jvm.Cond.selects "RouteHouseModel" ⟨"RouteHouseModel", "judge", "(II)I"⟩ ⟨"RouteHouseModel", "judge", "(II)I"⟩ ∈ tb_all := wd_of (i := 20) rfl rfl
theorem wq_21 : Jvm.Cond.selects "RouteHouseModel" ⟨"RouteHouseModel", "wrongOption", "(I)I"⟩ ⟨"RouteHouseModel", "wrongOption", "(I)I"⟩ ∈ tb_all := wd_of (i := 21) rfl rfl
theorem wq_22 : Jvm.Cond.selects "RouteHouseModel" ⟨"RouteHouseModel", "error", "(IIII)V"⟩ ⟨"RouteHouseModel", "error", "(IIII)V"⟩ ∈ tb_all := wd_of (i := 22) rfl rfl
theorem wq_23 : Jvm.Cond.selects "RouteHouseModel" ⟨"RouteHouseModel", "begin", "(II)V"⟩ ⟨"RouteHouseModel", "begin", "(II)V"⟩ ∈ tb_all := wd_of (i := 23) rfl rfl
theorem wq_24 : Jvm.Cond.selects "RouteHouseModel" ⟨"RouteHouseModel", "emit", "(II)V"⟩ ⟨"RouteHouseModel", "emit", "(II)V"⟩ ∈ tb_all := wd_of (i := 24) rfl rfl
theorem wq_25 : Jvm.Cond.selects "RouteHouseModel" ⟨"RouteHouseModel", "isOwn", "(I)Z"⟩ ⟨"RouteHouseModel", "isOwn", "(I)Z"⟩ ∈ tb_all := wd_of (i := 25) rfl rfl
theorem wq_26 : Jvm.Cond.selects "RouteHouseModel" ⟨"RouteHouseModel", "pass0", "(I)I"⟩ ⟨"RouteHouseModel", "pass0", "(I)I"⟩ ∈ tb_all := wd_of (i := 26) rfl rfl
theorem wq_27 : Jvm.Cond.selects "RouteHouseModel" ⟨"RouteHouseModel", "send", "(II)V"⟩ ⟨"RouteHouseModel", "send", "(II)V"⟩ ∈ tb_all := wd_of (i := 27) rfl rfl
theorem wq_28 : Jvm.Cond.selects "RouteHouseModel" ⟨"RouteHouseModel", "laterHeader", "(I)I"⟩ ⟨"RouteHouseModel", "laterHeader", "(I)I"⟩ ∈ tb_all := wd_of (i := 28) rfl rfl
theorem wq_29 : Jvm.Cond.selects "RouteHouseModel" ⟨"RouteHouseModel", "joins", "(I)Z"⟩ ⟨"RouteHouseModel", "joins", "(I)Z"⟩ ∈ tb_all := wd_of (i := 29) rfl rfl
theorem wq_30 : Jvm.Cond.selects "RouteHouseModel" ⟨"RouteHouseModel", "entry", "()I"⟩ ⟨"RouteHouseModel", "entry", "()I"⟩ ∈ tb_all := wd_of (i := 30) rfl rfl
theorem wq_31 : Jvm.Cond.selects "RouteHouseModel" ⟨"RouteHouseModel", "nameOf", "()I"⟩ ⟨"RouteHouseModel", "nameOf", "()I"⟩ ∈ tb_all := wd_of (i := 31) rfl rfl
theorem wq_32 : Jvm.Cond.selects "RouteHouseModel" ⟨"RouteHouseModel", "isWrong", "(IIIZ)Z"⟩ ⟨"RouteHouseModel", "isWrong", "(IIIZ)Z"⟩ ∈ tb_all := wd_of (i := 32) rfl rfl
theorem wq_33 : Jvm.Cond.selects "RouteHouseModel" ⟨"RouteHouseModel", "drop", "(I)V"⟩ ⟨"RouteHouseModel", "drop", "(I)V"⟩ ∈ tb_all := wd_of (i := 33) rfl rfl
theorem wq_34 : Jvm.Cond.selects "RouteHouseModel" ⟨"RouteHouseModel", "moveEntry", "(II)V"⟩ ⟨"RouteHouseModel", "moveEntry", "(II)V"⟩ ∈ tb_all := wd_of (i := 34) rfl rfl
theorem wq_35 : Jvm.Cond.selects "RouteHouseModel" ⟨"RouteHouseModel", "own", "(I)I"⟩ ⟨"RouteHouseModel", "own", "(I)I"⟩ ∈ tb_all := wd_of (i := 35) rfl rfl
theorem wq_36 : Jvm.Cond.selects "RouteHouseModel" ⟨"RouteHouseModel", "answer", "(I)V"⟩ ⟨"RouteHouseModel", "answer", "(I)V"⟩ ∈ tb_all := wd_of (i := 36) rfl rfl
theorem wq_37 : Jvm.Cond.selects "RouteHouseModel" ⟨"RouteHouseModel", "expire", "()V"⟩ ⟨"RouteHouseModel", "expire", "()V"⟩ ∈ tb_all := wd_of (i := 37) rfl rfl
end
section
theorem uw_0 : ∀ w ∈ u_ws tc_0 tf_0 5, w ∈ tb_all := (show ∀ w ∈ ([wv_215, wv_217, wv_219, wv_221, wv_223] : List Jvm.Cond), w ∈ tb_all from List.forall_mem_cons.mpr ⟨wd_215, List.forall_mem_cons.mpr ⟨wd_217, List.forall_mem_cons.mpr ⟨wd_219, List.forall_mem_cons.mpr ⟨wd_221, List.forall_mem_cons.mpr ⟨wd_223, fun _ h => absurd h List.not_mem_nil⟩⟩⟩⟩⟩)
theorem uw_1 : ∀ w ∈ u_ws tc_1 tf_1 8, w ∈ tb_all := (show ∀ w ∈ ([wv_113, wv_115, wv_117, wv_119, wv_121, wv_123, wv_125, wv_127] : List Jvm.Cond), w ∈ tb_all from List.forall_mem_cons.mpr ⟨wd_113, List.forall_mem_cons.mpr ⟨wd_115, List.forall_mem_cons.mpr ⟨wd_117, List.forall_mem_cons.mpr ⟨wd_119, List.forall_mem_cons.mpr ⟨wd_121, List.forall_mem_cons.mpr ⟨wd_123, List.forall_mem_cons.mpr ⟨wd_125, List.forall_mem_cons.mpr ⟨wd_127, fun _ h => absurd h List.not_mem_nil⟩⟩⟩⟩⟩⟩⟩⟩)
theorem uw_2 : ∀ w ∈ u_ws tc_2 tf_2 2, w ∈ tb_all := (show ∀ w ∈ ([wv_87, wv_89] : List Jvm.Cond), w ∈ tb_all from List.forall_mem_cons.mpr ⟨wd_87, List.forall_mem_cons.mpr ⟨wd_89, fun _ h => absurd h List.not_mem_nil⟩⟩)
theorem uw_3 : ∀ w ∈ u_ws tc_3 tf_3 3, w ∈ tb_all := (show ∀ w ∈ ([wv_40, wv_42, wv_44] : List Jvm.Cond), w ∈ tb_all from List.forall_mem_cons.mpr ⟨wd_40, List.forall_mem_cons.mpr ⟨wd_42, List.forall_mem_cons.mpr ⟨wd_44, fun _ h => absurd h List.not_mem_nil⟩⟩⟩)
theorem uw_4 : ∀ w ∈ u_ws tc_4 tf_4 5, w ∈ tb_all := (show ∀ w ∈ ([wv_62, wv_64, wv_66, wv_68, wv_70] : List Jvm.Cond), w ∈ tb_all from List.forall_mem_cons.mpr ⟨wd_62, List.forall_mem_cons.mpr ⟨wd_64, List.forall_mem_cons.mpr ⟨wd_66, List.forall_mem_cons.mpr ⟨wd_68, List.forall_mem_cons.mpr ⟨wd_70, fun _ h => absurd h List.not_mem_nil⟩⟩⟩⟩⟩)
theorem uw_5 : ∀ w ∈ u_ws tc_5 tf_5 13, w ∈ tb_all := (show ∀ w ∈ ([wv_162, wv_164, wv_166, wv_168, wv_170, wv_172, wv_174, wv_176, wv_178, wv_180, wv_182, wv_184, wv_186] : List Jvm.Cond), w ∈ tb_all from List.forall_mem_cons.mpr ⟨wd_162, List.forall_mem_cons.mpr ⟨wd_164, List.forall_mem_cons.mpr ⟨wd_166, List.forall_mem_cons.mpr ⟨wd_168, List.forall_mem_cons.mpr ⟨wd_170, List.forall_mem_cons.mpr ⟨wd_172, List.forall_mem_cons.mpr ⟨wd_174, List.forall_mem_cons.mpr ⟨wd_176, List.forall_mem_cons.mpr ⟨wd_178, List.forall_mem_cons.mpr ⟨wd_180, List.forall_mem_cons.mpr ⟨wd_182, List.forall_mem_cons.mpr ⟨wd_184, List.forall_mem_cons.mpr ⟨wd_186, fun _ h => absurd h List.not_mem_nil⟩⟩⟩⟩⟩⟩⟩⟩⟩⟩⟩⟩⟩)
theorem uw_6 : ∀ w ∈ u_ws tc_6 tf_6 2, w ∈ tb_all := (show ∀ w ∈ ([wv_194, wv_196] : List Jvm.Cond), w ∈ tb_all from List.forall_mem_cons.mpr ⟨wd_194, List.forall_mem_cons.mpr ⟨wd_196, fun _ h => absurd h List.not_mem_nil⟩⟩)
theorem uw_7 : ∀ w ∈ u_ws tc_7 tf_7 11, w ∈ tb_all := (show ∀ w ∈ ([wv_237, wv_239, wv_241, wv_243, wv_245, wv_247, wv_249, wv_251, wv_253, wv_255, wv_257] : List Jvm.Cond), w ∈ tb_all from List.forall_mem_cons.mpr ⟨wd_237, List.forall_mem_cons.mpr ⟨wd_239, List.forall_mem_cons.mpr ⟨wd_241, List.forall_mem_cons.mpr ⟨wd_243, List.forall_mem_cons.mpr ⟨wd_245, List.forall_mem_cons.mpr ⟨wd_247, List.forall_mem_cons.mpr ⟨wd_249, List.forall_mem_cons.mpr ⟨wd_251, List.forall_mem_cons.mpr ⟨wd_253, List.forall_mem_cons.mpr ⟨wd_255, List.forall_mem_cons.mpr ⟨wd_257, fun _ h => absurd h List.not_mem_nil⟩⟩⟩⟩⟩⟩⟩⟩⟩⟩⟩)
theorem uw_8 : ∀ w ∈ u_ws tc_8 tf_8 43, w ∈ tb_all := (show ∀ w ∈ ([wv_799, wv_801, wv_803, wv_805, wv_807, wv_809, wv_811, wv_813, wv_815, wv_817, wv_819, wv_821, wv_823, wv_825, wv_827, wv_829, wv_831, wv_833, wv_835, wv_837, wv_839, wv_841, wv_843, wv_845, wv_847, wv_849, wv_851, wv_853, wv_855, wv_857, wv_859, wv_861, wv_863, wv_865, wv_867, wv_869, wv_871, wv_873, wv_875, wv_877, wv_879, wv_881, wv_883] : List Jvm.Cond), w ∈ tb_all from List.forall_mem_cons.mpr ⟨wd_799, List.forall_mem_cons.mpr ⟨wd_801, List.forall_mem_cons.mpr ⟨wd_803, List.forall_mem_cons.mpr ⟨wd_805, List.forall_mem_cons.mpr ⟨wd_807, List.forall_mem_cons.mpr ⟨wd_809, List.forall_mem_cons.mpr ⟨wd_811, List.forall_mem_cons.mpr ⟨wd_813, List.forall_mem_cons.mpr ⟨wd_815, List.forall_mem_cons.mpr ⟨wd_817, List.forall_mem_cons.mpr ⟨wd_819, List.forall_mem_cons.mpr ⟨wd_821, List.forall_mem_cons.mpr ⟨wd_823, List.forall_mem_cons.mpr ⟨wd_825, List.forall_mem_cons.mpr ⟨wd_827, List.forall_mem_cons.mpr ⟨wd_829, List.forall_mem_cons.mpr ⟨wd_831, List.forall_mem_cons.mpr ⟨wd_833, List.forall_mem_cons.mpr ⟨wd_835, List.forall_mem_cons.mpr ⟨wd_837, List.forall_mem_cons.mpr ⟨wd_839, List.forall_mem_cons.mpr ⟨wd_841, List.forall_mem_cons.mpr ⟨wd_843, List.forall_mem_cons.mpr ⟨wd_845, List.forall_mem_cons.mpr ⟨wd_847, List.forall_mem_cons.mpr ⟨wd_849, List.forall_mem_cons.mpr ⟨wd_851, List.forall_mem_cons.mpr ⟨wd_853, List.forall_mem_cons.mpr ⟨wd_855, List.forall_mem_cons.mpr ⟨wd_857, List.forall_mem_cons.mpr ⟨wd_859, List.forall_mem_cons.mpr ⟨wd_861, List.forall_mem_cons.mpr ⟨wd_863, List.forall_mem_cons.mpr ⟨wd_865, List.forall_mem_cons.mpr ⟨wd_867, List.forall_mem_cons.mpr ⟨wd_869, List.forall_mem_cons.mpr ⟨wd_871, List.forall_mem_cons.mpr ⟨wd_873, List.forall_mem_cons.mpr ⟨wd_875, List.forall_mem_cons.mpr ⟨wd_877, List.forall_mem_cons.mpr ⟨wd_879, List.forall_mem_cons.mpr ⟨wd_881, List.forall_mem_cons.mpr ⟨wd_883, fun _ h => absurd h List.not_mem_nil⟩⟩⟩⟩⟩⟩⟩⟩⟩⟩⟩⟩⟩⟩⟩⟩⟩⟩⟩⟩⟩⟩⟩⟩⟩⟩⟩⟩⟩⟩⟩⟩⟩⟩⟩⟩⟩⟩⟩⟩⟩⟩⟩)
def tb_cn (c : Nat) : String := tb_nms.getD c ""
def lf_1 (c x ci fk : Nat) : Prop := ∃ (C : String) (T : u_T) (N : Nat), vwCl[ci]? = some (C, T, N) ∧ fk < N ∧ (∀ w ∈ u_ws C T N, w ∈ tb_all) ∧ Jvm.Cond.fieldLink (tb_cn c) x (T fk).1 (T fk).2.1 (T fk).2.2.1 ∈ tb_all
def lf_m (k kind : Nat) : Prop := tb_ok k = true ∧ Jvm.Cond.initialized (tb_y k).cls ∈ tb_all ∧ Jvm.Cond.code (tb_y k) (tb_b k) (tb_ml k) (tb_rt k) ∈ tb_all ∧ ((tb_y k).cls ≠ "java/lang/invoke/MethodHandle" ∧ (tb_y k).cls ≠ "java/lang/invoke/VarHandle" ∧ (parseMethodDescriptor (tb_y k).desc).map (fun d => d.parameters.length) = some (tb_na k)) ∧
  (kind = 0 → Jvm.Cond.static (tb_y k) ∈ tb_all) ∧ (kind = 1 → (∃ (T : u_T) (N : Nat), vwCl[tb_ci k]? = some ((tb_y k).cls, T, N)) ∧ Jvm.Cond.instanceMethod (tb_y k) ∈ tb_all ∧ Jvm.Cond.selects (tb_y k).cls (tb_y k) (tb_y k) ∈ tb_all) ∧ (kind = 2 → (tb_y k).name = "<init>" ∧ tb_rt k = none ∧ Jvm.Cond.instanceMethod (tb_y k) ∈ tb_all)
def lf_3 (c x ci n : Nat) : Prop := ∃ (C : String) (T : u_T), vwCl[ci]? = some (C, T, n) ∧ (∀ w ∈ u_ws C T n, w ∈ tb_all) ∧ Jvm.Cond.classLink (tb_cn c) x C ∈ tb_all ∧ Jvm.Cond.instantiable C n ∈ tb_all ∧ Jvm.Cond.initialized C ∈ tb_all
def lf (c x : Nat) (r : tb_R) : Prop := (r.1 = 1 → lf_1 c x r.2.1 r.2.2.1) ∧ (r.1 = 2 → Jvm.Cond.methodLink (tb_cn c) x (tb_y r.2.1) ∈ tb_all ∧ lf_m r.2.1 r.2.2.1) ∧ (r.1 = 3 → lf_3 c x r.2.1 r.2.2.1) ∧ (r.1 = 4 → Jvm.Cond.constant (tb_cn c) x r.2.2.2 ∈ tb_all) ∧
  (r.1 = 5 → Jvm.Cond.methodLink (tb_cn c) x arraycopyName ∈ tb_all) ∧ (r.1 = 6 → Jvm.Cond.methodLink (tb_cn c) x Lib.Math.max.name ∈ tb_all) ∧ (r.1 = 7 → Jvm.Cond.methodLink (tb_cn c) x Lib.Math.min.name ∈ tb_all) ∧ (r.1 = 8 → Jvm.Cond.methodLink (tb_cn c) x Lib.objectInit ∈ tb_all)
theorem lf_o1 {c x : Nat} {ci fk : Nat} {v : Int32} (h : lf_1 c x ci fk) : lf c x (1, ci, fk, v) := ⟨fun _ => h, nofun, nofun, nofun, nofun, nofun, nofun, nofun⟩
theorem lf_o2 {c x : Nat} {k kd : Nat} {v : Int32} (h : Jvm.Cond.methodLink (tb_cn c) x (tb_y k) ∈ tb_all) (h2 : lf_m k kd) : lf c x (2, k, kd, v) := ⟨nofun, fun _ => ⟨h, h2⟩, nofun, nofun, nofun, nofun, nofun, nofun⟩
theorem lf_o3 {c x : Nat} {ci n : Nat} {v : Int32} (h : lf_3 c x ci n) : lf c x (3, ci, n, v) := ⟨nofun, nofun, fun _ => h, nofun, nofun, nofun, nofun, nofun⟩
theorem lf_o4 {c x : Nat} {a b : Nat} {v : Int32} (h : Jvm.Cond.constant (tb_cn c) x v ∈ tb_all) : lf c x (4, a, b, v) := ⟨nofun, nofun, nofun, fun _ => h, nofun, nofun, nofun, nofun⟩
theorem lf_o5 {c x : Nat} {a b : Nat} {v : Int32} (h : Jvm.Cond.methodLink (tb_cn c) x arraycopyName ∈ tb_all) : lf c x (5, a, b, v) := ⟨nofun, nofun, nofun, nofun, fun _ => h, nofun, nofun, nofun⟩
theorem lf_o6 {c x : Nat} {a b : Nat} {v : Int32} (h : Jvm.Cond.methodLink (tb_cn c) x Lib.Math.max.name ∈ tb_all) : lf c x (6, a, b, v) := ⟨nofun, nofun, nofun, nofun, nofun, fun _ => h, nofun, nofun⟩
theorem lf_o7 {c x : Nat} {a b : Nat} {v : Int32} (h : Jvm.Cond.methodLink (tb_cn c) x Lib.Math.min.name ∈ tb_all) : lf c x (7, a, b, v) := ⟨nofun, nofun, nofun, nofun, nofun, nofun, fun _ => h, nofun⟩
theorem lf_o8 {c x : Nat} {a b : Nat} {v : Int32} (h : Jvm.Cond.methodLink (tb_cn c) x Lib.objectInit ∈ tb_all) : lf c x (8, a, b, v) := ⟨nofun, nofun, nofun, nofun, nofun, nofun, nofun, fun _ => h⟩
theorem lf_o9 {c x : Nat} {a b : Nat} {v : Int32} : lf c x (9, a, b, v) := ⟨nofun, nofun, nofun, nofun, nofun, nofun, nofun, nofun⟩
theorem mt_0 : lf_m 0 2 := ⟨rfl, wd_8, wd_203, ⟨by decide +kernel, by decide +kernel, by decide +kernel⟩, nofun, nofun, fun _ => ⟨rfl, rfl, wd_202⟩⟩
theorem mt_1 : lf_m 1 1 := ⟨rfl, wd_8, wd_682, ⟨by decide +kernel, by decide +kernel, by decide +kernel⟩, nofun, fun _ => ⟨⟨_, _, rfl⟩, wd_680, wd_681⟩, nofun⟩
theorem mt_2 : lf_m 2 2 := ⟨rfl, wd_5, wd_97, ⟨by decide +kernel, by decide +kernel, by decide +kernel⟩, nofun, nofun, fun _ => ⟨rfl, rfl, wd_96⟩⟩
theorem mt_3 : lf_m 3 1 := ⟨rfl, wd_5, wd_506, ⟨by decide +kernel, by decide +kernel, by decide +kernel⟩, nofun, fun _ => ⟨⟨_, _, rfl⟩, wd_504, wd_505⟩, nofun⟩
theorem mt_4 : lf_m 4 1 := ⟨rfl, wd_5, wd_578, ⟨by decide +kernel, by decide +kernel, by decide +kernel⟩, nofun, fun _ => ⟨⟨_, _, rfl⟩, wd_576, wd_577⟩, nofun⟩
theorem mt_5 : lf_m 5 1 := ⟨rfl, wd_5, wd_584, ⟨by decide +kernel, by decide +kernel, by decide +kernel⟩, nofun, fun _ => ⟨⟨_, _, rfl⟩, wd_583, wq_7⟩, nofun⟩
theorem mt_6 : lf_m 6 1 := ⟨rfl, wd_5, wd_592, ⟨by decide +kernel, by decide +kernel, by decide +kernel⟩, nofun, fun _ => ⟨⟨_, _, rfl⟩, wd_591, wq_8⟩, nofun⟩
theorem mt_7 : lf_m 7 2 := ⟨rfl, wd_4, wd_78, ⟨by decide +kernel, by decide +kernel, by decide +kernel⟩, nofun, nofun, fun _ => ⟨rfl, rfl, wd_77⟩⟩
theorem mt_8 : lf_m 8 1 := ⟨rfl, wd_4, wd_514, ⟨by decide +kernel, by decide +kernel, by decide +kernel⟩, nofun, fun _ => ⟨⟨_, _, rfl⟩, wd_512, wd_513⟩, nofun⟩
theorem mt_9 : lf_m 9 1 := ⟨rfl, wd_4, wd_518, ⟨by decide +kernel, by decide +kernel, by decide +kernel⟩, nofun, fun _ => ⟨⟨_, _, rfl⟩, wd_516, wd_517⟩, nofun⟩
theorem mt_10 : lf_m 10 1 := ⟨rfl, wd_4, wd_530, ⟨by decide +kernel, by decide +kernel, by decide +kernel⟩, nofun, fun _ => ⟨⟨_, _, rfl⟩, wd_528, wd_529⟩, nofun⟩
theorem mt_11 : lf_m 11 1 := ⟨rfl, wd_4, wd_627, ⟨by decide +kernel, by decide +kernel, by decide +kernel⟩, nofun, fun _ => ⟨⟨_, _, rfl⟩, wd_625, wd_626⟩, nofun⟩
theorem mt_12 : lf_m 12 1 := ⟨rfl, wd_4, wd_708, ⟨by decide +kernel, by decide +kernel, by decide +kernel⟩, nofun, fun _ => ⟨⟨_, _, rfl⟩, wd_706, wd_707⟩, nofun⟩
theorem mt_13 : lf_m 13 1 := ⟨rfl, wd_4, wd_637, ⟨by decide +kernel, by decide +kernel, by decide +kernel⟩, nofun, fun _ => ⟨⟨_, _, rfl⟩, wd_635, wd_636⟩, nofun⟩
theorem mt_14 : lf_m 14 1 := ⟨rfl, wd_4, wd_609, ⟨by decide +kernel, by decide +kernel, by decide +kernel⟩, nofun, fun _ => ⟨⟨_, _, rfl⟩, wd_607, wd_608⟩, nofun⟩
theorem mt_15 : lf_m 15 1 := ⟨rfl, wd_4, wd_526, ⟨by decide +kernel, by decide +kernel, by decide +kernel⟩, nofun, fun _ => ⟨⟨_, _, rfl⟩, wd_524, wd_525⟩, nofun⟩
theorem mt_16 : lf_m 16 1 := ⟨rfl, wd_4, wd_703, ⟨by decide +kernel, by decide +kernel, by decide +kernel⟩, nofun, fun _ => ⟨⟨_, _, rfl⟩, wd_701, wd_702⟩, nofun⟩
theorem mt_17 : lf_m 17 1 := ⟨rfl, wd_4, wd_562, ⟨by decide +kernel, by decide +kernel, by decide +kernel⟩, nofun, fun _ => ⟨⟨_, _, rfl⟩, wd_560, wd_561⟩, nofun⟩
theorem mt_18 : lf_m 18 1 := ⟨rfl, wd_4, wd_555, ⟨by decide +kernel, by decide +kernel, by decide +kernel⟩, nofun, fun _ => ⟨⟨_, _, rfl⟩, wd_553, wd_554⟩, nofun⟩
theorem mt_19 : lf_m 19 1 := ⟨rfl, wd_4, wd_597, ⟨by decide +kernel, by decide +kernel, by decide +kernel⟩, nofun, fun _ => ⟨⟨_, _, rfl⟩, wd_595, wd_596⟩, nofun⟩
theorem mt_20 : lf_m 20 1 := ⟨rfl, wd_4, wd_510, ⟨by decide +kernel, by decide +kernel, by decide +kernel⟩, nofun, fun _ => ⟨⟨_, _, rfl⟩, wd_508, wd_509⟩, nofun⟩
theorem mt_21 : lf_m 21 1 := ⟨rfl, wd_4, wd_539, ⟨by decide +kernel, by decide +kernel, by decide +kernel⟩, nofun, fun _ => ⟨⟨_, _, rfl⟩, wd_537, wd_538⟩, nofun⟩
theorem mt_22 : lf_m 22 1 := ⟨rfl, wd_4, wd_543, ⟨by decide +kernel, by decide +kernel, by decide +kernel⟩, nofun, fun _ => ⟨⟨_, _, rfl⟩, wd_541, wd_542⟩, nofun⟩
theorem mt_23 : lf_m 23 1 := ⟨rfl, wd_4, wd_691, ⟨by decide +kernel, by decide +kernel, by decide +kernel⟩, nofun, fun _ => ⟨⟨_, _, rfl⟩, wd_689, wd_690⟩, nofun⟩
theorem mt_24 : lf_m 24 1 := ⟨rfl, wd_4, wd_551, ⟨by decide +kernel, by decide +kernel, by decide +kernel⟩, nofun, fun _ => ⟨⟨_, _, rfl⟩, wd_549, wd_550⟩, nofun⟩
theorem mt_25 : lf_m 25 2 := ⟨rfl, wd_2, wd_33, ⟨by decide +kernel, by decide +kernel, by decide +kernel⟩, nofun, nofun, fun _ => ⟨rfl, rfl, wd_32⟩⟩
theorem mt_26 : lf_m 26 2 := ⟨rfl, wd_3, wd_51, ⟨by decide +kernel, by decide +kernel, by decide +kernel⟩, nofun, nofun, fun _ => ⟨rfl, rfl, wd_50⟩⟩
theorem mt_27 : lf_m 27 0 := ⟨rfl, wd_3, wd_387, ⟨by decide +kernel, by decide +kernel, by decide +kernel⟩, fun _ => wd_386, nofun, nofun⟩
theorem mt_28 : lf_m 28 1 := ⟨rfl, wd_3, wd_384, ⟨by decide +kernel, by decide +kernel, by decide +kernel⟩, nofun, fun _ => ⟨⟨_, _, rfl⟩, wd_382, wd_383⟩, nofun⟩
theorem mt_29 : lf_m 29 1 := ⟨rfl, wd_3, wd_430, ⟨by decide +kernel, by decide +kernel, by decide +kernel⟩, nofun, fun _ => ⟨⟨_, _, rfl⟩, wd_428, wd_429⟩, nofun⟩
theorem mt_30 : lf_m 30 1 := ⟨rfl, wd_3, wd_407, ⟨by decide +kernel, by decide +kernel, by decide +kernel⟩, nofun, fun _ => ⟨⟨_, _, rfl⟩, wd_405, wd_406⟩, nofun⟩
theorem mt_31 : lf_m 31 1 := ⟨rfl, wd_3, wd_418, ⟨by decide +kernel, by decide +kernel, by decide +kernel⟩, nofun, fun _ => ⟨⟨_, _, rfl⟩, wd_416, wd_417⟩, nofun⟩
theorem mt_32 : lf_m 32 2 := ⟨rfl, wd_7, wd_141, ⟨by decide +kernel, by decide +kernel, by decide +kernel⟩, nofun, nofun, fun _ => ⟨rfl, rfl, wd_140⟩⟩
theorem mt_33 : lf_m 33 1 := ⟨rfl, wd_7, wd_657, ⟨by decide +kernel, by decide +kernel, by decide +kernel⟩, nofun, fun _ => ⟨⟨_, _, rfl⟩, wd_655, wd_656⟩, nofun⟩
theorem mt_34 : lf_m 34 1 := ⟨rfl, wd_7, wd_621, ⟨by decide +kernel, by decide +kernel, by decide +kernel⟩, nofun, fun _ => ⟨⟨_, _, rfl⟩, wd_619, wd_620⟩, nofun⟩
theorem mt_35 : lf_m 35 1 := ⟨rfl, wd_7, wd_642, ⟨by decide +kernel, by decide +kernel, by decide +kernel⟩, nofun, fun _ => ⟨⟨_, _, rfl⟩, wd_640, wd_641⟩, nofun⟩
theorem mt_36 : lf_m 36 1 := ⟨rfl, wd_7, wd_661, ⟨by decide +kernel, by decide +kernel, by decide +kernel⟩, nofun, fun _ => ⟨⟨_, _, rfl⟩, wd_659, wd_660⟩, nofun⟩
theorem mt_37 : lf_m 37 1 := ⟨rfl, wd_7, wd_670, ⟨by decide +kernel, by decide +kernel, by decide +kernel⟩, nofun, fun _ => ⟨⟨_, _, rfl⟩, wd_668, wd_669⟩, nofun⟩
theorem mt_38 : lf_m 38 1 := ⟨rfl, wd_7, wd_674, ⟨by decide +kernel, by decide +kernel, by decide +kernel⟩, nofun, fun _ => ⟨⟨_, _, rfl⟩, wd_672, wd_673⟩, nofun⟩
theorem mt_39 : lf_m 39 2 := ⟨rfl, wd_6, wd_134, ⟨by decide +kernel, by decide +kernel, by decide +kernel⟩, nofun, nofun, fun _ => ⟨rfl, rfl, wd_133⟩⟩
theorem mt_40 : lf_m 40 1 := ⟨rfl, wd_6, wd_613, ⟨by decide +kernel, by decide +kernel, by decide +kernel⟩, nofun, fun _ => ⟨⟨_, _, rfl⟩, wd_611, wd_612⟩, nofun⟩
theorem mt_41 : lf_m 41 1 := ⟨rfl, wd_6, wd_724, ⟨by decide +kernel, by decide +kernel, by decide +kernel⟩, nofun, fun _ => ⟨⟨_, _, rfl⟩, wd_722, wd_723⟩, nofun⟩
theorem mt_42 : lf_m 42 1 := ⟨rfl, wd_6, wd_649, ⟨by decide +kernel, by decide +kernel, by decide +kernel⟩, nofun, fun _ => ⟨⟨_, _, rfl⟩, wd_647, wd_648⟩, nofun⟩
theorem mt_43 : lf_m 43 1 := ⟨rfl, wd_6, wd_617, ⟨by decide +kernel, by decide +kernel, by decide +kernel⟩, nofun, fun _ => ⟨⟨_, _, rfl⟩, wd_616, wq_11⟩, nofun⟩
theorem mt_44 : lf_m 44 1 := ⟨rfl, wd_6, wd_632, ⟨by decide +kernel, by decide +kernel, by decide +kernel⟩, nofun, fun _ => ⟨⟨_, _, rfl⟩, wd_631, wq_12⟩, nofun⟩
theorem mt_45 : lf_m 45 1 := ⟨rfl, wd_6, wd_653, ⟨by decide +kernel, by decide +kernel, by decide +kernel⟩, nofun, fun _ => ⟨⟨_, _, rfl⟩, wd_652, wq_13⟩, nofun⟩
theorem mt_62 : lf_m 62 1 := ⟨rfl, wd_1, wd_276, ⟨by decide +kernel, by decide +kernel, by decide +kernel⟩, nofun, fun _ => ⟨⟨_, _, rfl⟩, wd_275, wq_0⟩, nofun⟩
theorem mt_63 : lf_m 63 1 := ⟨rfl, wd_1, wd_491, ⟨by decide +kernel, by decide +kernel, by decide +kernel⟩, nofun, fun _ => ⟨⟨_, _, rfl⟩, wd_490, wq_3⟩, nofun⟩
theorem mt_64 : lf_m 64 1 := ⟨rfl, wd_1, wd_379, ⟨by decide +kernel, by decide +kernel, by decide +kernel⟩, nofun, fun _ => ⟨⟨_, _, rfl⟩, wd_378, wq_2⟩, nofun⟩
theorem mt_65 : lf_m 65 1 := ⟨rfl, wd_1, wd_535, ⟨by decide +kernel, by decide +kernel, by decide +kernel⟩, nofun, fun _ => ⟨⟨_, _, rfl⟩, wd_534, wq_4⟩, nofun⟩
theorem mt_66 : lf_m 66 1 := ⟨rfl, wd_1, wd_601, ⟨by decide +kernel, by decide +kernel, by decide +kernel⟩, nofun, fun _ => ⟨⟨_, _, rfl⟩, wd_600, wq_9⟩, nofun⟩
theorem mt_67 : lf_m 67 1 := ⟨rfl, wd_1, wd_605, ⟨by decide +kernel, by decide +kernel, by decide +kernel⟩, nofun, fun _ => ⟨⟨_, _, rfl⟩, wd_604, wq_10⟩, nofun⟩
theorem mt_68 : lf_m 68 1 := ⟨rfl, wd_1, wd_699, ⟨by decide +kernel, by decide +kernel, by decide +kernel⟩, nofun, fun _ => ⟨⟨_, _, rfl⟩, wd_698, wq_15⟩, nofun⟩
theorem mt_69 : lf_m 69 1 := ⟨rfl, wd_1, wd_547, ⟨by decide +kernel, by decide +kernel, by decide +kernel⟩, nofun, fun _ => ⟨⟨_, _, rfl⟩, wd_546, wq_5⟩, nofun⟩
theorem mt_70 : lf_m 70 1 := ⟨rfl, wd_1, wd_695, ⟨by decide +kernel, by decide +kernel, by decide +kernel⟩, nofun, fun _ => ⟨⟨_, _, rfl⟩, wd_694, wq_14⟩, nofun⟩
theorem mt_71 : lf_m 71 1 := ⟨rfl, wd_1, wd_572, ⟨by decide +kernel, by decide +kernel, by decide +kernel⟩, nofun, fun _ => ⟨⟨_, _, rfl⟩, wd_571, wq_6⟩, nofun⟩
theorem mt_72 : lf_m 72 1 := ⟨rfl, wd_1, wd_720, ⟨by decide +kernel, by decide +kernel, by decide +kernel⟩, nofun, fun _ => ⟨⟨_, _, rfl⟩, wd_719, wq_16⟩, nofun⟩
theorem mt_75 : lf_m 75 1 := ⟨rfl, wd_9, wd_900, ⟨by decide +kernel, by decide +kernel, by decide +kernel⟩, nofun, fun _ => ⟨⟨_, _, rfl⟩, wd_899, wq_17⟩, nofun⟩
theorem mt_76 : lf_m 76 0 := ⟨rfl, wd_9, wd_896, ⟨by decide +kernel, by decide +kernel, by decide +kernel⟩, fun _ => wd_895, nofun, nofun⟩
theorem mt_79 : lf_m 79 0 := ⟨rfl, wd_9, wd_915, ⟨by decide +kernel, by decide +kernel, by decide +kernel⟩, fun _ => wd_914, nofun, nofun⟩
theorem mt_80 : lf_m 80 1 := ⟨rfl, wd_9, wd_912, ⟨by decide +kernel, by decide +kernel, by decide +kernel⟩, nofun, fun _ => ⟨⟨_, _, rfl⟩, wd_911, wq_18⟩, nofun⟩
theorem mt_83 : lf_m 83 1 := ⟨rfl, wd_9, wd_927, ⟨by decide +kernel, by decide +kernel, by decide +kernel⟩, nofun, fun _ => ⟨⟨_, _, rfl⟩, wd_926, wq_19⟩, nofun⟩
theorem mt_87 : lf_m 87 0 := ⟨rfl, wd_9, wd_942, ⟨by decide +kernel, by decide +kernel, by decide +kernel⟩, fun _ => wd_941, nofun, nofun⟩
theorem mt_88 : lf_m 88 0 := ⟨rfl, wd_9, wd_946, ⟨by decide +kernel, by decide +kernel, by decide +kernel⟩, fun _ => wd_945, nofun, nofun⟩
theorem mt_89 : lf_m 89 0 := ⟨rfl, wd_9, wd_961, ⟨by decide +kernel, by decide +kernel, by decide +kernel⟩, fun _ => wd_960, nofun, nofun⟩
theorem mt_90 : lf_m 90 0 := ⟨rfl, wd_9, wd_975, ⟨by decide +kernel, by decide +kernel, by decide +kernel⟩, fun _ => wd_974, nofun, nofun⟩
theorem mt_91 : lf_m 91 0 := ⟨rfl, wd_9, wd_983, ⟨by decide +kernel, by decide +kernel, by decide +kernel⟩, fun _ => wd_982, nofun, nofun⟩
theorem mt_94 : lf_m 94 1 := ⟨rfl, wd_9, wd_987, ⟨by decide +kernel, by decide +kernel, by decide +kernel⟩, nofun, fun _ => ⟨⟨_, _, rfl⟩, wd_986, wq_24⟩, nofun⟩
theorem mt_95 : lf_m 95 1 := ⟨rfl, wd_9, wd_999, ⟨by decide +kernel, by decide +kernel, by decide +kernel⟩, nofun, fun _ => ⟨⟨_, _, rfl⟩, wd_998, wq_27⟩, nofun⟩
theorem mt_96 : lf_m 96 1 := ⟨rfl, wd_9, wd_1003, ⟨by decide +kernel, by decide +kernel, by decide +kernel⟩, nofun, fun _ => ⟨⟨_, _, rfl⟩, wd_1002, wq_28⟩, nofun⟩
theorem mt_97 : lf_m 97 1 := ⟨rfl, wd_9, wd_979, ⟨by decide +kernel, by decide +kernel, by decide +kernel⟩, nofun, fun _ => ⟨⟨_, _, rfl⟩, wd_978, wq_23⟩, nofun⟩
theorem mt_98 : lf_m 98 1 := ⟨rfl, wd_9, wd_972, ⟨by decide +kernel, by decide +kernel, by decide +kernel⟩, nofun, fun _ => ⟨⟨_, _, rfl⟩, wd_971, wq_22⟩, nofun⟩
theorem mt_99 : lf_m 99 1 := ⟨rfl, wd_9, wd_1036, ⟨by decide +kernel, by decide +kernel, by decide +kernel⟩, nofun, fun _ => ⟨⟨_, _, rfl⟩, wd_1035, wq_36⟩, nofun⟩
theorem mt_100 : lf_m 100 1 := ⟨rfl, wd_9, wd_1028, ⟨by decide +kernel, by decide +kernel, by decide +kernel⟩, nofun, fun _ => ⟨⟨_, _, rfl⟩, wd_1027, wq_34⟩, nofun⟩
theorem mt_101 : lf_m 101 1 := ⟨rfl, wd_9, wd_1024, ⟨by decide +kernel, by decide +kernel, by decide +kernel⟩, nofun, fun _ => ⟨⟨_, _, rfl⟩, wd_1023, wq_33⟩, nofun⟩
theorem mt_102 : lf_m 102 1 := ⟨rfl, wd_9, wd_1016, ⟨by decide +kernel, by decide +kernel, by decide +kernel⟩, nofun, fun _ => ⟨⟨_, _, rfl⟩, wd_1015, wq_31⟩, nofun⟩
theorem mt_103 : lf_m 103 1 := ⟨rfl, wd_9, wd_1012, ⟨by decide +kernel, by decide +kernel, by decide +kernel⟩, nofun, fun _ => ⟨⟨_, _, rfl⟩, wd_1011, wq_30⟩, nofun⟩
theorem mt_104 : lf_m 104 1 := ⟨rfl, wd_9, wd_1020, ⟨by decide +kernel, by decide +kernel, by decide +kernel⟩, nofun, fun _ => ⟨⟨_, _, rfl⟩, wd_1019, wq_32⟩, nofun⟩
theorem mt_105 : lf_m 105 1 := ⟨rfl, wd_9, wd_1008, ⟨by decide +kernel, by decide +kernel, by decide +kernel⟩, nofun, fun _ => ⟨⟨_, _, rfl⟩, wd_1007, wq_29⟩, nofun⟩
theorem mt_106 : lf_m 106 1 := ⟨rfl, wd_9, wd_991, ⟨by decide +kernel, by decide +kernel, by decide +kernel⟩, nofun, fun _ => ⟨⟨_, _, rfl⟩, wd_990, wq_25⟩, nofun⟩
theorem mt_107 : lf_m 107 1 := ⟨rfl, wd_9, wd_968, ⟨by decide +kernel, by decide +kernel, by decide +kernel⟩, nofun, fun _ => ⟨⟨_, _, rfl⟩, wd_967, wq_21⟩, nofun⟩
theorem mt_108 : lf_m 108 0 := ⟨rfl, wd_9, wd_964, ⟨by decide +kernel, by decide +kernel, by decide +kernel⟩, fun _ => wd_963, nofun, nofun⟩
theorem mt_109 : lf_m 109 1 := ⟨rfl, wd_9, wd_1032, ⟨by decide +kernel, by decide +kernel, by decide +kernel⟩, nofun, fun _ => ⟨⟨_, _, rfl⟩, wd_1031, wq_35⟩, nofun⟩
theorem mt_110 : lf_m 110 1 := ⟨rfl, wd_9, wd_995, ⟨by decide +kernel, by decide +kernel, by decide +kernel⟩, nofun, fun _ => ⟨⟨_, _, rfl⟩, wd_994, wq_26⟩, nofun⟩
theorem mt_111 : lf_m 111 1 := ⟨rfl, wd_9, wd_958, ⟨by decide +kernel, by decide +kernel, by decide +kernel⟩, nofun, fun _ => ⟨⟨_, _, rfl⟩, wd_957, wq_20⟩, nofun⟩
theorem mt_113 : lf_m 113 1 := ⟨rfl, wd_9, wd_1044, ⟨by decide +kernel, by decide +kernel, by decide +kernel⟩, nofun, fun _ => ⟨⟨_, _, rfl⟩, wd_1043, wq_37⟩, nofun⟩
theorem mt_119 : lf_m 119 0 := ⟨rfl, wd_17, wd_521, ⟨by decide +kernel, by decide +kernel, by decide +kernel⟩, fun _ => wd_520, nofun, nofun⟩
theorem mt_120 : lf_m 120 0 := ⟨rfl, wd_17, wd_558, ⟨by decide +kernel, by decide +kernel, by decide +kernel⟩, fun _ => wd_557, nofun, nofun⟩
theorem mt_121 : lf_m 121 0 := ⟨rfl, wd_17, wd_480, ⟨by decide +kernel, by decide +kernel, by decide +kernel⟩, fun _ => wd_479, nofun, nofun⟩
theorem mt_122 : lf_m 122 0 := ⟨rfl, wd_17, wd_457, ⟨by decide +kernel, by decide +kernel, by decide +kernel⟩, fun _ => wd_456, nofun, nofun⟩
theorem mt_123 : lf_m 123 0 := ⟨rfl, wd_17, wd_476, ⟨by decide +kernel, by decide +kernel, by decide +kernel⟩, fun _ => wd_475, nofun, nofun⟩
theorem le_0_3 : lf 0 3 (8, 0, 0, 0) := lf_o8 wd_204
theorem le_0_9 : lf 0 9 (1, 0, 0, 0) := lf_o1 ⟨_, _, _, rfl, by decide, uw_0, wd_205⟩
theorem le_0_15 : lf 0 15 (1, 0, 1, 0) := lf_o1 ⟨_, _, _, rfl, by decide, uw_0, wd_207⟩
theorem le_0_19 : lf 0 19 (2, 18, 1, 0) := lf_o2 wd_683 mt_18
theorem le_0_25 : lf 0 25 (1, 0, 2, 0) := lf_o1 ⟨_, _, _, rfl, by decide, uw_0, wd_209⟩
theorem le_0_27 : lf 0 27 (2, 19, 1, 0) := lf_o2 wd_684 mt_19
theorem le_0_30 : lf 0 30 (1, 0, 3, 0) := lf_o1 ⟨_, _, _, rfl, by decide, uw_0, wd_211⟩
theorem le_0_32 : lf 0 32 (2, 10, 1, 0) := lf_o2 wd_685 mt_10
theorem le_0_35 : lf 0 35 (1, 0, 4, 0) := lf_o1 ⟨_, _, _, rfl, by decide, uw_0, wd_213⟩
theorem le_0_38 : lf 0 38 (1, 2, 0, 0) := lf_o1 ⟨_, _, _, rfl, by decide, uw_2, wd_81⟩
theorem le_0_41 : lf 0 41 (2, 8, 1, 0) := lf_o2 wd_686 mt_8
theorem le_0_44 : lf 0 44 (5, 0, 0, 0) := lf_o5 wd_687
theorem lr_0 : ∀ q ∈ tb_r0, lf 0 q.1 q.2 := List.forall_mem_cons.mpr ⟨le_0_3, List.forall_mem_cons.mpr ⟨le_0_9, List.forall_mem_cons.mpr ⟨le_0_15, List.forall_mem_cons.mpr ⟨le_0_19, List.forall_mem_cons.mpr ⟨le_0_25, List.forall_mem_cons.mpr ⟨le_0_27, List.forall_mem_cons.mpr ⟨le_0_30, List.forall_mem_cons.mpr ⟨le_0_32, List.forall_mem_cons.mpr ⟨le_0_35, List.forall_mem_cons.mpr ⟨le_0_38, List.forall_mem_cons.mpr ⟨le_0_41, List.forall_mem_cons.mpr ⟨le_0_44, fun _ h => absurd h List.not_mem_nil⟩⟩⟩⟩⟩⟩⟩⟩⟩⟩⟩⟩
theorem le_1_3 : lf 1 3 (8, 0, 0, 0) := lf_o8 wd_98
theorem le_1_11 : lf 1 11 (1, 1, 0, 0) := lf_o1 ⟨_, _, _, rfl, by decide, uw_1, wd_99⟩
theorem le_1_15 : lf 1 15 (1, 1, 1, 0) := lf_o1 ⟨_, _, _, rfl, by decide, uw_1, wd_101⟩
theorem le_1_19 : lf 1 19 (1, 1, 2, 0) := lf_o1 ⟨_, _, _, rfl, by decide, uw_1, wd_103⟩
theorem le_1_22 : lf 1 22 (1, 1, 3, 0) := lf_o1 ⟨_, _, _, rfl, by decide, uw_1, wd_105⟩
theorem le_1_25 : lf 1 25 (1, 1, 4, 0) := lf_o1 ⟨_, _, _, rfl, by decide, uw_1, wd_107⟩
theorem le_1_28 : lf 1 28 (1, 1, 5, 0) := lf_o1 ⟨_, _, _, rfl, by decide, uw_1, wd_109⟩
theorem le_1_31 : lf 1 31 (1, 1, 6, 0) := lf_o1 ⟨_, _, _, rfl, by decide, uw_1, wd_110⟩
theorem le_1_35 : lf 1 35 (1, 1, 7, 0) := lf_o1 ⟨_, _, _, rfl, by decide, uw_1, wd_112⟩
theorem le_1_38 : lf 1 38 (2, 10, 1, 0) := lf_o2 wd_579 mt_10
theorem le_1_44 : lf 1 44 (1, 2, 0, 0) := lf_o1 ⟨_, _, _, rfl, by decide, uw_2, wd_82⟩
theorem le_1_47 : lf 1 47 (2, 8, 1, 0) := lf_o2 wd_580 mt_8
theorem le_1_50 : lf 1 50 (2, 5, 1, 0) := lf_o2 wd_581 mt_5
theorem le_1_54 : lf 1 54 (2, 6, 1, 0) := lf_o2 wd_589 mt_6
theorem le_1_58 : lf 1 58 (5, 0, 0, 0) := lf_o5 wd_585
theorem le_1_64 : lf 1 64 (2, 119, 0, 0) := lf_o2 wd_586 mt_119
theorem le_1_70 : lf 1 70 (2, 121, 0, 0) := lf_o2 wd_587 mt_121
theorem le_1_74 : lf 1 74 (2, 123, 0, 0) := lf_o2 wd_588 mt_123
theorem le_1_78 : lf 1 78 (2, 22, 1, 0) := lf_o2 wd_593 mt_22
theorem lr_1 : ∀ q ∈ tb_r1, lf 1 q.1 q.2 := List.forall_mem_cons.mpr ⟨le_1_3, List.forall_mem_cons.mpr ⟨le_1_11, List.forall_mem_cons.mpr ⟨le_1_15, List.forall_mem_cons.mpr ⟨le_1_19, List.forall_mem_cons.mpr ⟨le_1_22, List.forall_mem_cons.mpr ⟨le_1_25, List.forall_mem_cons.mpr ⟨le_1_28, List.forall_mem_cons.mpr ⟨le_1_31, List.forall_mem_cons.mpr ⟨le_1_35, List.forall_mem_cons.mpr ⟨le_1_38, List.forall_mem_cons.mpr ⟨le_1_44, List.forall_mem_cons.mpr ⟨le_1_47, List.forall_mem_cons.mpr ⟨le_1_50, List.forall_mem_cons.mpr ⟨le_1_54, List.forall_mem_cons.mpr ⟨le_1_58, List.forall_mem_cons.mpr ⟨le_1_64, List.forall_mem_cons.mpr ⟨le_1_70, List.forall_mem_cons.mpr ⟨le_1_74, List.forall_mem_cons.mpr ⟨le_1_78, fun _ h => absurd h List.not_mem_nil⟩⟩⟩⟩⟩⟩⟩⟩⟩⟩⟩⟩⟩⟩⟩⟩⟩⟩⟩
theorem le_2_3 : lf 2 3 (8, 0, 0, 0) := lf_o8 wd_79
theorem le_2_9 : lf 2 9 (1, 2, 0, 0) := lf_o1 ⟨_, _, _, rfl, by decide, uw_2, wd_80⟩
theorem le_2_15 : lf 2 15 (2, 119, 0, 0) := lf_o2 wd_519 mt_119
theorem le_2_21 : lf 2 21 (2, 120, 0, 0) := lf_o2 wd_556 mt_120
theorem le_2_24 : lf 2 24 (1, 2, 1, 0) := lf_o1 ⟨_, _, _, rfl, by decide, uw_2, wd_86⟩
theorem le_2_28 : lf 2 28 (2, 8, 1, 0) := lf_o2 wd_511 mt_8
theorem le_2_32 : lf 2 32 (2, 9, 1, 0) := lf_o2 wd_515 mt_9
theorem le_2_35 : lf 2 35 (2, 123, 0, 0) := lf_o2 wd_522 mt_123
theorem le_2_39 : lf 2 39 (2, 15, 1, 0) := lf_o2 wd_523 mt_15
theorem le_2_42 : lf 2 42 (2, 10, 1, 0) := lf_o2 wd_527 mt_10
theorem le_2_45 : lf 2 45 (4, 0, 0, 65535) := lf_o4 wd_531
theorem le_2_46 : lf 2 46 (2, 22, 1, 0) := lf_o2 wd_540 mt_22
theorem le_2_50 : lf 2 50 (2, 18, 1, 0) := lf_o2 wd_552 mt_18
theorem le_2_53 : lf 2 53 (2, 17, 1, 0) := lf_o2 wd_559 mt_17
theorem lr_2 : ∀ q ∈ tb_r2, lf 2 q.1 q.2 := List.forall_mem_cons.mpr ⟨le_2_3, List.forall_mem_cons.mpr ⟨le_2_9, List.forall_mem_cons.mpr ⟨le_2_15, List.forall_mem_cons.mpr ⟨le_2_21, List.forall_mem_cons.mpr ⟨le_2_24, List.forall_mem_cons.mpr ⟨le_2_28, List.forall_mem_cons.mpr ⟨le_2_32, List.forall_mem_cons.mpr ⟨le_2_35, List.forall_mem_cons.mpr ⟨le_2_39, List.forall_mem_cons.mpr ⟨le_2_42, List.forall_mem_cons.mpr ⟨le_2_45, List.forall_mem_cons.mpr ⟨le_2_46, List.forall_mem_cons.mpr ⟨le_2_50, List.forall_mem_cons.mpr ⟨le_2_53, fun _ h => absurd h List.not_mem_nil⟩⟩⟩⟩⟩⟩⟩⟩⟩⟩⟩⟩⟩⟩
theorem le_3_3 : lf 3 3 (8, 0, 0, 0) := lf_o8 wd_34
theorem le_3_9 : lf 3 9 (1, 3, 1, 0) := lf_o1 ⟨_, _, _, rfl, by decide, uw_3, wd_36⟩
theorem le_3_15 : lf 3 15 (1, 3, 2, 0) := lf_o1 ⟨_, _, _, rfl, by decide, uw_3, wd_38⟩
theorem lr_3 : ∀ q ∈ tb_r3, lf 3 q.1 q.2 := List.forall_mem_cons.mpr ⟨le_3_3, List.forall_mem_cons.mpr ⟨le_3_9, List.forall_mem_cons.mpr ⟨le_3_15, fun _ h => absurd h List.not_mem_nil⟩⟩⟩
theorem le_4_3 : lf 4 3 (8, 0, 0, 0) := lf_o8 wd_52
theorem le_4_9 : lf 4 9 (1, 4, 0, 0) := lf_o1 ⟨_, _, _, rfl, by decide, uw_4, wd_53⟩
theorem le_4_15 : lf 4 15 (1, 4, 1, 0) := lf_o1 ⟨_, _, _, rfl, by decide, uw_4, wd_54⟩
theorem le_4_18 : lf 4 18 (1, 4, 2, 0) := lf_o1 ⟨_, _, _, rfl, by decide, uw_4, wd_56⟩
theorem le_4_21 : lf 4 21 (1, 4, 3, 0) := lf_o1 ⟨_, _, _, rfl, by decide, uw_4, wd_58⟩
theorem le_4_24 : lf 4 24 (2, 27, 0, 0) := lf_o2 wd_385 mt_27
theorem le_4_28 : lf 4 28 (1, 4, 4, 0) := lf_o1 ⟨_, _, _, rfl, by decide, uw_4, wd_60⟩
theorem lr_4 : ∀ q ∈ tb_r4, lf 4 q.1 q.2 := List.forall_mem_cons.mpr ⟨le_4_3, List.forall_mem_cons.mpr ⟨le_4_9, List.forall_mem_cons.mpr ⟨le_4_15, List.forall_mem_cons.mpr ⟨le_4_18, List.forall_mem_cons.mpr ⟨le_4_21, List.forall_mem_cons.mpr ⟨le_4_24, List.forall_mem_cons.mpr ⟨le_4_28, fun _ h => absurd h List.not_mem_nil⟩⟩⟩⟩⟩⟩⟩
theorem le_5_3 : lf 5 3 (8, 0, 0, 0) := lf_o8 wd_142
theorem le_5_9 : lf 5 9 (3, 2, 2, 0) := lf_o3 ⟨_, _, rfl, uw_2, wd_143, wd_75, wd_4⟩
theorem le_5_11 : lf 5 11 (2, 7, 2, 0) := lf_o2 wd_144 mt_7
theorem le_5_14 : lf 5 14 (1, 5, 0, 0) := lf_o1 ⟨_, _, _, rfl, by decide, uw_5, wd_145⟩
theorem le_5_20 : lf 5 20 (1, 5, 1, 0) := lf_o1 ⟨_, _, _, rfl, by decide, uw_5, wd_147⟩
theorem le_5_24 : lf 5 24 (1, 5, 2, 0) := lf_o1 ⟨_, _, _, rfl, by decide, uw_5, wd_148⟩
theorem le_5_28 : lf 5 28 (2, 18, 1, 0) := lf_o2 wd_622 mt_18
theorem le_5_32 : lf 5 32 (1, 5, 5, 0) := lf_o1 ⟨_, _, _, rfl, by decide, uw_5, wd_153⟩
theorem le_5_35 : lf 5 35 (2, 19, 1, 0) := lf_o2 wd_623 mt_19
theorem le_5_38 : lf 5 38 (1, 5, 6, 0) := lf_o1 ⟨_, _, _, rfl, by decide, uw_5, wd_154⟩
theorem le_5_40 : lf 5 40 (2, 11, 1, 0) := lf_o2 wd_624 mt_11
theorem le_5_43 : lf 5 43 (1, 5, 7, 0) := lf_o1 ⟨_, _, _, rfl, by decide, uw_5, wd_155⟩
theorem le_5_45 : lf 5 45 (2, 17, 1, 0) := lf_o2 wd_628 mt_17
theorem le_5_48 : lf 5 48 (1, 5, 8, 0) := lf_o1 ⟨_, _, _, rfl, by decide, uw_5, wd_156⟩
theorem le_5_50 : lf 5 50 (1, 5, 9, 0) := lf_o1 ⟨_, _, _, rfl, by decide, uw_5, wd_157⟩
theorem le_5_53 : lf 5 53 (1, 5, 3, 0) := lf_o1 ⟨_, _, _, rfl, by decide, uw_5, wd_149⟩
theorem le_5_57 : lf 5 57 (1, 5, 10, 0) := lf_o1 ⟨_, _, _, rfl, by decide, uw_5, wd_159⟩
theorem le_5_60 : lf 5 60 (1, 5, 11, 0) := lf_o1 ⟨_, _, _, rfl, by decide, uw_5, wd_160⟩
theorem le_5_63 : lf 5 63 (1, 5, 12, 0) := lf_o1 ⟨_, _, _, rfl, by decide, uw_5, wd_161⟩
theorem le_5_66 : lf 5 66 (2, 15, 1, 0) := lf_o2 wd_643 mt_15
theorem le_5_69 : lf 5 69 (2, 10, 1, 0) := lf_o2 wd_644 mt_10
theorem le_5_72 : lf 5 72 (2, 13, 1, 0) := lf_o2 wd_645 mt_13
theorem le_5_76 : lf 5 76 (1, 2, 0, 0) := lf_o1 ⟨_, _, _, rfl, by decide, uw_2, wd_83⟩
theorem le_5_79 : lf 5 79 (2, 8, 1, 0) := lf_o2 wd_662 mt_8
theorem le_5_82 : lf 5 82 (5, 0, 0, 0) := lf_o5 wd_663
theorem le_5_88 : lf 5 88 (6, 0, 0, 0) := lf_o6 wd_664
theorem le_5_94 : lf 5 94 (1, 5, 4, 0) := lf_o1 ⟨_, _, _, rfl, by decide, uw_5, wd_151⟩
theorem le_5_97 : lf 5 97 (2, 121, 0, 0) := lf_o2 wd_675 mt_121
theorem le_5_103 : lf 5 103 (2, 119, 0, 0) := lf_o2 wd_676 mt_119
theorem le_5_107 : lf 5 107 (2, 123, 0, 0) := lf_o2 wd_677 mt_123
theorem lr_5 : ∀ q ∈ tb_r5, lf 5 q.1 q.2 := List.forall_mem_cons.mpr ⟨le_5_3, List.forall_mem_cons.mpr ⟨le_5_9, List.forall_mem_cons.mpr ⟨le_5_11, List.forall_mem_cons.mpr ⟨le_5_14, List.forall_mem_cons.mpr ⟨le_5_20, List.forall_mem_cons.mpr ⟨le_5_24, List.forall_mem_cons.mpr ⟨le_5_28, List.forall_mem_cons.mpr ⟨le_5_32, List.forall_mem_cons.mpr ⟨le_5_35, List.forall_mem_cons.mpr ⟨le_5_38, List.forall_mem_cons.mpr ⟨le_5_40, List.forall_mem_cons.mpr ⟨le_5_43, List.forall_mem_cons.mpr ⟨le_5_45, List.forall_mem_cons.mpr ⟨le_5_48, List.forall_mem_cons.mpr ⟨le_5_50, List.forall_mem_cons.mpr ⟨le_5_53, List.forall_mem_cons.mpr ⟨le_5_57, List.forall_mem_cons.mpr ⟨le_5_60, List.forall_mem_cons.mpr ⟨le_5_63, List.forall_mem_cons.mpr ⟨le_5_66, List.forall_mem_cons.mpr ⟨le_5_69, List.forall_mem_cons.mpr ⟨le_5_72, List.forall_mem_cons.mpr ⟨le_5_76, List.forall_mem_cons.mpr ⟨le_5_79, List.forall_mem_cons.mpr ⟨le_5_82, List.forall_mem_cons.mpr ⟨le_5_88, List.forall_mem_cons.mpr ⟨le_5_94, List.forall_mem_cons.mpr ⟨le_5_97, List.forall_mem_cons.mpr ⟨le_5_103, List.forall_mem_cons.mpr ⟨le_5_107, fun _ h => absurd h List.not_mem_nil⟩⟩⟩⟩⟩⟩⟩⟩⟩⟩⟩⟩⟩⟩⟩⟩⟩⟩⟩⟩⟩⟩⟩⟩⟩⟩⟩⟩⟩⟩
theorem le_6_3 : lf 6 3 (8, 0, 0, 0) := lf_o8 wd_135
theorem le_6_9 : lf 6 9 (3, 5, 13, 0) := lf_o3 ⟨_, _, rfl, uw_5, wd_136, wd_138, wd_7⟩
theorem le_6_11 : lf 6 11 (1, 6, 0, 0) := lf_o1 ⟨_, _, _, rfl, by decide, uw_6, wd_190⟩
theorem le_6_17 : lf 6 17 (2, 32, 2, 0) := lf_o2 wd_139 mt_32
theorem le_6_18 : lf 6 18 (2, 43, 1, 0) := lf_o2 wd_614 mt_43
theorem le_6_22 : lf 6 22 (2, 44, 1, 0) := lf_o2 wd_629 mt_44
theorem le_6_26 : lf 6 26 (2, 35, 1, 0) := lf_o2 wd_639 mt_35
theorem le_6_29 : lf 6 29 (2, 42, 1, 0) := lf_o2 wd_646 mt_42
theorem le_6_33 : lf 6 33 (2, 45, 1, 0) := lf_o2 wd_650 mt_45
theorem le_6_37 : lf 6 37 (2, 36, 1, 0) := lf_o2 wd_658 mt_36
theorem le_6_41 : lf 6 41 (2, 37, 1, 0) := lf_o2 wd_667 mt_37
theorem le_6_45 : lf 6 45 (2, 38, 1, 0) := lf_o2 wd_671 mt_38
theorem le_6_49 : lf 6 49 (1, 6, 1, 0) := lf_o1 ⟨_, _, _, rfl, by decide, uw_6, wd_192⟩
theorem le_6_53 : lf 6 53 (1, 5, 9, 0) := lf_o1 ⟨_, _, _, rfl, by decide, uw_5, wd_158⟩
theorem le_6_56 : lf 6 56 (2, 34, 1, 0) := lf_o2 wd_618 mt_34
theorem le_6_59 : lf 6 59 (2, 10, 1, 0) := lf_o2 wd_633 mt_10
theorem le_6_65 : lf 6 65 (2, 13, 1, 0) := lf_o2 wd_634 mt_13
theorem le_6_68 : lf 6 68 (2, 15, 1, 0) := lf_o2 wd_638 mt_15
theorem le_6_71 : lf 6 71 (2, 33, 1, 0) := lf_o2 wd_654 mt_33
theorem lr_6 : ∀ q ∈ tb_r6, lf 6 q.1 q.2 := List.forall_mem_cons.mpr ⟨le_6_3, List.forall_mem_cons.mpr ⟨le_6_9, List.forall_mem_cons.mpr ⟨le_6_11, List.forall_mem_cons.mpr ⟨le_6_17, List.forall_mem_cons.mpr ⟨le_6_18, List.forall_mem_cons.mpr ⟨le_6_22, List.forall_mem_cons.mpr ⟨le_6_26, List.forall_mem_cons.mpr ⟨le_6_29, List.forall_mem_cons.mpr ⟨le_6_33, List.forall_mem_cons.mpr ⟨le_6_37, List.forall_mem_cons.mpr ⟨le_6_41, List.forall_mem_cons.mpr ⟨le_6_45, List.forall_mem_cons.mpr ⟨le_6_49, List.forall_mem_cons.mpr ⟨le_6_53, List.forall_mem_cons.mpr ⟨le_6_56, List.forall_mem_cons.mpr ⟨le_6_59, List.forall_mem_cons.mpr ⟨le_6_65, List.forall_mem_cons.mpr ⟨le_6_68, List.forall_mem_cons.mpr ⟨le_6_71, fun _ h => absurd h List.not_mem_nil⟩⟩⟩⟩⟩⟩⟩⟩⟩⟩⟩⟩⟩⟩⟩⟩⟩⟩⟩
theorem le_7_1 : lf 7 1 (8, 0, 0, 0) := lf_o8 wd_25
theorem le_7_9 : lf 7 9 (3, 3, 3, 0) := lf_o3 ⟨_, _, rfl, uw_3, wd_28, wd_30, wd_2⟩
theorem le_7_11 : lf 7 11 (1, 7, 0, 0) := lf_o1 ⟨_, _, _, rfl, by decide, uw_7, wd_226⟩
theorem le_7_15 : lf 7 15 (2, 25, 2, 0) := lf_o2 wd_31 mt_25
theorem le_7_16 : lf 7 16 (3, 4, 5, 0) := lf_o3 ⟨_, _, rfl, uw_4, wd_47, wd_48, wd_3⟩
theorem le_7_18 : lf 7 18 (2, 26, 2, 0) := lf_o2 wd_49 mt_26
theorem le_7_19 : lf 7 19 (1, 7, 1, 0) := lf_o1 ⟨_, _, _, rfl, by decide, uw_7, wd_227⟩
theorem le_7_23 : lf 7 23 (3, 2, 2, 0) := lf_o3 ⟨_, _, rfl, uw_2, wd_74, wd_75, wd_4⟩
theorem le_7_25 : lf 7 25 (2, 7, 2, 0) := lf_o2 wd_76 mt_7
theorem le_7_28 : lf 7 28 (1, 7, 2, 0) := lf_o1 ⟨_, _, _, rfl, by decide, uw_7, wd_228⟩
theorem le_7_32 : lf 7 32 (1, 7, 3, 0) := lf_o1 ⟨_, _, _, rfl, by decide, uw_7, wd_229⟩
theorem le_7_35 : lf 7 35 (1, 7, 4, 0) := lf_o1 ⟨_, _, _, rfl, by decide, uw_7, wd_230⟩
theorem le_7_38 : lf 7 38 (3, 1, 8, 0) := lf_o3 ⟨_, _, rfl, uw_1, wd_93, wd_94, wd_5⟩
theorem le_7_40 : lf 7 40 (2, 2, 2, 0) := lf_o2 wd_95 mt_2
theorem le_7_41 : lf 7 41 (1, 7, 5, 0) := lf_o1 ⟨_, _, _, rfl, by decide, uw_7, wd_231⟩
theorem le_7_45 : lf 7 45 (3, 6, 2, 0) := lf_o3 ⟨_, _, rfl, uw_6, wd_130, wd_131, wd_6⟩
theorem le_7_47 : lf 7 47 (2, 39, 2, 0) := lf_o2 wd_132 mt_39
theorem le_7_48 : lf 7 48 (1, 7, 6, 0) := lf_o1 ⟨_, _, _, rfl, by decide, uw_7, wd_232⟩
theorem le_7_52 : lf 7 52 (3, 0, 5, 0) := lf_o3 ⟨_, _, rfl, uw_0, wd_199, wd_200, wd_8⟩
theorem le_7_54 : lf 7 54 (2, 0, 2, 0) := lf_o2 wd_201 mt_0
theorem le_7_55 : lf 7 55 (1, 7, 7, 0) := lf_o1 ⟨_, _, _, rfl, by decide, uw_7, wd_233⟩
theorem le_7_59 : lf 7 59 (1, 7, 8, 0) := lf_o1 ⟨_, _, _, rfl, by decide, uw_7, wd_234⟩
theorem le_7_63 : lf 7 63 (2, 62, 1, 0) := lf_o2 wd_273 mt_62
theorem le_7_66 : lf 7 66 (9, 1, 0, 0) := lf_o9
theorem le_7_73 : lf 7 73 (1, 3, 0, 0) := lf_o1 ⟨_, _, _, rfl, by decide, uw_3, wd_35⟩
theorem le_7_76 : lf 7 76 (1, 3, 1, 0) := lf_o1 ⟨_, _, _, rfl, by decide, uw_3, wd_37⟩
theorem le_7_79 : lf 7 79 (1, 3, 2, 0) := lf_o1 ⟨_, _, _, rfl, by decide, uw_3, wd_39⟩
theorem le_7_83 : lf 7 83 (2, 64, 1, 0) := lf_o2 wd_376 mt_64
theorem le_7_86 : lf 7 86 (2, 28, 1, 0) := lf_o2 wd_381 mt_28
theorem le_7_90 : lf 7 90 (1, 4, 4, 0) := lf_o1 ⟨_, _, _, rfl, by decide, uw_4, wd_61⟩
theorem le_7_93 : lf 7 93 (9, 2, 0, 0) := lf_o9
theorem le_7_98 : lf 7 98 (2, 30, 1, 0) := lf_o2 wd_404 mt_30
theorem le_7_102 : lf 7 102 (2, 31, 1, 0) := lf_o2 wd_415 mt_31
theorem le_7_107 : lf 7 107 (2, 29, 1, 0) := lf_o2 wd_427 mt_29
theorem le_7_111 : lf 7 111 (1, 4, 2, 0) := lf_o1 ⟨_, _, _, rfl, by decide, uw_4, wd_57⟩
theorem le_7_115 : lf 7 115 (1, 4, 1, 0) := lf_o1 ⟨_, _, _, rfl, by decide, uw_4, wd_55⟩
theorem le_7_118 : lf 7 118 (1, 4, 3, 0) := lf_o1 ⟨_, _, _, rfl, by decide, uw_4, wd_59⟩
theorem le_7_121 : lf 7 121 (1, 2, 1, 0) := lf_o1 ⟨_, _, _, rfl, by decide, uw_2, wd_85⟩
theorem le_7_122 : lf 7 122 (9, 3, 0, 0) := lf_o9
theorem le_7_127 : lf 7 127 (1, 2, 0, 0) := lf_o1 ⟨_, _, _, rfl, by decide, uw_2, wd_84⟩
theorem le_7_131 : lf 7 131 (2, 122, 0, 0) := lf_o2 wd_455 mt_122
theorem le_7_141 : lf 7 141 (2, 123, 0, 0) := lf_o2 wd_474 mt_123
theorem le_7_145 : lf 7 145 (2, 121, 0, 0) := lf_o2 wd_478 mt_121
theorem le_7_148 : lf 7 148 (2, 63, 1, 0) := lf_o2 wd_488 mt_63
theorem le_7_151 : lf 7 151 (1, 1, 2, 0) := lf_o1 ⟨_, _, _, rfl, by decide, uw_1, wd_104⟩
theorem le_7_154 : lf 7 154 (1, 1, 0, 0) := lf_o1 ⟨_, _, _, rfl, by decide, uw_1, wd_100⟩
theorem le_7_157 : lf 7 157 (1, 1, 1, 0) := lf_o1 ⟨_, _, _, rfl, by decide, uw_1, wd_102⟩
theorem le_7_160 : lf 7 160 (5, 0, 0, 0) := lf_o5 wd_493
theorem le_7_166 : lf 7 166 (2, 3, 1, 0) := lf_o2 wd_503 mt_3
theorem le_7_169 : lf 7 169 (2, 20, 1, 0) := lf_o2 wd_507 mt_20
theorem le_7_173 : lf 7 173 (2, 65, 1, 0) := lf_o2 wd_532 mt_65
theorem le_7_178 : lf 7 178 (2, 72, 1, 0) := lf_o2 wd_717 mt_72
theorem le_7_181 : lf 7 181 (1, 1, 6, 0) := lf_o1 ⟨_, _, _, rfl, by decide, uw_1, wd_111⟩
theorem le_7_182 : lf 7 182 (1, 1, 3, 0) := lf_o1 ⟨_, _, _, rfl, by decide, uw_1, wd_106⟩
theorem le_7_183 : lf 7 183 (1, 1, 4, 0) := lf_o1 ⟨_, _, _, rfl, by decide, uw_1, wd_108⟩
theorem le_7_186 : lf 7 186 (9, 0, 0, 0) := lf_o9
theorem le_7_191 : lf 7 191 (1, 0, 4, 0) := lf_o1 ⟨_, _, _, rfl, by decide, uw_0, wd_214⟩
theorem le_7_192 : lf 7 192 (1, 0, 0, 0) := lf_o1 ⟨_, _, _, rfl, by decide, uw_0, wd_206⟩
theorem le_7_193 : lf 7 193 (1, 6, 1, 0) := lf_o1 ⟨_, _, _, rfl, by decide, uw_6, wd_193⟩
theorem le_7_194 : lf 7 194 (1, 7, 9, 0) := lf_o1 ⟨_, _, _, rfl, by decide, uw_7, wd_235⟩
theorem le_7_197 : lf 7 197 (1, 7, 10, 0) := lf_o1 ⟨_, _, _, rfl, by decide, uw_7, wd_236⟩
theorem le_7_200 : lf 7 200 (1, 0, 1, 0) := lf_o1 ⟨_, _, _, rfl, by decide, uw_0, wd_208⟩
theorem le_7_203 : lf 7 203 (1, 0, 2, 0) := lf_o1 ⟨_, _, _, rfl, by decide, uw_0, wd_210⟩
theorem le_7_206 : lf 7 206 (1, 0, 3, 0) := lf_o1 ⟨_, _, _, rfl, by decide, uw_0, wd_212⟩
theorem le_7_217 : lf 7 217 (2, 21, 1, 0) := lf_o2 wd_536 mt_21
theorem le_7_220 : lf 7 220 (2, 69, 1, 0) := lf_o2 wd_544 mt_69
theorem le_7_224 : lf 7 224 (2, 19, 1, 0) := lf_o2 wd_594 mt_19
theorem le_7_226 : lf 7 226 (2, 66, 1, 0) := lf_o2 wd_598 mt_66
theorem le_7_230 : lf 7 230 (2, 67, 1, 0) := lf_o2 wd_602 mt_67
theorem le_7_233 : lf 7 233 (2, 68, 1, 0) := lf_o2 wd_696 mt_68
theorem le_7_236 : lf 7 236 (2, 14, 1, 0) := lf_o2 wd_606 mt_14
theorem le_7_240 : lf 7 240 (2, 40, 1, 0) := lf_o2 wd_610 mt_40
theorem le_7_244 : lf 7 244 (2, 17, 1, 0) := lf_o2 wd_678 mt_17
theorem le_7_247 : lf 7 247 (2, 1, 1, 0) := lf_o2 wd_679 mt_1
theorem le_7_251 : lf 7 251 (2, 23, 1, 0) := lf_o2 wd_688 mt_23
theorem le_7_254 : lf 7 254 (2, 70, 1, 0) := lf_o2 wd_692 mt_70
theorem le_7_258 : lf 7 258 (2, 16, 1, 0) := lf_o2 wd_700 mt_16
theorem le_7_261 : lf 7 261 (2, 9, 1, 0) := lf_o2 wd_704 mt_9
theorem le_7_264 : lf 7 264 (2, 12, 1, 0) := lf_o2 wd_705 mt_12
theorem le_7_267 : lf 7 267 (2, 4, 1, 0) := lf_o2 wd_575 mt_4
theorem le_7_271 : lf 7 271 (2, 24, 1, 0) := lf_o2 wd_548 mt_24
theorem le_7_274 : lf 7 274 (2, 8, 1, 0) := lf_o2 wd_563 mt_8
theorem le_7_277 : lf 7 277 (2, 10, 1, 0) := lf_o2 wd_564 mt_10
theorem le_7_280 : lf 7 280 (7, 0, 0, 0) := lf_o7 wd_565
theorem le_7_285 : lf 7 285 (2, 18, 1, 0) := lf_o2 wd_568 mt_18
theorem le_7_287 : lf 7 287 (2, 71, 1, 0) := lf_o2 wd_569 mt_71
theorem le_7_291 : lf 7 291 (4, 0, 0, 1157627904) := lf_o4 wd_573
theorem le_7_292 : lf 7 292 (4, 0, 0, 1073807360) := lf_o4 wd_574
theorem le_7_293 : lf 7 293 (2, 41, 1, 0) := lf_o2 wd_721 mt_41
theorem le_7_296 : lf 7 296 (1, 6, 0, 0) := lf_o1 ⟨_, _, _, rfl, by decide, uw_6, wd_191⟩
theorem le_7_300 : lf 7 300 (1, 5, 3, 0) := lf_o1 ⟨_, _, _, rfl, by decide, uw_5, wd_150⟩
theorem le_7_305 : lf 7 305 (1, 5, 0, 0) := lf_o1 ⟨_, _, _, rfl, by decide, uw_5, wd_146⟩
theorem le_7_308 : lf 7 308 (1, 5, 4, 0) := lf_o1 ⟨_, _, _, rfl, by decide, uw_5, wd_152⟩
theorem le_7_311 : lf 7 311 (2, 42, 1, 0) := lf_o2 wd_725 mt_42
theorem lr_7 : ∀ q ∈ tb_r7, lf 7 q.1 q.2 := List.forall_mem_cons.mpr ⟨le_7_1, List.forall_mem_cons.mpr ⟨le_7_9, List.forall_mem_cons.mpr ⟨le_7_11, List.forall_mem_cons.mpr ⟨le_7_15, List.forall_mem_cons.mpr ⟨le_7_16, List.forall_mem_cons.mpr ⟨le_7_18, List.forall_mem_cons.mpr ⟨le_7_19, List.forall_mem_cons.mpr ⟨le_7_23, List.forall_mem_cons.mpr ⟨le_7_25, List.forall_mem_cons.mpr ⟨le_7_28, List.forall_mem_cons.mpr ⟨le_7_32, List.forall_mem_cons.mpr ⟨le_7_35, List.forall_mem_cons.mpr ⟨le_7_38, List.forall_mem_cons.mpr ⟨le_7_40, List.forall_mem_cons.mpr ⟨le_7_41, List.forall_mem_cons.mpr ⟨le_7_45, List.forall_mem_cons.mpr ⟨le_7_47, List.forall_mem_cons.mpr ⟨le_7_48, List.forall_mem_cons.mpr ⟨le_7_52, List.forall_mem_cons.mpr ⟨le_7_54, List.forall_mem_cons.mpr ⟨le_7_55, List.forall_mem_cons.mpr ⟨le_7_59, List.forall_mem_cons.mpr ⟨le_7_63, List.forall_mem_cons.mpr ⟨le_7_66, List.forall_mem_cons.mpr ⟨le_7_73, List.forall_mem_cons.mpr ⟨le_7_76, List.forall_mem_cons.mpr ⟨le_7_79, List.forall_mem_cons.mpr ⟨le_7_83, List.forall_mem_cons.mpr ⟨le_7_86, List.forall_mem_cons.mpr ⟨le_7_90, List.forall_mem_cons.mpr ⟨le_7_93, List.forall_mem_cons.mpr ⟨le_7_98, List.forall_mem_cons.mpr ⟨le_7_102, List.forall_mem_cons.mpr ⟨le_7_107, List.forall_mem_cons.mpr ⟨le_7_111, List.forall_mem_cons.mpr ⟨le_7_115, List.forall_mem_cons.mpr ⟨le_7_118, List.forall_mem_cons.mpr ⟨le_7_121, List.forall_mem_cons.mpr ⟨le_7_122, List.forall_mem_cons.mpr ⟨le_7_127, List.forall_mem_cons.mpr ⟨le_7_131, List.forall_mem_cons.mpr ⟨le_7_141, List.forall_mem_cons.mpr ⟨le_7_145, List.forall_mem_cons.mpr ⟨le_7_148, List.forall_mem_cons.mpr ⟨le_7_151, List.forall_mem_cons.mpr ⟨le_7_154, List.forall_mem_cons.mpr ⟨le_7_157, List.forall_mem_cons.mpr ⟨le_7_160, List.forall_mem_cons.mpr ⟨le_7_166, List.forall_mem_cons.mpr ⟨le_7_169, List.forall_mem_cons.mpr ⟨le_7_173, List.forall_mem_cons.mpr ⟨le_7_178, List.forall_mem_cons.mpr ⟨le_7_181, List.forall_mem_cons.mpr ⟨le_7_182, List.forall_mem_cons.mpr ⟨le_7_183, List.forall_mem_cons.mpr ⟨le_7_186, List.forall_mem_cons.mpr ⟨le_7_191, List.forall_mem_cons.mpr ⟨le_7_192, List.forall_mem_cons.mpr ⟨le_7_193, List.forall_mem_cons.mpr ⟨le_7_194, List.forall_mem_cons.mpr ⟨le_7_197, List.forall_mem_cons.mpr ⟨le_7_200, List.forall_mem_cons.mpr ⟨le_7_203, List.forall_mem_cons.mpr ⟨le_7_206, List.forall_mem_cons.mpr ⟨le_7_217, List.forall_mem_cons.mpr ⟨le_7_220, List.forall_mem_cons.mpr ⟨le_7_224, List.forall_mem_cons.mpr ⟨le_7_226, List.forall_mem_cons.mpr ⟨le_7_230, List.forall_mem_cons.mpr ⟨le_7_233, List.forall_mem_cons.mpr ⟨le_7_236, List.forall_mem_cons.mpr ⟨le_7_240, List.forall_mem_cons.mpr ⟨le_7_244, List.forall_mem_cons.mpr ⟨le_7_247, List.forall_mem_cons.mpr ⟨le_7_251, List.forall_mem_cons.mpr ⟨le_7_254, List.forall_mem_cons.mpr ⟨le_7_258, List.forall_mem_cons.mpr ⟨le_7_261, List.forall_mem_cons.mpr ⟨le_7_264, List.forall_mem_cons.mpr ⟨le_7_267, List.forall_mem_cons.mpr ⟨le_7_271, List.forall_mem_cons.mpr ⟨le_7_274, List.forall_mem_cons.mpr ⟨le_7_277, List.forall_mem_cons.mpr ⟨le_7_280, List.forall_mem_cons.mpr ⟨le_7_285, List.forall_mem_cons.mpr ⟨le_7_287, List.forall_mem_cons.mpr ⟨le_7_291, List.forall_mem_cons.mpr ⟨le_7_292, List.forall_mem_cons.mpr ⟨le_7_293, List.forall_mem_cons.mpr ⟨le_7_296, List.forall_mem_cons.mpr ⟨le_7_300, List.forall_mem_cons.mpr ⟨le_7_305, List.forall_mem_cons.mpr ⟨le_7_308, List.forall_mem_cons.mpr ⟨le_7_311, fun _ h => absurd h List.not_mem_nil⟩⟩⟩⟩⟩⟩⟩⟩⟩⟩⟩⟩⟩⟩⟩⟩⟩⟩⟩⟩⟩⟩⟩⟩⟩⟩⟩⟩⟩⟩⟩⟩⟩⟩⟩⟩⟩⟩⟩⟩⟩⟩⟩⟩⟩⟩⟩⟩⟩⟩⟩⟩⟩⟩⟩⟩⟩⟩⟩⟩⟩⟩⟩⟩⟩⟩⟩⟩⟩⟩⟩⟩⟩⟩⟩⟩⟩⟩⟩⟩⟩⟩⟩⟩⟩⟩⟩⟩⟩⟩⟩⟩⟩⟩
theorem le_8_1 : lf 8 1 (8, 0, 0, 0) := lf_o8 wd_755
theorem le_8_7 : lf 8 7 (1, 8, 0, 0) := lf_o1 ⟨_, _, _, rfl, by decide, uw_8, wd_756⟩
theorem le_8_13 : lf 8 13 (1, 8, 1, 0) := lf_o1 ⟨_, _, _, rfl, by decide, uw_8, wd_757⟩
theorem le_8_16 : lf 8 16 (1, 8, 2, 0) := lf_o1 ⟨_, _, _, rfl, by decide, uw_8, wd_758⟩
theorem le_8_20 : lf 8 20 (1, 8, 3, 0) := lf_o1 ⟨_, _, _, rfl, by decide, uw_8, wd_759⟩
theorem le_8_23 : lf 8 23 (1, 8, 4, 0) := lf_o1 ⟨_, _, _, rfl, by decide, uw_8, wd_760⟩
theorem le_8_26 : lf 8 26 (1, 8, 5, 0) := lf_o1 ⟨_, _, _, rfl, by decide, uw_8, wd_761⟩
theorem le_8_29 : lf 8 29 (1, 8, 6, 0) := lf_o1 ⟨_, _, _, rfl, by decide, uw_8, wd_762⟩
theorem le_8_32 : lf 8 32 (1, 8, 8, 0) := lf_o1 ⟨_, _, _, rfl, by decide, uw_8, wd_764⟩
theorem le_8_35 : lf 8 35 (1, 8, 10, 0) := lf_o1 ⟨_, _, _, rfl, by decide, uw_8, wd_766⟩
theorem le_8_38 : lf 8 38 (1, 8, 11, 0) := lf_o1 ⟨_, _, _, rfl, by decide, uw_8, wd_767⟩
theorem le_8_41 : lf 8 41 (1, 8, 14, 0) := lf_o1 ⟨_, _, _, rfl, by decide, uw_8, wd_770⟩
theorem le_8_44 : lf 8 44 (1, 8, 15, 0) := lf_o1 ⟨_, _, _, rfl, by decide, uw_8, wd_771⟩
theorem le_8_47 : lf 8 47 (1, 8, 16, 0) := lf_o1 ⟨_, _, _, rfl, by decide, uw_8, wd_772⟩
theorem le_8_50 : lf 8 50 (1, 8, 17, 0) := lf_o1 ⟨_, _, _, rfl, by decide, uw_8, wd_773⟩
theorem le_8_53 : lf 8 53 (1, 8, 18, 0) := lf_o1 ⟨_, _, _, rfl, by decide, uw_8, wd_774⟩
theorem le_8_56 : lf 8 56 (1, 8, 20, 0) := lf_o1 ⟨_, _, _, rfl, by decide, uw_8, wd_776⟩
theorem le_8_60 : lf 8 60 (1, 8, 27, 0) := lf_o1 ⟨_, _, _, rfl, by decide, uw_8, wd_783⟩
theorem le_8_63 : lf 8 63 (1, 8, 29, 0) := lf_o1 ⟨_, _, _, rfl, by decide, uw_8, wd_785⟩
theorem le_8_66 : lf 8 66 (1, 8, 30, 0) := lf_o1 ⟨_, _, _, rfl, by decide, uw_8, wd_786⟩
theorem le_8_69 : lf 8 69 (1, 8, 31, 0) := lf_o1 ⟨_, _, _, rfl, by decide, uw_8, wd_787⟩
theorem le_8_72 : lf 8 72 (1, 8, 32, 0) := lf_o1 ⟨_, _, _, rfl, by decide, uw_8, wd_788⟩
theorem le_8_75 : lf 8 75 (1, 8, 33, 0) := lf_o1 ⟨_, _, _, rfl, by decide, uw_8, wd_789⟩
theorem le_8_78 : lf 8 78 (1, 8, 34, 0) := lf_o1 ⟨_, _, _, rfl, by decide, uw_8, wd_790⟩
theorem le_8_81 : lf 8 81 (1, 8, 35, 0) := lf_o1 ⟨_, _, _, rfl, by decide, uw_8, wd_791⟩
theorem le_8_84 : lf 8 84 (1, 8, 36, 0) := lf_o1 ⟨_, _, _, rfl, by decide, uw_8, wd_792⟩
theorem le_8_87 : lf 8 87 (1, 8, 37, 0) := lf_o1 ⟨_, _, _, rfl, by decide, uw_8, wd_793⟩
theorem le_8_90 : lf 8 90 (1, 8, 38, 0) := lf_o1 ⟨_, _, _, rfl, by decide, uw_8, wd_794⟩
theorem le_8_93 : lf 8 93 (1, 8, 39, 0) := lf_o1 ⟨_, _, _, rfl, by decide, uw_8, wd_795⟩
theorem le_8_96 : lf 8 96 (1, 8, 40, 0) := lf_o1 ⟨_, _, _, rfl, by decide, uw_8, wd_796⟩
theorem le_8_99 : lf 8 99 (1, 8, 41, 0) := lf_o1 ⟨_, _, _, rfl, by decide, uw_8, wd_797⟩
theorem le_8_102 : lf 8 102 (1, 8, 42, 0) := lf_o1 ⟨_, _, _, rfl, by decide, uw_8, wd_798⟩
theorem le_8_105 : lf 8 105 (2, 76, 0, 0) := lf_o2 wd_894 mt_76
theorem le_8_109 : lf 8 109 (2, 75, 1, 0) := lf_o2 wd_897 mt_75
theorem le_8_113 : lf 8 113 (1, 8, 7, 0) := lf_o1 ⟨_, _, _, rfl, by decide, uw_8, wd_763⟩
theorem le_8_116 : lf 8 116 (2, 79, 0, 0) := lf_o2 wd_913 mt_79
theorem le_8_120 : lf 8 120 (2, 80, 1, 0) := lf_o2 wd_909 mt_80
theorem le_8_123 : lf 8 123 (2, 83, 1, 0) := lf_o2 wd_924 mt_83
theorem le_8_127 : lf 8 127 (1, 8, 9, 0) := lf_o1 ⟨_, _, _, rfl, by decide, uw_8, wd_765⟩
theorem le_8_130 : lf 8 130 (4, 0, 0, 65535) := lf_o4 wd_943
theorem le_8_131 : lf 8 131 (2, 89, 0, 0) := lf_o2 wd_959 mt_89
theorem le_8_135 : lf 8 135 (2, 88, 0, 0) := lf_o2 wd_944 mt_88
theorem le_8_139 : lf 8 139 (2, 87, 0, 0) := lf_o2 wd_940 mt_87
theorem le_8_143 : lf 8 143 (1, 8, 19, 0) := lf_o1 ⟨_, _, _, rfl, by decide, uw_8, wd_775⟩
theorem le_8_146 : lf 8 146 (1, 8, 13, 0) := lf_o1 ⟨_, _, _, rfl, by decide, uw_8, wd_769⟩
theorem le_8_149 : lf 8 149 (1, 8, 12, 0) := lf_o1 ⟨_, _, _, rfl, by decide, uw_8, wd_768⟩
theorem le_8_152 : lf 8 152 (2, 94, 1, 0) := lf_o2 wd_984 mt_94
theorem le_8_156 : lf 8 156 (2, 96, 1, 0) := lf_o2 wd_1000 mt_96
theorem le_8_159 : lf 8 159 (4, 0, 0, 49152) := lf_o4 wd_1004
theorem le_8_160 : lf 8 160 (1, 8, 21, 0) := lf_o1 ⟨_, _, _, rfl, by decide, uw_8, wd_777⟩
theorem le_8_163 : lf 8 163 (4, 0, 0, 65536) := lf_o4 wd_980
theorem le_8_164 : lf 8 164 (2, 91, 0, 0) := lf_o2 wd_981 mt_91
theorem le_8_167 : lf 8 167 (2, 90, 0, 0) := lf_o2 wd_973 mt_90
theorem le_8_170 : lf 8 170 (2, 97, 1, 0) := lf_o2 wd_976 mt_97
theorem le_8_173 : lf 8 173 (2, 95, 1, 0) := lf_o2 wd_996 mt_95
theorem le_8_176 : lf 8 176 (1, 8, 28, 0) := lf_o1 ⟨_, _, _, rfl, by decide, uw_8, wd_784⟩
theorem le_8_179 : lf 8 179 (2, 100, 1, 0) := lf_o2 wd_1025 mt_100
theorem le_8_182 : lf 8 182 (2, 102, 1, 0) := lf_o2 wd_1013 mt_102
theorem le_8_186 : lf 8 186 (2, 103, 1, 0) := lf_o2 wd_1009 mt_103
theorem le_8_189 : lf 8 189 (2, 104, 1, 0) := lf_o2 wd_1017 mt_104
theorem le_8_193 : lf 8 193 (2, 101, 1, 0) := lf_o2 wd_1021 mt_101
theorem le_8_197 : lf 8 197 (1, 8, 22, 0) := lf_o1 ⟨_, _, _, rfl, by decide, uw_8, wd_778⟩
theorem le_8_200 : lf 8 200 (2, 99, 1, 0) := lf_o2 wd_1033 mt_99
theorem le_8_203 : lf 8 203 (2, 98, 1, 0) := lf_o2 wd_969 mt_98
theorem le_8_207 : lf 8 207 (1, 8, 23, 0) := lf_o1 ⟨_, _, _, rfl, by decide, uw_8, wd_779⟩
theorem le_8_210 : lf 8 210 (1, 8, 24, 0) := lf_o1 ⟨_, _, _, rfl, by decide, uw_8, wd_780⟩
theorem le_8_213 : lf 8 213 (1, 8, 25, 0) := lf_o1 ⟨_, _, _, rfl, by decide, uw_8, wd_781⟩
theorem le_8_216 : lf 8 216 (1, 8, 26, 0) := lf_o1 ⟨_, _, _, rfl, by decide, uw_8, wd_782⟩
theorem le_8_219 : lf 8 219 (2, 108, 0, 0) := lf_o2 wd_962 mt_108
theorem le_8_222 : lf 8 222 (2, 107, 1, 0) := lf_o2 wd_965 mt_107
theorem le_8_225 : lf 8 225 (2, 106, 1, 0) := lf_o2 wd_988 mt_106
theorem le_8_228 : lf 8 228 (2, 110, 1, 0) := lf_o2 wd_992 mt_110
theorem le_8_231 : lf 8 231 (2, 105, 1, 0) := lf_o2 wd_1005 mt_105
theorem le_8_234 : lf 8 234 (2, 109, 1, 0) := lf_o2 wd_1029 mt_109
theorem le_8_237 : lf 8 237 (2, 111, 1, 0) := lf_o2 wd_955 mt_111
theorem le_8_240 : lf 8 240 (2, 113, 1, 0) := lf_o2 wd_1041 mt_113
theorem lr_8 : ∀ q ∈ tb_r8, lf 8 q.1 q.2 := List.forall_mem_cons.mpr ⟨le_8_1, List.forall_mem_cons.mpr ⟨le_8_7, List.forall_mem_cons.mpr ⟨le_8_13, List.forall_mem_cons.mpr ⟨le_8_16, List.forall_mem_cons.mpr ⟨le_8_20, List.forall_mem_cons.mpr ⟨le_8_23, List.forall_mem_cons.mpr ⟨le_8_26, List.forall_mem_cons.mpr ⟨le_8_29, List.forall_mem_cons.mpr ⟨le_8_32, List.forall_mem_cons.mpr ⟨le_8_35, List.forall_mem_cons.mpr ⟨le_8_38, List.forall_mem_cons.mpr ⟨le_8_41, List.forall_mem_cons.mpr ⟨le_8_44, List.forall_mem_cons.mpr ⟨le_8_47, List.forall_mem_cons.mpr ⟨le_8_50, List.forall_mem_cons.mpr ⟨le_8_53, List.forall_mem_cons.mpr ⟨le_8_56, List.forall_mem_cons.mpr ⟨le_8_60, List.forall_mem_cons.mpr ⟨le_8_63, List.forall_mem_cons.mpr ⟨le_8_66, List.forall_mem_cons.mpr ⟨le_8_69, List.forall_mem_cons.mpr ⟨le_8_72, List.forall_mem_cons.mpr ⟨le_8_75, List.forall_mem_cons.mpr ⟨le_8_78, List.forall_mem_cons.mpr ⟨le_8_81, List.forall_mem_cons.mpr ⟨le_8_84, List.forall_mem_cons.mpr ⟨le_8_87, List.forall_mem_cons.mpr ⟨le_8_90, List.forall_mem_cons.mpr ⟨le_8_93, List.forall_mem_cons.mpr ⟨le_8_96, List.forall_mem_cons.mpr ⟨le_8_99, List.forall_mem_cons.mpr ⟨le_8_102, List.forall_mem_cons.mpr ⟨le_8_105, List.forall_mem_cons.mpr ⟨le_8_109, List.forall_mem_cons.mpr ⟨le_8_113, List.forall_mem_cons.mpr ⟨le_8_116, List.forall_mem_cons.mpr ⟨le_8_120, List.forall_mem_cons.mpr ⟨le_8_123, List.forall_mem_cons.mpr ⟨le_8_127, List.forall_mem_cons.mpr ⟨le_8_130, List.forall_mem_cons.mpr ⟨le_8_131, List.forall_mem_cons.mpr ⟨le_8_135, List.forall_mem_cons.mpr ⟨le_8_139, List.forall_mem_cons.mpr ⟨le_8_143, List.forall_mem_cons.mpr ⟨le_8_146, List.forall_mem_cons.mpr ⟨le_8_149, List.forall_mem_cons.mpr ⟨le_8_152, List.forall_mem_cons.mpr ⟨le_8_156, List.forall_mem_cons.mpr ⟨le_8_159, List.forall_mem_cons.mpr ⟨le_8_160, List.forall_mem_cons.mpr ⟨le_8_163, List.forall_mem_cons.mpr ⟨le_8_164, List.forall_mem_cons.mpr ⟨le_8_167, List.forall_mem_cons.mpr ⟨le_8_170, List.forall_mem_cons.mpr ⟨le_8_173, List.forall_mem_cons.mpr ⟨le_8_176, List.forall_mem_cons.mpr ⟨le_8_179, List.forall_mem_cons.mpr ⟨le_8_182, List.forall_mem_cons.mpr ⟨le_8_186, List.forall_mem_cons.mpr ⟨le_8_189, List.forall_mem_cons.mpr ⟨le_8_193, List.forall_mem_cons.mpr ⟨le_8_197, List.forall_mem_cons.mpr ⟨le_8_200, List.forall_mem_cons.mpr ⟨le_8_203, List.forall_mem_cons.mpr ⟨le_8_207, List.forall_mem_cons.mpr ⟨le_8_210, List.forall_mem_cons.mpr ⟨le_8_213, List.forall_mem_cons.mpr ⟨le_8_216, List.forall_mem_cons.mpr ⟨le_8_219, List.forall_mem_cons.mpr ⟨le_8_222, List.forall_mem_cons.mpr ⟨le_8_225, List.forall_mem_cons.mpr ⟨le_8_228, List.forall_mem_cons.mpr ⟨le_8_231, List.forall_mem_cons.mpr ⟨le_8_234, List.forall_mem_cons.mpr ⟨le_8_237, List.forall_mem_cons.mpr ⟨le_8_240, fun _ h => absurd h List.not_mem_nil⟩⟩⟩⟩⟩⟩⟩⟩⟩⟩⟩⟩⟩⟩⟩⟩⟩⟩⟩⟩⟩⟩⟩⟩⟩⟩⟩⟩⟩⟩⟩⟩⟩⟩⟩⟩⟩⟩⟩⟩⟩⟩⟩⟩⟩⟩⟩⟩⟩⟩⟩⟩⟩⟩⟩⟩⟩⟩⟩⟩⟩⟩⟩⟩⟩⟩⟩⟩⟩⟩⟩⟩⟩⟩⟩⟩
theorem le_9_7 : lf 9 7 (4, 0, 0, 65535) := lf_o4 wd_477
theorem lr_9 : ∀ q ∈ tb_r9, lf 9 q.1 q.2 := List.forall_mem_cons.mpr ⟨le_9_7, fun _ h => absurd h List.not_mem_nil⟩
theorem fx_arrN : Jvm.Cond.native arraycopyName ∈ tb_all := wd_495
theorem fx_arrS : Jvm.Cond.static arraycopyName ∈ tb_all := wd_494
theorem fx_arrI : Jvm.Cond.initialized "java/lang/System" ∈ tb_all := wd_18
theorem fx_maxS : Jvm.Cond.static Lib.Math.max.name ∈ tb_all := wd_665
theorem fx_minS : Jvm.Cond.static Lib.Math.min.name ∈ tb_all := wd_566
theorem fx_matI : Jvm.Cond.initialized "java/lang/Math" ∈ tb_all := wd_19
theorem fx_maxC : Jvm.Cond.code Lib.Math.max.name Lib.Math.max.code 2 (some .int) ∈ tb_all := wd_666
theorem fx_minC : Jvm.Cond.code Lib.Math.min.name Lib.Math.min.code 2 (some .int) ∈ tb_all := wd_567
theorem fx_objM : Jvm.Cond.instanceMethod Lib.objectInit ∈ tb_all := wd_26
theorem fx_objC : Jvm.Cond.code Lib.objectInit ⟨#[0xb1]⟩ 1 none ∈ tb_all := wd_27
theorem fx_int : Jvm.Cond.arrayClass .int ∈ tb_all := wd_73
theorem fx_byte : Jvm.Cond.arrayClass .byte ∈ tb_all := wd_92
theorem fx_boolean : Jvm.Cond.arrayClass .boolean ∈ tb_all := wd_189
end
section
theorem wl_o1 {i : Nat} {w : Jvm.Cond} (h : tables_1_1[i]? = some w) : w ∈ lw_tbl := List.mem_append_right _ (by have h : w ∈ tables_1_1 := List.mem_of_getElem? h; exact List.mem_append_left _ h)
theorem wl_o2 {i : Nat} {w : Jvm.Cond} (h : tables_1_2[i]? = some w) : w ∈ lw_tbl := List.mem_append_right _ (by have h : w ∈ tables_1_2 := List.mem_of_getElem? h; exact List.mem_append_right _ (List.mem_append_left _ h))
theorem wl_o3 {i : Nat} {w : Jvm.Cond} (h : tables_1_3[i]? = some w) : w ∈ lw_tbl := List.mem_append_right _ (by have h : w ∈ tables_1_3 := List.mem_of_getElem? h; exact List.mem_append_right _ (List.mem_append_right _ (List.mem_append_left _ h)))
theorem wl_o4 {i : Nat} {w : Jvm.Cond} (h : tables_1_4[i]? = some w) : w ∈ lw_tbl := List.mem_append_right _ (by have h : w ∈ tables_1_4 := List.mem_of_getElem? h; exact List.mem_append_right _ (List.mem_append_right _ (List.mem_append_right _ (List.mem_append_left _ h))))
theorem wl_o5 {i : Nat} {w : Jvm.Cond} (h : tables_1_5[i]? = some w) : w ∈ lw_tbl := List.mem_append_right _ (by have h : w ∈ tables_1_5 := List.mem_of_getElem? h; exact List.mem_append_right _ (List.mem_append_right _ (List.mem_append_right _ (List.mem_append_right _ (h)))))
theorem wl_10 : (Jvm.Cond.initialized "java/lang/Throwable") ∈ lw_tbl := wl_o1 (i := 10) rfl
theorem wl_13 : (Jvm.Cond.initialized "java/lang/IndexOutOfBoundsException") ∈ lw_tbl := wl_o1 (i := 13) rfl
theorem wl_14 : (Jvm.Cond.initialized "java/lang/IllegalArgumentException") ∈ lw_tbl := wl_o1 (i := 14) rfl
theorem wl_15 : (Jvm.Cond.initialized "java/lang/UnsupportedOperationException") ∈ lw_tbl := wl_o1 (i := 15) rfl
theorem wl_16 : (Jvm.Cond.initialized "java/lang/IllegalStateException") ∈ lw_tbl := wl_o1 (i := 16) rfl
theorem wl_26 : (Jvm.Cond.instanceMethod ({ cls := "java/lang/Object", name := "<init>", desc := "()V" } : Jvm.MethodName)) ∈ lw_tbl := wl_o1 (i := 26) rfl
theorem wl_27 : (Jvm.Cond.code ({ cls := "java/lang/Object", name := "<init>", desc := "()V" } : Jvm.MethodName) object_method_1_code (1 : Nat) (Option.none : Option Jvm.ClassFile.FieldType)) ∈ lw_tbl := wl_o1 (i := 27) rfl
theorem wl_277 : (Jvm.Cond.classLink "RouteHouse" (186 : Nat) "java/lang/IndexOutOfBoundsException") ∈ lw_tbl := wl_o2 (i := 37) rfl
theorem wl_278 : (Jvm.Cond.instantiable "java/lang/IndexOutOfBoundsException" (6 : Nat)) ∈ lw_tbl := wl_o2 (i := 38) rfl
theorem wl_279 : (Jvm.Cond.castable "java/lang/IndexOutOfBoundsException" "java/lang/IndexOutOfBoundsException") ∈ lw_tbl := wl_o2 (i := 39) rfl
theorem wl_281 : (Jvm.Cond.declares ({ cls := "java/lang/RuntimeException", name := "<init>", desc := "(Ljava/lang/String;)V" } : Jvm.MethodName)) ∈ lw_tbl := wl_o2 (i := 41) rfl
theorem wl_283 : (Jvm.Cond.declares ({ cls := "java/lang/Exception", name := "<init>", desc := "(Ljava/lang/String;)V" } : Jvm.MethodName)) ∈ lw_tbl := wl_o2 (i := 43) rfl
theorem wl_285 : (Jvm.Cond.declares ({ cls := "java/lang/Throwable", name := "<init>", desc := "(Ljava/lang/String;)V" } : Jvm.MethodName)) ∈ lw_tbl := wl_o2 (i := 45) rfl
theorem wl_286 : (Jvm.Cond.selects "java/lang/IndexOutOfBoundsException" ({ cls := "java/lang/Throwable", name := "fillInStackTrace", desc := "(I)Ljava/lang/Throwable;" } : Jvm.MethodName) ({ cls := "java/lang/Throwable", name := "fillInStackTrace", desc := "(I)Ljava/lang/Throwable;" } : Jvm.MethodName)) ∈ lw_tbl := wl_o2 (i := 46) rfl
theorem wl_287 : (Jvm.Cond.selects "java/lang/IndexOutOfBoundsException" ({ cls := "java/lang/Throwable", name := "fillInStackTrace", desc := "()Ljava/lang/Throwable;" } : Jvm.MethodName) ({ cls := "java/lang/Throwable", name := "fillInStackTrace", desc := "()Ljava/lang/Throwable;" } : Jvm.MethodName)) ∈ lw_tbl := wl_o2 (i := 47) rfl
theorem wl_288 : (Jvm.Cond.lays "java/lang/IndexOutOfBoundsException" "java/lang/Throwable" "cause" "Ljava/lang/Throwable;") ∈ lw_tbl := wl_o2 (i := 48) rfl
theorem wl_289 : (Jvm.Cond.lays "java/lang/Throwable" "java/lang/Throwable" "cause" "Ljava/lang/Throwable;") ∈ lw_tbl := wl_o2 (i := 49) rfl
theorem wl_290 : (Jvm.Cond.lays "java/lang/IndexOutOfBoundsException" "java/lang/Throwable" "stackTrace" "[Ljava/lang/StackTraceElement;") ∈ lw_tbl := wl_o2 (i := 50) rfl
theorem wl_291 : (Jvm.Cond.lays "java/lang/Throwable" "java/lang/Throwable" "stackTrace" "[Ljava/lang/StackTraceElement;") ∈ lw_tbl := wl_o2 (i := 51) rfl
theorem wl_292 : (Jvm.Cond.lays "java/lang/IndexOutOfBoundsException" "java/lang/Throwable" "suppressedExceptions" "Ljava/util/List;") ∈ lw_tbl := wl_o2 (i := 52) rfl
theorem wl_293 : (Jvm.Cond.lays "java/lang/Throwable" "java/lang/Throwable" "suppressedExceptions" "Ljava/util/List;") ∈ lw_tbl := wl_o2 (i := 53) rfl
theorem wl_294 : (Jvm.Cond.lays "java/lang/IndexOutOfBoundsException" "java/lang/Throwable" "detailMessage" "Ljava/lang/String;") ∈ lw_tbl := wl_o2 (i := 54) rfl
theorem wl_295 : (Jvm.Cond.lays "java/lang/Throwable" "java/lang/Throwable" "detailMessage" "Ljava/lang/String;") ∈ lw_tbl := wl_o2 (i := 55) rfl
theorem wl_296 : (Jvm.Cond.lays "java/lang/IndexOutOfBoundsException" "java/lang/Throwable" "backtrace" "Ljava/lang/Object;") ∈ lw_tbl := wl_o2 (i := 56) rfl
theorem wl_297 : (Jvm.Cond.lays "java/lang/Throwable" "java/lang/Throwable" "backtrace" "Ljava/lang/Object;") ∈ lw_tbl := wl_o2 (i := 57) rfl
theorem wl_298 : (Jvm.Cond.fieldLink "java/lang/Throwable" (198 : Nat) "java/lang/Throwable" "backtrace" "Ljava/lang/Object;") ∈ lw_tbl := wl_o2 (i := 58) rfl
theorem wl_299 : (Jvm.Cond.superclass "java/lang/Throwable" "java/lang/Object") ∈ lw_tbl := wl_o2 (i := 59) rfl
theorem wl_300 : (Jvm.Cond.instanceMethod ({ cls := "java/lang/Throwable", name := "<init>", desc := "()V" } : Jvm.MethodName)) ∈ lw_tbl := wl_o2 (i := 60) rfl
theorem wl_301 : (Jvm.Cond.code ({ cls := "java/lang/Throwable", name := "<init>", desc := "()V" } : Jvm.MethodName) prog_20_method_1_code (1 : Nat) (Option.none : Option Jvm.ClassFile.FieldType)) ∈ lw_tbl := wl_o2 (i := 61) rfl
theorem wl_302 : (Jvm.Cond.methodLink "java/lang/Throwable" (1 : Nat) ({ cls := "java/lang/Object", name := "<init>", desc := "()V" } : Jvm.MethodName)) ∈ lw_tbl := wl_o2 (i := 62) rfl
theorem wl_303 : (Jvm.Cond.fieldLink "java/lang/Throwable" (13 : Nat) "java/lang/Throwable" "UNASSIGNED_STACK" "[Ljava/lang/StackTraceElement;") ∈ lw_tbl := wl_o2 (i := 63) rfl
theorem wl_305 : (Jvm.Cond.fieldLink "java/lang/Throwable" (20 : Nat) "java/lang/Throwable" "SUPPRESSED_SENTINEL" "Ljava/util/List;") ∈ lw_tbl := wl_o2 (i := 65) rfl
theorem wl_307 : (Jvm.Cond.methodLink "java/lang/Throwable" (27 : Nat) ({ cls := "java/lang/Throwable", name := "fillInStackTrace", desc := "()Ljava/lang/Throwable;" } : Jvm.MethodName)) ∈ lw_tbl := wl_o2 (i := 67) rfl
theorem wl_308 : (Jvm.Cond.instanceMethod ({ cls := "java/lang/Throwable", name := "fillInStackTrace", desc := "()Ljava/lang/Throwable;" } : Jvm.MethodName)) ∈ lw_tbl := wl_o2 (i := 68) rfl
theorem wl_310 : (Jvm.Cond.selects "java/lang/IllegalArgumentException" ({ cls := "java/lang/Throwable", name := "fillInStackTrace", desc := "()Ljava/lang/Throwable;" } : Jvm.MethodName) ({ cls := "java/lang/Throwable", name := "fillInStackTrace", desc := "()Ljava/lang/Throwable;" } : Jvm.MethodName)) ∈ lw_tbl := wl_o2 (i := 70) rfl
theorem wl_311 : (Jvm.Cond.selects "java/lang/IllegalStateException" ({ cls := "java/lang/Throwable", name := "fillInStackTrace", desc := "()Ljava/lang/Throwable;" } : Jvm.MethodName) ({ cls := "java/lang/Throwable", name := "fillInStackTrace", desc := "()Ljava/lang/Throwable;" } : Jvm.MethodName)) ∈ lw_tbl := wl_o2 (i := 71) rfl
theorem wl_312 : (Jvm.Cond.selects "java/lang/UnsupportedOperationException" ({ cls := "java/lang/Throwable", name := "fillInStackTrace", desc := "()Ljava/lang/Throwable;" } : Jvm.MethodName) ({ cls := "java/lang/Throwable", name := "fillInStackTrace", desc := "()Ljava/lang/Throwable;" } : Jvm.MethodName)) ∈ lw_tbl := wl_o2 (i := 72) rfl
theorem wl_313 : (Jvm.Cond.codeSync ({ cls := "java/lang/Throwable", name := "fillInStackTrace", desc := "()Ljava/lang/Throwable;" } : Jvm.MethodName) prog_20_method_18_code (1 : Nat) (Option.some (Jvm.ClassFile.FieldType.object "java/lang/Throwable"))) ∈ lw_tbl := wl_o2 (i := 73) rfl
theorem wl_314 : (Jvm.Cond.methodLink "java/lang/Throwable" (202 : Nat) ({ cls := "java/lang/Throwable", name := "fillInStackTrace", desc := "(I)Ljava/lang/Throwable;" } : Jvm.MethodName)) ∈ lw_tbl := wl_o2 (i := 74) rfl
theorem wl_316 : (Jvm.Cond.instanceMethod ({ cls := "java/lang/Throwable", name := "fillInStackTrace", desc := "(I)Ljava/lang/Throwable;" } : Jvm.MethodName)) ∈ lw_tbl := wl_o2 (i := 76) rfl
theorem wl_318 : (Jvm.Cond.native ({ cls := "java/lang/Throwable", name := "fillInStackTrace", desc := "(I)Ljava/lang/Throwable;" } : Jvm.MethodName)) ∈ lw_tbl := wl_o2 (i := 78) rfl
theorem wl_320 : (Jvm.Cond.methodLink "RouteHouse" (190 : Nat) ({ cls := "java/lang/IndexOutOfBoundsException", name := "<init>", desc := "(Ljava/lang/String;)V" } : Jvm.MethodName)) ∈ lw_tbl := wl_o2 (i := 80) rfl
theorem wl_321 : (Jvm.Cond.instanceMethod ({ cls := "java/lang/IndexOutOfBoundsException", name := "<init>", desc := "(Ljava/lang/String;)V" } : Jvm.MethodName)) ∈ lw_tbl := wl_o2 (i := 81) rfl
theorem wl_322 : (Jvm.Cond.code ({ cls := "java/lang/IndexOutOfBoundsException", name := "<init>", desc := "(Ljava/lang/String;)V" } : Jvm.MethodName) prog_15_method_2_code (2 : Nat) (Option.none : Option Jvm.ClassFile.FieldType)) ∈ lw_tbl := wl_o2 (i := 82) rfl
theorem wl_323 : (Jvm.Cond.methodLink "java/lang/IndexOutOfBoundsException" (7 : Nat) ({ cls := "java/lang/RuntimeException", name := "<init>", desc := "(Ljava/lang/String;)V" } : Jvm.MethodName)) ∈ lw_tbl := wl_o2 (i := 83) rfl
theorem wl_324 : (Jvm.Cond.instanceMethod ({ cls := "java/lang/RuntimeException", name := "<init>", desc := "(Ljava/lang/String;)V" } : Jvm.MethodName)) ∈ lw_tbl := wl_o2 (i := 84) rfl
theorem wl_325 : (Jvm.Cond.code ({ cls := "java/lang/RuntimeException", name := "<init>", desc := "(Ljava/lang/String;)V" } : Jvm.MethodName) prog_17_method_2_code (2 : Nat) (Option.none : Option Jvm.ClassFile.FieldType)) ∈ lw_tbl := wl_o2 (i := 85) rfl
theorem wl_326 : (Jvm.Cond.methodLink "java/lang/RuntimeException" (7 : Nat) ({ cls := "java/lang/Exception", name := "<init>", desc := "(Ljava/lang/String;)V" } : Jvm.MethodName)) ∈ lw_tbl := wl_o2 (i := 86) rfl
theorem wl_327 : (Jvm.Cond.instanceMethod ({ cls := "java/lang/Exception", name := "<init>", desc := "(Ljava/lang/String;)V" } : Jvm.MethodName)) ∈ lw_tbl := wl_o2 (i := 87) rfl
theorem wl_328 : (Jvm.Cond.code ({ cls := "java/lang/Exception", name := "<init>", desc := "(Ljava/lang/String;)V" } : Jvm.MethodName) prog_12_method_2_code (2 : Nat) (Option.none : Option Jvm.ClassFile.FieldType)) ∈ lw_tbl := wl_o2 (i := 88) rfl
theorem wl_329 : (Jvm.Cond.methodLink "java/lang/Exception" (7 : Nat) ({ cls := "java/lang/Throwable", name := "<init>", desc := "(Ljava/lang/String;)V" } : Jvm.MethodName)) ∈ lw_tbl := wl_o2 (i := 89) rfl
theorem wl_330 : (Jvm.Cond.instanceMethod ({ cls := "java/lang/Throwable", name := "<init>", desc := "(Ljava/lang/String;)V" } : Jvm.MethodName)) ∈ lw_tbl := wl_o2 (i := 90) rfl
theorem wl_331 : (Jvm.Cond.code ({ cls := "java/lang/Throwable", name := "<init>", desc := "(Ljava/lang/String;)V" } : Jvm.MethodName) prog_20_method_2_code (2 : Nat) (Option.none : Option Jvm.ClassFile.FieldType)) ∈ lw_tbl := wl_o2 (i := 91) rfl
theorem wl_333 : (Jvm.Cond.fieldLink "java/lang/Throwable" (31 : Nat) "java/lang/Throwable" "detailMessage" "Ljava/lang/String;") ∈ lw_tbl := wl_o2 (i := 93) rfl
theorem wl_334 : (Jvm.Cond.fieldLink "java/lang/Throwable" (7 : Nat) "java/lang/Throwable" "cause" "Ljava/lang/Throwable;") ∈ lw_tbl := wl_o2 (i := 94) rfl
theorem wl_335 : (Jvm.Cond.fieldLink "java/lang/Throwable" (17 : Nat) "java/lang/Throwable" "stackTrace" "[Ljava/lang/StackTraceElement;") ∈ lw_tbl := wl_o2 (i := 95) rfl
theorem wl_336 : (Jvm.Cond.fieldLink "java/lang/Throwable" (24 : Nat) "java/lang/Throwable" "suppressedExceptions" "Ljava/util/List;") ∈ lw_tbl := wl_o2 (i := 96) rfl
theorem wl_345 : (Jvm.Cond.classLink "RouteHouse" (66 : Nat) "java/lang/IllegalArgumentException") ∈ lw_tbl := wl_o2 (i := 105) rfl
theorem wl_346 : (Jvm.Cond.instantiable "java/lang/IllegalArgumentException" (6 : Nat)) ∈ lw_tbl := wl_o2 (i := 106) rfl
theorem wl_347 : (Jvm.Cond.castable "java/lang/IllegalArgumentException" "java/lang/IllegalArgumentException") ∈ lw_tbl := wl_o2 (i := 107) rfl
theorem wl_348 : (Jvm.Cond.selects "java/lang/IllegalArgumentException" ({ cls := "java/lang/Throwable", name := "fillInStackTrace", desc := "(I)Ljava/lang/Throwable;" } : Jvm.MethodName) ({ cls := "java/lang/Throwable", name := "fillInStackTrace", desc := "(I)Ljava/lang/Throwable;" } : Jvm.MethodName)) ∈ lw_tbl := wl_o2 (i := 108) rfl
theorem wl_349 : (Jvm.Cond.lays "java/lang/IllegalArgumentException" "java/lang/Throwable" "cause" "Ljava/lang/Throwable;") ∈ lw_tbl := wl_o2 (i := 109) rfl
theorem wl_350 : (Jvm.Cond.lays "java/lang/IllegalArgumentException" "java/lang/Throwable" "stackTrace" "[Ljava/lang/StackTraceElement;") ∈ lw_tbl := wl_o2 (i := 110) rfl
theorem wl_351 : (Jvm.Cond.lays "java/lang/IllegalArgumentException" "java/lang/Throwable" "suppressedExceptions" "Ljava/util/List;") ∈ lw_tbl := wl_o2 (i := 111) rfl
theorem wl_352 : (Jvm.Cond.lays "java/lang/IllegalArgumentException" "java/lang/Throwable" "detailMessage" "Ljava/lang/String;") ∈ lw_tbl := wl_o2 (i := 112) rfl
theorem wl_353 : (Jvm.Cond.lays "java/lang/IllegalArgumentException" "java/lang/Throwable" "backtrace" "Ljava/lang/Object;") ∈ lw_tbl := wl_o2 (i := 113) rfl
theorem wl_355 : (Jvm.Cond.methodLink "RouteHouse" (70 : Nat) ({ cls := "java/lang/IllegalArgumentException", name := "<init>", desc := "(Ljava/lang/String;)V" } : Jvm.MethodName)) ∈ lw_tbl := wl_o2 (i := 115) rfl
theorem wl_356 : (Jvm.Cond.instanceMethod ({ cls := "java/lang/IllegalArgumentException", name := "<init>", desc := "(Ljava/lang/String;)V" } : Jvm.MethodName)) ∈ lw_tbl := wl_o2 (i := 116) rfl
theorem wl_357 : (Jvm.Cond.code ({ cls := "java/lang/IllegalArgumentException", name := "<init>", desc := "(Ljava/lang/String;)V" } : Jvm.MethodName) prog_13_method_2_code (2 : Nat) (Option.none : Option Jvm.ClassFile.FieldType)) ∈ lw_tbl := wl_o2 (i := 117) rfl
theorem wl_358 : (Jvm.Cond.methodLink "java/lang/IllegalArgumentException" (7 : Nat) ({ cls := "java/lang/RuntimeException", name := "<init>", desc := "(Ljava/lang/String;)V" } : Jvm.MethodName)) ∈ lw_tbl := wl_o2 (i := 118) rfl
theorem wl_388 : (Jvm.Cond.classLink "RouteHouse" (93 : Nat) "java/lang/UnsupportedOperationException") ∈ lw_tbl := wl_o2 (i := 148) rfl
theorem wl_389 : (Jvm.Cond.instantiable "java/lang/UnsupportedOperationException" (6 : Nat)) ∈ lw_tbl := wl_o2 (i := 149) rfl
theorem wl_390 : (Jvm.Cond.castable "java/lang/UnsupportedOperationException" "java/lang/UnsupportedOperationException") ∈ lw_tbl := wl_o2 (i := 150) rfl
theorem wl_391 : (Jvm.Cond.selects "java/lang/UnsupportedOperationException" ({ cls := "java/lang/Throwable", name := "fillInStackTrace", desc := "(I)Ljava/lang/Throwable;" } : Jvm.MethodName) ({ cls := "java/lang/Throwable", name := "fillInStackTrace", desc := "(I)Ljava/lang/Throwable;" } : Jvm.MethodName)) ∈ lw_tbl := wl_o2 (i := 151) rfl
theorem wl_392 : (Jvm.Cond.lays "java/lang/UnsupportedOperationException" "java/lang/Throwable" "cause" "Ljava/lang/Throwable;") ∈ lw_tbl := wl_o2 (i := 152) rfl
theorem wl_393 : (Jvm.Cond.lays "java/lang/UnsupportedOperationException" "java/lang/Throwable" "stackTrace" "[Ljava/lang/StackTraceElement;") ∈ lw_tbl := wl_o2 (i := 153) rfl
theorem wl_394 : (Jvm.Cond.lays "java/lang/UnsupportedOperationException" "java/lang/Throwable" "suppressedExceptions" "Ljava/util/List;") ∈ lw_tbl := wl_o2 (i := 154) rfl
theorem wl_395 : (Jvm.Cond.lays "java/lang/UnsupportedOperationException" "java/lang/Throwable" "detailMessage" "Ljava/lang/String;") ∈ lw_tbl := wl_o2 (i := 155) rfl
theorem wl_396 : (Jvm.Cond.lays "java/lang/UnsupportedOperationException" "java/lang/Throwable" "backtrace" "Ljava/lang/Object;") ∈ lw_tbl := wl_o2 (i := 156) rfl
theorem wl_398 : (Jvm.Cond.methodLink "RouteHouse" (97 : Nat) ({ cls := "java/lang/UnsupportedOperationException", name := "<init>", desc := "(Ljava/lang/String;)V" } : Jvm.MethodName)) ∈ lw_tbl := wl_o2 (i := 158) rfl
theorem wl_399 : (Jvm.Cond.instanceMethod ({ cls := "java/lang/UnsupportedOperationException", name := "<init>", desc := "(Ljava/lang/String;)V" } : Jvm.MethodName)) ∈ lw_tbl := wl_o2 (i := 159) rfl
theorem wl_400 : (Jvm.Cond.code ({ cls := "java/lang/UnsupportedOperationException", name := "<init>", desc := "(Ljava/lang/String;)V" } : Jvm.MethodName) prog_21_method_2_code (2 : Nat) (Option.none : Option Jvm.ClassFile.FieldType)) ∈ lw_tbl := wl_o2 (i := 160) rfl
theorem wl_401 : (Jvm.Cond.methodLink "java/lang/UnsupportedOperationException" (7 : Nat) ({ cls := "java/lang/RuntimeException", name := "<init>", desc := "(Ljava/lang/String;)V" } : Jvm.MethodName)) ∈ lw_tbl := wl_o2 (i := 161) rfl
theorem wl_439 : (Jvm.Cond.classLink "RouteHouse" (122 : Nat) "java/lang/IllegalStateException") ∈ lw_tbl := wl_o2 (i := 199) rfl
theorem wl_440 : (Jvm.Cond.instantiable "java/lang/IllegalStateException" (6 : Nat)) ∈ lw_tbl := wl_o2 (i := 200) rfl
theorem wl_441 : (Jvm.Cond.castable "java/lang/IllegalStateException" "java/lang/IllegalStateException") ∈ lw_tbl := wl_o2 (i := 201) rfl
theorem wl_442 : (Jvm.Cond.selects "java/lang/IllegalStateException" ({ cls := "java/lang/Throwable", name := "fillInStackTrace", desc := "(I)Ljava/lang/Throwable;" } : Jvm.MethodName) ({ cls := "java/lang/Throwable", name := "fillInStackTrace", desc := "(I)Ljava/lang/Throwable;" } : Jvm.MethodName)) ∈ lw_tbl := wl_o2 (i := 202) rfl
theorem wl_443 : (Jvm.Cond.lays "java/lang/IllegalStateException" "java/lang/Throwable" "cause" "Ljava/lang/Throwable;") ∈ lw_tbl := wl_o2 (i := 203) rfl
theorem wl_444 : (Jvm.Cond.lays "java/lang/IllegalStateException" "java/lang/Throwable" "stackTrace" "[Ljava/lang/StackTraceElement;") ∈ lw_tbl := wl_o2 (i := 204) rfl
theorem wl_445 : (Jvm.Cond.lays "java/lang/IllegalStateException" "java/lang/Throwable" "suppressedExceptions" "Ljava/util/List;") ∈ lw_tbl := wl_o2 (i := 205) rfl
theorem wl_446 : (Jvm.Cond.lays "java/lang/IllegalStateException" "java/lang/Throwable" "detailMessage" "Ljava/lang/String;") ∈ lw_tbl := wl_o2 (i := 206) rfl
theorem wl_447 : (Jvm.Cond.lays "java/lang/IllegalStateException" "java/lang/Throwable" "backtrace" "Ljava/lang/Object;") ∈ lw_tbl := wl_o2 (i := 207) rfl
theorem wl_449 : (Jvm.Cond.methodLink "RouteHouse" (126 : Nat) ({ cls := "java/lang/IllegalStateException", name := "<init>", desc := "(Ljava/lang/String;)V" } : Jvm.MethodName)) ∈ lw_tbl := wl_o2 (i := 209) rfl
theorem wl_450 : (Jvm.Cond.instanceMethod ({ cls := "java/lang/IllegalStateException", name := "<init>", desc := "(Ljava/lang/String;)V" } : Jvm.MethodName)) ∈ lw_tbl := wl_o2 (i := 210) rfl
theorem wl_451 : (Jvm.Cond.code ({ cls := "java/lang/IllegalStateException", name := "<init>", desc := "(Ljava/lang/String;)V" } : Jvm.MethodName) prog_14_method_2_code (2 : Nat) (Option.none : Option Jvm.ClassFile.FieldType)) ∈ lw_tbl := wl_o2 (i := 211) rfl
theorem wl_452 : (Jvm.Cond.methodLink "java/lang/IllegalStateException" (7 : Nat) ({ cls := "java/lang/RuntimeException", name := "<init>", desc := "(Ljava/lang/String;)V" } : Jvm.MethodName)) ∈ lw_tbl := wl_o2 (i := 212) rfl
def xw_ (w : Jvm.Cond) : Prop := (w = .laysStatic Bundle.tN "UNASSIGNED_STACK" Bundle.steD ∨ w = .isRef (.static Bundle.tN "UNASSIGNED_STACK" Bundle.steD) ∨ w = .laysStatic Bundle.tN "SUPPRESSED_SENTINEL" Bundle.listD ∨ w = .isRef (.static Bundle.tN "SUPPRESSED_SENTINEL" Bundle.listD)) ∨ (w ∈ lw_tbl ∧ w.onTables = true ∧ w.keepsFace = true)
theorem xw_a : xw_ (.laysStatic Bundle.tN "UNASSIGNED_STACK" Bundle.steD) := Or.inl (Or.inl rfl)
theorem xw_b : xw_ (.isRef (.static Bundle.tN "UNASSIGNED_STACK" Bundle.steD)) := Or.inl (Or.inr (Or.inl rfl))
theorem xw_c : xw_ (.laysStatic Bundle.tN "SUPPRESSED_SENTINEL" Bundle.listD) := Or.inl (Or.inr (Or.inr (Or.inl rfl)))
theorem xw_d : xw_ (.isRef (.static Bundle.tN "SUPPRESSED_SENTINEL" Bundle.listD)) := Or.inl (Or.inr (Or.inr (Or.inr rfl)))
theorem xw_t {w : Jvm.Cond} (h1 : w ∈ lw_tbl) (h2 : w.onTables = true) (h3 : w.keepsFace = true) : xw_ w := Or.inr ⟨h1, h2, h3⟩
theorem xw_use {w : Jvm.Cond} {U : State} {args : Array Value} (h1 : sx_h U) (h2 : sd_a U) (h : xw_ w) : w.before args U = true := by
  rcases h with (rfl | rfl | rfl | rfl) | ⟨h3, h4, h5⟩
  · exact (sx_kept (a2 := args) h1.1.1 h1.1.2 (Vm.Alike.refl U.vm) (fun _ _ h9 _ => h9)).1
  · exact (sx_kept (a2 := args) h1.1.1 h1.1.2 (Vm.Alike.refl U.vm) (fun _ _ h9 _ => h9)).2
  · exact (sx_kept (a2 := args) h1.2.1 h1.2.2 (Vm.Alike.refl U.vm) (fun _ _ h9 _ => h9)).1
  · exact (sx_kept (a2 := args) h1.2.1 h1.2.2 (Vm.Alike.refl U.vm) (fun _ _ h9 _ => h9)).2
  · exact sx_word (State.WarmedH.refl U) h4 h5 (h2.1 w h3 h4 h5)
theorem xa_t : ∀ w ∈ Bundle.throwableAtoms ++ Bundle.throwableSAtoms, xw_ w := List.forall_mem_append.mpr ⟨List.forall_mem_cons.mpr ⟨xw_t wl_10 rfl rfl, List.forall_mem_cons.mpr ⟨xw_t wl_299 rfl rfl, List.forall_mem_cons.mpr ⟨xw_t wl_308 rfl rfl, List.forall_mem_cons.mpr ⟨xw_t wl_313 rfl rfl, List.forall_mem_cons.mpr ⟨xw_t wl_316 rfl rfl, List.forall_mem_cons.mpr ⟨xw_t wl_318 rfl rfl, List.forall_mem_cons.mpr ⟨xw_t wl_300 rfl rfl, List.forall_mem_cons.mpr ⟨xw_t wl_301 rfl rfl, List.forall_mem_cons.mpr ⟨xw_t wl_26 rfl rfl, List.forall_mem_cons.mpr ⟨xw_t wl_27 rfl rfl, List.forall_mem_cons.mpr ⟨xw_t wl_302 rfl rfl, List.forall_mem_cons.mpr ⟨xw_t wl_307 rfl rfl, List.forall_mem_cons.mpr ⟨xw_t wl_314 rfl rfl, List.forall_mem_cons.mpr ⟨xw_t wl_334 rfl rfl, List.forall_mem_cons.mpr ⟨xw_t wl_289 rfl rfl, List.forall_mem_cons.mpr ⟨xw_t wl_335 rfl rfl, List.forall_mem_cons.mpr ⟨xw_t wl_291 rfl rfl, List.forall_mem_cons.mpr ⟨xw_t wl_336 rfl rfl, List.forall_mem_cons.mpr ⟨xw_t wl_293 rfl rfl, List.forall_mem_cons.mpr ⟨xw_t wl_303 rfl rfl, List.forall_mem_cons.mpr ⟨xw_a, List.forall_mem_cons.mpr ⟨xw_t wl_305 rfl rfl, List.forall_mem_cons.mpr ⟨xw_c, List.forall_mem_cons.mpr ⟨xw_t wl_295 rfl rfl, fun _ h => absurd h List.not_mem_nil⟩⟩⟩⟩⟩⟩⟩⟩⟩⟩⟩⟩⟩⟩⟩⟩⟩⟩⟩⟩⟩⟩⟩⟩, List.forall_mem_cons.mpr ⟨xw_t wl_330 rfl rfl, List.forall_mem_cons.mpr ⟨xw_t wl_331 rfl rfl, List.forall_mem_cons.mpr ⟨xw_t wl_333 rfl rfl, List.forall_mem_cons.mpr ⟨xw_t wl_295 rfl rfl, fun _ h => absurd h List.not_mem_nil⟩⟩⟩⟩⟩
def tb_nm9 : List String := ["java/lang/RuntimeException", "java/lang/Exception"]
theorem xa_c0 : ∀ w ∈ Bundle.chainSAtoms "java/lang/IndexOutOfBoundsException" tb_nm9, xw_ w := List.forall_mem_append.mpr ⟨List.forall_mem_cons.mpr ⟨xw_t wl_321 rfl rfl, List.forall_mem_cons.mpr ⟨xw_t wl_322 rfl rfl, List.forall_mem_cons.mpr ⟨xw_t wl_323 rfl rfl, List.forall_mem_cons.mpr ⟨xw_t wl_324 rfl rfl, List.forall_mem_cons.mpr ⟨xw_t wl_281 rfl rfl, fun _ h => absurd h List.not_mem_nil⟩⟩⟩⟩⟩, List.forall_mem_append.mpr ⟨List.forall_mem_cons.mpr ⟨xw_t wl_324 rfl rfl, List.forall_mem_cons.mpr ⟨xw_t wl_325 rfl rfl, List.forall_mem_cons.mpr ⟨xw_t wl_326 rfl rfl, List.forall_mem_cons.mpr ⟨xw_t wl_327 rfl rfl, List.forall_mem_cons.mpr ⟨xw_t wl_283 rfl rfl, fun _ h => absurd h List.not_mem_nil⟩⟩⟩⟩⟩, List.forall_mem_cons.mpr ⟨xw_t wl_327 rfl rfl, List.forall_mem_cons.mpr ⟨xw_t wl_328 rfl rfl, List.forall_mem_cons.mpr ⟨xw_t wl_329 rfl rfl, List.forall_mem_cons.mpr ⟨xw_t wl_330 rfl rfl, List.forall_mem_cons.mpr ⟨xw_t wl_285 rfl rfl, fun _ h => absurd h List.not_mem_nil⟩⟩⟩⟩⟩⟩⟩
theorem xa_c1 : ∀ w ∈ Bundle.chainSAtoms "java/lang/IllegalArgumentException" tb_nm9, xw_ w := List.forall_mem_append.mpr ⟨List.forall_mem_cons.mpr ⟨xw_t wl_356 rfl rfl, List.forall_mem_cons.mpr ⟨xw_t wl_357 rfl rfl, List.forall_mem_cons.mpr ⟨xw_t wl_358 rfl rfl, List.forall_mem_cons.mpr ⟨xw_t wl_324 rfl rfl, List.forall_mem_cons.mpr ⟨xw_t wl_281 rfl rfl, fun _ h => absurd h List.not_mem_nil⟩⟩⟩⟩⟩, List.forall_mem_append.mpr ⟨List.forall_mem_cons.mpr ⟨xw_t wl_324 rfl rfl, List.forall_mem_cons.mpr ⟨xw_t wl_325 rfl rfl, List.forall_mem_cons.mpr ⟨xw_t wl_326 rfl rfl, List.forall_mem_cons.mpr ⟨xw_t wl_327 rfl rfl, List.forall_mem_cons.mpr ⟨xw_t wl_283 rfl rfl, fun _ h => absurd h List.not_mem_nil⟩⟩⟩⟩⟩, List.forall_mem_cons.mpr ⟨xw_t wl_327 rfl rfl, List.forall_mem_cons.mpr ⟨xw_t wl_328 rfl rfl, List.forall_mem_cons.mpr ⟨xw_t wl_329 rfl rfl, List.forall_mem_cons.mpr ⟨xw_t wl_330 rfl rfl, List.forall_mem_cons.mpr ⟨xw_t wl_285 rfl rfl, fun _ h => absurd h List.not_mem_nil⟩⟩⟩⟩⟩⟩⟩
theorem xa_c2 : ∀ w ∈ Bundle.chainSAtoms "java/lang/UnsupportedOperationException" tb_nm9, xw_ w := List.forall_mem_append.mpr ⟨List.forall_mem_cons.mpr ⟨xw_t wl_399 rfl rfl, List.forall_mem_cons.mpr ⟨xw_t wl_400 rfl rfl, List.forall_mem_cons.mpr ⟨xw_t wl_401 rfl rfl, List.forall_mem_cons.mpr ⟨xw_t wl_324 rfl rfl, List.forall_mem_cons.mpr ⟨xw_t wl_281 rfl rfl, fun _ h => absurd h List.not_mem_nil⟩⟩⟩⟩⟩, List.forall_mem_append.mpr ⟨List.forall_mem_cons.mpr ⟨xw_t wl_324 rfl rfl, List.forall_mem_cons.mpr ⟨xw_t wl_325 rfl rfl, List.forall_mem_cons.mpr ⟨xw_t wl_326 rfl rfl, List.forall_mem_cons.mpr ⟨xw_t wl_327 rfl rfl, List.forall_mem_cons.mpr ⟨xw_t wl_283 rfl rfl, fun _ h => absurd h List.not_mem_nil⟩⟩⟩⟩⟩, List.forall_mem_cons.mpr ⟨xw_t wl_327 rfl rfl, List.forall_mem_cons.mpr ⟨xw_t wl_328 rfl rfl, List.forall_mem_cons.mpr ⟨xw_t wl_329 rfl rfl, List.forall_mem_cons.mpr ⟨xw_t wl_330 rfl rfl, List.forall_mem_cons.mpr ⟨xw_t wl_285 rfl rfl, fun _ h => absurd h List.not_mem_nil⟩⟩⟩⟩⟩⟩⟩
theorem xa_c3 : ∀ w ∈ Bundle.chainSAtoms "java/lang/IllegalStateException" tb_nm9, xw_ w := List.forall_mem_append.mpr ⟨List.forall_mem_cons.mpr ⟨xw_t wl_450 rfl rfl, List.forall_mem_cons.mpr ⟨xw_t wl_451 rfl rfl, List.forall_mem_cons.mpr ⟨xw_t wl_452 rfl rfl, List.forall_mem_cons.mpr ⟨xw_t wl_324 rfl rfl, List.forall_mem_cons.mpr ⟨xw_t wl_281 rfl rfl, fun _ h => absurd h List.not_mem_nil⟩⟩⟩⟩⟩, List.forall_mem_append.mpr ⟨List.forall_mem_cons.mpr ⟨xw_t wl_324 rfl rfl, List.forall_mem_cons.mpr ⟨xw_t wl_325 rfl rfl, List.forall_mem_cons.mpr ⟨xw_t wl_326 rfl rfl, List.forall_mem_cons.mpr ⟨xw_t wl_327 rfl rfl, List.forall_mem_cons.mpr ⟨xw_t wl_283 rfl rfl, fun _ h => absurd h List.not_mem_nil⟩⟩⟩⟩⟩, List.forall_mem_cons.mpr ⟨xw_t wl_327 rfl rfl, List.forall_mem_cons.mpr ⟨xw_t wl_328 rfl rfl, List.forall_mem_cons.mpr ⟨xw_t wl_329 rfl rfl, List.forall_mem_cons.mpr ⟨xw_t wl_330 rfl rfl, List.forall_mem_cons.mpr ⟨xw_t wl_285 rfl rfl, fun _ h => absurd h List.not_mem_nil⟩⟩⟩⟩⟩⟩⟩
theorem xa_70_1 : ∀ w ∈ Bundle.ownAtoms "RouteHouse" 70 "java/lang/IllegalArgumentException" tb_nm9, xw_ w := List.forall_mem_append.mpr ⟨List.forall_mem_append.mpr ⟨xa_t, xa_c1⟩, List.forall_mem_cons.mpr ⟨xw_t wl_355 rfl rfl, List.forall_mem_cons.mpr ⟨xw_t wl_346 rfl rfl, List.forall_mem_cons.mpr ⟨xw_t wl_347 rfl rfl, List.forall_mem_cons.mpr ⟨xw_t wl_348 rfl rfl, List.forall_mem_cons.mpr ⟨xw_t wl_310 rfl rfl, List.forall_mem_cons.mpr ⟨xw_t wl_349 rfl rfl, List.forall_mem_cons.mpr ⟨xw_t wl_350 rfl rfl, List.forall_mem_cons.mpr ⟨xw_t wl_351 rfl rfl, List.forall_mem_cons.mpr ⟨xw_t wl_352 rfl rfl, List.forall_mem_cons.mpr ⟨xw_b, List.forall_mem_cons.mpr ⟨xw_d, List.forall_mem_cons.mpr ⟨xw_t wl_298 rfl rfl, List.forall_mem_cons.mpr ⟨xw_t wl_297 rfl rfl, List.forall_mem_cons.mpr ⟨xw_t wl_353 rfl rfl, fun _ h => absurd h List.not_mem_nil⟩⟩⟩⟩⟩⟩⟩⟩⟩⟩⟩⟩⟩⟩⟩
theorem xa_97_2 : ∀ w ∈ Bundle.ownAtoms "RouteHouse" 97 "java/lang/UnsupportedOperationException" tb_nm9, xw_ w := List.forall_mem_append.mpr ⟨List.forall_mem_append.mpr ⟨xa_t, xa_c2⟩, List.forall_mem_cons.mpr ⟨xw_t wl_398 rfl rfl, List.forall_mem_cons.mpr ⟨xw_t wl_389 rfl rfl, List.forall_mem_cons.mpr ⟨xw_t wl_390 rfl rfl, List.forall_mem_cons.mpr ⟨xw_t wl_391 rfl rfl, List.forall_mem_cons.mpr ⟨xw_t wl_312 rfl rfl, List.forall_mem_cons.mpr ⟨xw_t wl_392 rfl rfl, List.forall_mem_cons.mpr ⟨xw_t wl_393 rfl rfl, List.forall_mem_cons.mpr ⟨xw_t wl_394 rfl rfl, List.forall_mem_cons.mpr ⟨xw_t wl_395 rfl rfl, List.forall_mem_cons.mpr ⟨xw_b, List.forall_mem_cons.mpr ⟨xw_d, List.forall_mem_cons.mpr ⟨xw_t wl_298 rfl rfl, List.forall_mem_cons.mpr ⟨xw_t wl_297 rfl rfl, List.forall_mem_cons.mpr ⟨xw_t wl_396 rfl rfl, fun _ h => absurd h List.not_mem_nil⟩⟩⟩⟩⟩⟩⟩⟩⟩⟩⟩⟩⟩⟩⟩
theorem xa_126_3 : ∀ w ∈ Bundle.ownAtoms "RouteHouse" 126 "java/lang/IllegalStateException" tb_nm9, xw_ w := List.forall_mem_append.mpr ⟨List.forall_mem_append.mpr ⟨xa_t, xa_c3⟩, List.forall_mem_cons.mpr ⟨xw_t wl_449 rfl rfl, List.forall_mem_cons.mpr ⟨xw_t wl_440 rfl rfl, List.forall_mem_cons.mpr ⟨xw_t wl_441 rfl rfl, List.forall_mem_cons.mpr ⟨xw_t wl_442 rfl rfl, List.forall_mem_cons.mpr ⟨xw_t wl_311 rfl rfl, List.forall_mem_cons.mpr ⟨xw_t wl_443 rfl rfl, List.forall_mem_cons.mpr ⟨xw_t wl_444 rfl rfl, List.forall_mem_cons.mpr ⟨xw_t wl_445 rfl rfl, List.forall_mem_cons.mpr ⟨xw_t wl_446 rfl rfl, List.forall_mem_cons.mpr ⟨xw_b, List.forall_mem_cons.mpr ⟨xw_d, List.forall_mem_cons.mpr ⟨xw_t wl_298 rfl rfl, List.forall_mem_cons.mpr ⟨xw_t wl_297 rfl rfl, List.forall_mem_cons.mpr ⟨xw_t wl_447 rfl rfl, fun _ h => absurd h List.not_mem_nil⟩⟩⟩⟩⟩⟩⟩⟩⟩⟩⟩⟩⟩⟩⟩
theorem xa_190_0 : ∀ w ∈ Bundle.ownAtoms "RouteHouse" 190 "java/lang/IndexOutOfBoundsException" tb_nm9, xw_ w := List.forall_mem_append.mpr ⟨List.forall_mem_append.mpr ⟨xa_t, xa_c0⟩, List.forall_mem_cons.mpr ⟨xw_t wl_320 rfl rfl, List.forall_mem_cons.mpr ⟨xw_t wl_278 rfl rfl, List.forall_mem_cons.mpr ⟨xw_t wl_279 rfl rfl, List.forall_mem_cons.mpr ⟨xw_t wl_286 rfl rfl, List.forall_mem_cons.mpr ⟨xw_t wl_287 rfl rfl, List.forall_mem_cons.mpr ⟨xw_t wl_288 rfl rfl, List.forall_mem_cons.mpr ⟨xw_t wl_290 rfl rfl, List.forall_mem_cons.mpr ⟨xw_t wl_292 rfl rfl, List.forall_mem_cons.mpr ⟨xw_t wl_294 rfl rfl, List.forall_mem_cons.mpr ⟨xw_b, List.forall_mem_cons.mpr ⟨xw_d, List.forall_mem_cons.mpr ⟨xw_t wl_298 rfl rfl, List.forall_mem_cons.mpr ⟨xw_t wl_297 rfl rfl, List.forall_mem_cons.mpr ⟨xw_t wl_296 rfl rfl, fun _ h => absurd h List.not_mem_nil⟩⟩⟩⟩⟩⟩⟩⟩⟩⟩⟩⟩⟩⟩⟩
def tb_th : List (Nat × Nat × Nat) := [(47, 18, 66), (49, 40, 93), (51, 9, 66), (52, 20, 122), (53, 15, 66), (54, 24, 66), (57, 10, 66), (58, 62, 66), (59, 22, 186), (61, 139, 66), (62, 10, 186), (63, 15, 186), (64, 10, 66)]
theorem ts_47_18 : sd_t 47 (tb_own 47) (tb_rs 47) (tb_b 47) 18 (.new 66) := fun _ => ⟨"java/lang/IllegalArgumentException", "no such mtu", tb_nm9, 68, 70, rfl, by decide +kernel, by decide +kernel, by decide +kernel, by decide +kernel, wl_345, wl_14, wl_346, by decide +kernel, fun U args h1 h2 w hw => xw_use h1 h2 (xa_70_1 w hw), by decide +kernel, by decide +kernel, by decide +kernel, by decide +kernel⟩
theorem ts_49_40 : sd_t 49 (tb_own 49) (tb_rs 49) (tb_b 49) 40 (.new 93) := fun _ => ⟨"java/lang/UnsupportedOperationException", "too many routes", tb_nm9, 95, 97, rfl, by decide +kernel, by decide +kernel, by decide +kernel, by decide +kernel, wl_388, wl_15, wl_389, by decide +kernel, fun U args h1 h2 w hw => xw_use h1 h2 (xa_97_2 w hw), by decide +kernel, by decide +kernel, by decide +kernel, by decide +kernel⟩
theorem ts_51_9 : sd_t 51 (tb_own 51) (tb_rs 51) (tb_b 51) 9 (.new 66) := fun _ => ⟨"java/lang/IllegalArgumentException", "no such question about a route", tb_nm9, 105, 70, rfl, by decide +kernel, by decide +kernel, by decide +kernel, by decide +kernel, wl_345, wl_14, wl_346, by decide +kernel, fun U args h1 h2 w hw => xw_use h1 h2 (xa_70_1 w hw), by decide +kernel, by decide +kernel, by decide +kernel, by decide +kernel⟩
theorem ts_52_20 : sd_t 52 (tb_own 52) (tb_rs 52) (tb_b 52) 20 (.new 122) := fun _ => ⟨"java/lang/IllegalStateException", "the tape is full", tb_nm9, 124, 126, rfl, by decide +kernel, by decide +kernel, by decide +kernel, by decide +kernel, wl_439, wl_16, wl_440, by decide +kernel, fun U args h1 h2 w hw => xw_use h1 h2 (xa_126_3 w hw), by decide +kernel, by decide +kernel, by decide +kernel, by decide +kernel⟩
theorem ts_53_15 : sd_t 53 (tb_own 53) (tb_rs 53) (tb_b 53) 15 (.new 66) := fun _ => ⟨"java/lang/IllegalArgumentException", "the tape has not so many bytes", tb_nm9, 137, 70, rfl, by decide +kernel, by decide +kernel, by decide +kernel, by decide +kernel, wl_345, wl_14, wl_346, by decide +kernel, fun U args h1 h2 w hw => xw_use h1 h2 (xa_70_1 w hw), by decide +kernel, by decide +kernel, by decide +kernel, by decide +kernel⟩
theorem ts_54_24 : sd_t 54 (tb_own 54) (tb_rs 54) (tb_b 54) 24 (.new 66) := fun _ => ⟨"java/lang/IllegalArgumentException", "no header of so many words", tb_nm9, 139, 70, rfl, by decide +kernel, by decide +kernel, by decide +kernel, by decide +kernel, wl_345, wl_14, wl_346, by decide +kernel, fun U args h1 h2 w hw => xw_use h1 h2 (xa_70_1 w hw), by decide +kernel, by decide +kernel, by decide +kernel, by decide +kernel⟩
theorem ts_57_10 : sd_t 57 (tb_own 57) (tb_rs 57) (tb_b 57) 10 (.new 66) := fun _ => ⟨"java/lang/IllegalArgumentException", "no such time to pass", tb_nm9, 176, 70, rfl, by decide +kernel, by decide +kernel, by decide +kernel, by decide +kernel, wl_345, wl_14, wl_346, by decide +kernel, fun U args h1 h2 w hw => xw_use h1 h2 (xa_70_1 w hw), by decide +kernel, by decide +kernel, by decide +kernel, by decide +kernel⟩
theorem ts_58_62 : sd_t 58 (tb_own 58) (tb_rs 58) (tb_b 58) 62 (.new 66) := fun _ => ⟨"java/lang/IllegalArgumentException", "no such question about a packet", tb_nm9, 184, 70, rfl, by decide +kernel, by decide +kernel, by decide +kernel, by decide +kernel, wl_345, wl_14, wl_346, by decide +kernel, fun U args h1 h2 w hw => xw_use h1 h2 (xa_70_1 w hw), by decide +kernel, by decide +kernel, by decide +kernel, by decide +kernel⟩
theorem ts_59_22 : sd_t 59 (tb_own 59) (tb_rs 59) (tb_b 59) 22 (.new 186) := fun _ => ⟨"java/lang/IndexOutOfBoundsException", "no such byte", tb_nm9, 188, 190, rfl, by decide +kernel, by decide +kernel, by decide +kernel, by decide +kernel, wl_277, wl_13, wl_278, by decide +kernel, fun U args h1 h2 w hw => xw_use h1 h2 (xa_190_0 w hw), by decide +kernel, by decide +kernel, by decide +kernel, by decide +kernel⟩
theorem ts_61_139 : sd_t 61 (tb_own 61) (tb_rs 61) (tb_b 61) 139 (.new 66) := fun _ => ⟨"java/lang/IllegalArgumentException", "no such question", tb_nm9, 209, 70, rfl, by decide +kernel, by decide +kernel, by decide +kernel, by decide +kernel, wl_345, wl_14, wl_346, by decide +kernel, fun U args h1 h2 w hw => xw_use h1 h2 (xa_70_1 w hw), by decide +kernel, by decide +kernel, by decide +kernel, by decide +kernel⟩
theorem ts_62_10 : sd_t 62 (tb_own 62) (tb_rs 62) (tb_b 62) 10 (.new 186) := fun _ => ⟨"java/lang/IndexOutOfBoundsException", "no such port", tb_nm9, 211, 190, rfl, by decide +kernel, by decide +kernel, by decide +kernel, by decide +kernel, wl_277, wl_13, wl_278, by decide +kernel, fun U args h1 h2 w hw => xw_use h1 h2 (xa_190_0 w hw), by decide +kernel, by decide +kernel, by decide +kernel, by decide +kernel⟩
theorem ts_63_15 : sd_t 63 (tb_own 63) (tb_rs 63) (tb_b 63) 15 (.new 186) := fun _ => ⟨"java/lang/IndexOutOfBoundsException", "no such packet", tb_nm9, 213, 190, rfl, by decide +kernel, by decide +kernel, by decide +kernel, by decide +kernel, wl_277, wl_13, wl_278, by decide +kernel, fun U args h1 h2 w hw => xw_use h1 h2 (xa_190_0 w hw), by decide +kernel, by decide +kernel, by decide +kernel, by decide +kernel⟩
theorem ts_64_10 : sd_t 64 (tb_own 64) (tb_rs 64) (tb_b 64) 10 (.new 66) := fun _ => ⟨"java/lang/IllegalArgumentException", "no such beginning", tb_nm9, 215, 70, rfl, by decide +kernel, by decide +kernel, by decide +kernel, by decide +kernel, wl_345, wl_14, wl_346, by decide +kernel, fun U args h1 h2 w hw => xw_use h1 h2 (xa_70_1 w hw), by decide +kernel, by decide +kernel, by decide +kernel, by decide +kernel⟩
theorem ts_all : ∀ q ∈ tb_th, sd_t q.1 (tb_own q.1) (tb_rs q.1) (tb_b q.1) q.2.1 (.new q.2.2) := List.forall_mem_cons.mpr ⟨ts_47_18, List.forall_mem_cons.mpr ⟨ts_49_40, List.forall_mem_cons.mpr ⟨ts_51_9, List.forall_mem_cons.mpr ⟨ts_52_20, List.forall_mem_cons.mpr ⟨ts_53_15, List.forall_mem_cons.mpr ⟨ts_54_24, List.forall_mem_cons.mpr ⟨ts_57_10, List.forall_mem_cons.mpr ⟨ts_58_62, List.forall_mem_cons.mpr ⟨ts_59_22, List.forall_mem_cons.mpr ⟨ts_61_139, List.forall_mem_cons.mpr ⟨ts_62_10, List.forall_mem_cons.mpr ⟨ts_63_15, List.forall_mem_cons.mpr ⟨ts_64_10, fun _ h => absurd h List.not_mem_nil⟩⟩⟩⟩⟩⟩⟩⟩⟩⟩⟩⟩⟩
end
section
section TableA
theorem lk_mem {α : Type} {z : α} : ∀ (l : List (Nat × α)) (x : Nat), tb_lk z l x = z ∨ (x, tb_lk z l x) ∈ l
  | [], _ => Or.inl rfl
  | q :: r, x => by
    unfold tb_lk
    cases h : Nat.beq q.1 x with
    | true =>
      have e : q.1 = x := Nat.eq_of_beq_eq_true h
      exact Or.inr (List.mem_cons.mpr (Or.inl (by rw [← e])))
    | false =>
      rcases lk_mem r x with h2 | h2
      · exact Or.inl h2
      · exact Or.inr (List.mem_cons_of_mem _ h2)
theorem lr_all : ∀ c : Nat, ∀ q ∈ tb_rcs.getD c [], lf c q.1 q.2

  | 0 => lr_0
  | 1 => lr_1
  | 2 => lr_2
  | 3 => lr_3
  | 4 => lr_4
  | 5 => lr_5
  | 6 => lr_6
  | 7 => lr_7
  | 8 => lr_8
  | 9 => lr_9
  | n + 10 => fun _ h => absurd h (by simp [tb_rcs])
theorem lf_k (k x : Nat) : lf (tb_ci k) x (tb_rs k x) := by
  rcases lk_mem (z := ((0, 0, 0, 0) : tb_R)) (tb_rcs.getD (tb_ci k) []) x with h | h
  · have e : tb_rs k x = (0, 0, 0, 0) := h
    rw [e]
    exact ⟨nofun, nofun, nofun, nofun, nofun, nofun, nofun, nofun⟩
  · exact lr_all _ _ h
def ck_2 (k kd x : Nat) : Bool := decide ((tb_rs k x).1 ≠ 2) || (decide ((tb_rs k x).2.2.1 = kd) && decide (tb_rf (tb_rs k x).2.1 + 1 ≤ tb_rf k) && decide (8 + (tb_ml (tb_rs k x).2.1 + 11) + tb_rl (tb_rs k x).2.1 ≤ tb_rl k))
def ck_i (k pc : Nat) (i : Instr) : Bool := match i with
  | .putfield x => decide ((tb_rs k x).1 ≠ 1) || (match vwCl[(tb_rs k x).2.1]? with
    | some r => !(r.2.1 (tb_rs k x).2.2.1).2.2.2 || (decide ((tb_y k).name = "<init>") && decide ((r.2.1 (tb_rs k x).2.2.1).1 = tb_own k))
    | none => false)
  | .invokevirtual x => ck_2 k 1 x
  | .invokespecial x => ck_2 k 2 x
  | .invokestatic x => ck_2 k 0 x
  | .new x => decide ((tb_rs k x).1 ≠ 9) || decide ((k, pc, x) ∈ tb_th)
  | .newarray y => decide (64 ≤ ev_at y)
  | .anewarray x => decide ((tb_rs k x).1 ≠ 3) || decide (ev_cn (tb_rs k x).2.1 ∈ tb_ao)
  | _ => true
def ck_d (b : ByteArray) (pc : Nat) (i : Instr) : Bool := match decode b pc with
  | .ok r => decide (r.1 = i) && (decide (r.2 = ev_len i) || ev_sw i)
  | _ => false
def ck_q (k : Nat) (q : Nat × Option Instr) : Bool := match q.2 with
  | some i => ck_d (tb_b k) q.1 i && ck_i k q.1 i
  | none => false

end TableA
end
section
theorem ck_0 : (List.range' 0 5).all (fun k => (tb_cs.getD k []).all (ck_q k)) = true := by decide +kernel
theorem ck_5 : (List.range' 5 1).all (fun k => (tb_cs.getD k []).all (ck_q k)) = true := by decide +kernel
theorem ck_6 : (List.range' 6 9).all (fun k => (tb_cs.getD k []).all (ck_q k)) = true := by decide +kernel
theorem ck_15 : (List.range' 15 7).all (fun k => (tb_cs.getD k []).all (ck_q k)) = true := by decide +kernel
theorem ck_22 : (List.range' 22 6).all (fun k => (tb_cs.getD k []).all (ck_q k)) = true := by decide +kernel
theorem ck_28 : (List.range' 28 4).all (fun k => (tb_cs.getD k []).all (ck_q k)) = true := by decide +kernel
end
section
theorem ck_32 : (List.range' 32 4).all (fun k => (tb_cs.getD k []).all (ck_q k)) = true := by decide +kernel
theorem ck_36 : (List.range' 36 3).all (fun k => (tb_cs.getD k []).all (ck_q k)) = true := by decide +kernel
theorem ck_39 : (List.range' 39 5).all (fun k => (tb_cs.getD k []).all (ck_q k)) = true := by decide +kernel
theorem ck_44 : (List.range' 44 5).all (fun k => (tb_cs.getD k []).all (ck_q k)) = true := by decide +kernel
theorem ck_49 : (List.range' 49 3).all (fun k => (tb_cs.getD k []).all (ck_q k)) = true := by decide +kernel
theorem ck_52 : (List.range' 52 4).all (fun k => (tb_cs.getD k []).all (ck_q k)) = true := by decide +kernel
end
section
theorem ck_56 : (List.range' 56 5).all (fun k => (tb_cs.getD k []).all (ck_q k)) = true := by decide +kernel
theorem ck_61 : (List.range' 61 6).all (fun k => (tb_cs.getD k []).all (ck_q k)) = true := by decide +kernel
theorem ck_67 : (List.range' 67 1).all (fun k => (tb_cs.getD k []).all (ck_q k)) = true := by decide +kernel
theorem ck_68 : (List.range' 68 1).all (fun k => (tb_cs.getD k []).all (ck_q k)) = true := by decide +kernel
theorem ck_69 : (List.range' 69 2).all (fun k => (tb_cs.getD k []).all (ck_q k)) = true := by decide +kernel
theorem ck_71 : (List.range' 71 2).all (fun k => (tb_cs.getD k []).all (ck_q k)) = true := by decide +kernel
theorem ck_73 : (List.range' 73 4).all (fun k => (tb_cs.getD k []).all (ck_q k)) = true := by decide +kernel
end
section
theorem ck_77 : (List.range' 77 4).all (fun k => (tb_cs.getD k []).all (ck_q k)) = true := by decide +kernel
theorem ck_81 : (List.range' 81 2).all (fun k => (tb_cs.getD k []).all (ck_q k)) = true := by decide +kernel
theorem ck_83 : (List.range' 83 3).all (fun k => (tb_cs.getD k []).all (ck_q k)) = true := by decide +kernel
theorem ck_86 : (List.range' 86 7).all (fun k => (tb_cs.getD k []).all (ck_q k)) = true := by decide +kernel
theorem ck_93 : (List.range' 93 2).all (fun k => (tb_cs.getD k []).all (ck_q k)) = true := by decide +kernel
theorem ck_95 : (List.range' 95 1).all (fun k => (tb_cs.getD k []).all (ck_q k)) = true := by decide +kernel
end
section
theorem ck_96 : (List.range' 96 2).all (fun k => (tb_cs.getD k []).all (ck_q k)) = true := by decide +kernel
theorem ck_98 : (List.range' 98 1).all (fun k => (tb_cs.getD k []).all (ck_q k)) = true := by decide +kernel
theorem ck_99 : (List.range' 99 1).all (fun k => (tb_cs.getD k []).all (ck_q k)) = true := by decide +kernel
theorem ck_100 : (List.range' 100 1).all (fun k => (tb_cs.getD k []).all (ck_q k)) = true := by decide +kernel
theorem ck_101 : (List.range' 101 4).all (fun k => (tb_cs.getD k []).all (ck_q k)) = true := by decide +kernel
end
section
theorem ck_105 : (List.range' 105 1).all (fun k => (tb_cs.getD k []).all (ck_q k)) = true := by decide +kernel
theorem ck_106 : (List.range' 106 3).all (fun k => (tb_cs.getD k []).all (ck_q k)) = true := by decide +kernel
theorem ck_109 : (List.range' 109 1).all (fun k => (tb_cs.getD k []).all (ck_q k)) = true := by decide +kernel
theorem ck_110 : (List.range' 110 1).all (fun k => (tb_cs.getD k []).all (ck_q k)) = true := by decide +kernel
theorem ck_111 : (List.range' 111 1).all (fun k => (tb_cs.getD k []).all (ck_q k)) = true := by decide +kernel
end
section
theorem ck_112 : (List.range' 112 2).all (fun k => (tb_cs.getD k []).all (ck_q k)) = true := by decide +kernel
theorem ck_114 : (List.range' 114 4).all (fun k => (tb_cs.getD k []).all (ck_q k)) = true := by decide +kernel
theorem ck_118 : (List.range' 118 5).all (fun k => (tb_cs.getD k []).all (ck_q k)) = true := by decide +kernel
theorem ck_123 : (List.range' 123 1).all (fun k => (tb_cs.getD k []).all (ck_q k)) = true := by decide +kernel
end
section
section TableA
theorem ck_all : ∀ k, k < 124 → (tb_cs.getD k []).all (ck_q k) = true := by
  intro k hk
  rcases (show (0 ≤ k ∧ k < 5) ∨ (5 ≤ k ∧ k < 6) ∨ (6 ≤ k ∧ k < 15) ∨ (15 ≤ k ∧ k < 22) ∨ (22 ≤ k ∧ k < 28) ∨ (28 ≤ k ∧ k < 32) ∨ (32 ≤ k ∧ k < 36) ∨ (36 ≤ k ∧ k < 39) ∨ (39 ≤ k ∧ k < 44) ∨ (44 ≤ k ∧ k < 49) ∨ (49 ≤ k ∧ k < 52) ∨ (52 ≤ k ∧ k < 56) ∨ (56 ≤ k ∧ k < 61) ∨ (61 ≤ k ∧ k < 67) ∨ (67 ≤ k ∧ k < 68) ∨ (68 ≤ k ∧ k < 69) ∨ (69 ≤ k ∧ k < 71) ∨ (71 ≤ k ∧ k < 73) ∨ (73 ≤ k ∧ k < 77) ∨ (77 ≤ k ∧ k < 81) ∨ (81 ≤ k ∧ k < 83) ∨ (83 ≤ k ∧ k < 86) ∨ (86 ≤ k ∧ k < 93) ∨ (93 ≤ k ∧ k < 95) ∨ (95 ≤ k ∧ k < 96) ∨ (96 ≤ k ∧ k < 98) ∨ (98 ≤ k ∧ k < 99) ∨ (99 ≤ k ∧ k < 100) ∨ (100 ≤ k ∧ k < 101) ∨ (101 ≤ k ∧ k < 105) ∨ (105 ≤ k ∧ k < 106) ∨ (106 ≤ k ∧ k < 109) ∨ (109 ≤ k ∧ k < 110) ∨ (110 ≤ k ∧ k < 111) ∨ (111 ≤ k ∧ k < 112) ∨ (112 ≤ k ∧ k < 114) ∨ (114 ≤ k ∧ k < 118) ∨ (118 ≤ k ∧ k < 123) ∨ (123 ≤ k ∧ k < 124) by omega) with ⟨h1, h2⟩ | ⟨h1, h2⟩ | ⟨h1, h2⟩ | ⟨h1, h2⟩ | ⟨h1, h2⟩ | ⟨h1, h2⟩ | ⟨h1, h2⟩ | ⟨h1, h2⟩ | ⟨h1, h2⟩ | ⟨h1, h2⟩ | ⟨h1, h2⟩ | ⟨h1, h2⟩ | ⟨h1, h2⟩ | ⟨h1, h2⟩ | ⟨h1, h2⟩ | ⟨h1, h2⟩ | ⟨h1, h2⟩ | ⟨h1, h2⟩ | ⟨h1, h2⟩ | ⟨h1, h2⟩ | ⟨h1, h2⟩ | ⟨h1, h2⟩ | ⟨h1, h2⟩ | ⟨h1, h2⟩ | ⟨h1, h2⟩ | ⟨h1, h2⟩ | ⟨h1, h2⟩ | ⟨h1, h2⟩ | ⟨h1, h2⟩ | ⟨h1, h2⟩ | ⟨h1, h2⟩ | ⟨h1, h2⟩ | ⟨h1, h2⟩ | ⟨h1, h2⟩ | ⟨h1, h2⟩ | ⟨h1, h2⟩ | ⟨h1, h2⟩ | ⟨h1, h2⟩ | ⟨h1, h2⟩
  · exact List.all_eq_true.mp ck_0 k (List.mem_range'_1.mpr ⟨h1, h2⟩)
  · exact List.all_eq_true.mp ck_5 k (List.mem_range'_1.mpr ⟨h1, h2⟩)
  · exact List.all_eq_true.mp ck_6 k (List.mem_range'_1.mpr ⟨h1, h2⟩)
  · exact List.all_eq_true.mp ck_15 k (List.mem_range'_1.mpr ⟨h1, h2⟩)
  · exact List.all_eq_true.mp ck_22 k (List.mem_range'_1.mpr ⟨h1, h2⟩)
  · exact List.all_eq_true.mp ck_28 k (List.mem_range'_1.mpr ⟨h1, h2⟩)
  · exact List.all_eq_true.mp ck_32 k (List.mem_range'_1.mpr ⟨h1, h2⟩)
  · exact List.all_eq_true.mp ck_36 k (List.mem_range'_1.mpr ⟨h1, h2⟩)
  · exact List.all_eq_true.mp ck_39 k (List.mem_range'_1.mpr ⟨h1, h2⟩)
  · exact List.all_eq_true.mp ck_44 k (List.mem_range'_1.mpr ⟨h1, h2⟩)
  · exact List.all_eq_true.mp ck_49 k (List.mem_range'_1.mpr ⟨h1, h2⟩)
  · exact List.all_eq_true.mp ck_52 k (List.mem_range'_1.mpr ⟨h1, h2⟩)
  · exact List.all_eq_true.mp ck_56 k (List.mem_range'_1.mpr ⟨h1, h2⟩)
  · exact List.all_eq_true.mp ck_61 k (List.mem_range'_1.mpr ⟨h1, h2⟩)
  · exact List.all_eq_true.mp ck_67 k (List.mem_range'_1.mpr ⟨h1, h2⟩)
  · exact List.all_eq_true.mp ck_68 k (List.mem_range'_1.mpr ⟨h1, h2⟩)
  · exact List.all_eq_true.mp ck_69 k (List.mem_range'_1.mpr ⟨h1, h2⟩)
  · exact List.all_eq_true.mp ck_71 k (List.mem_range'_1.mpr ⟨h1, h2⟩)
  · exact List.all_eq_true.mp ck_73 k (List.mem_range'_1.mpr ⟨h1, h2⟩)
  · exact List.all_eq_true.mp ck_77 k (List.mem_range'_1.mpr ⟨h1, h2⟩)
  · exact List.all_eq_true.mp ck_81 k (List.mem_range'_1.mpr ⟨h1, h2⟩)
  · exact List.all_eq_true.mp ck_83 k (List.mem_range'_1.mpr ⟨h1, h2⟩)
  · exact List.all_eq_true.mp ck_86 k (List.mem_range'_1.mpr ⟨h1, h2⟩)
  · exact List.all_eq_true.mp ck_93 k (List.mem_range'_1.mpr ⟨h1, h2⟩)
  · exact List.all_eq_true.mp ck_95 k (List.mem_range'_1.mpr ⟨h1, h2⟩)
  · exact List.all_eq_true.mp ck_96 k (List.mem_range'_1.mpr ⟨h1, h2⟩)
  · exact List.all_eq_true.mp ck_98 k (List.mem_range'_1.mpr ⟨h1, h2⟩)
  · exact List.all_eq_true.mp ck_99 k (List.mem_range'_1.mpr ⟨h1, h2⟩)
  · exact List.all_eq_true.mp ck_100 k (List.mem_range'_1.mpr ⟨h1, h2⟩)
  · exact List.all_eq_true.mp ck_101 k (List.mem_range'_1.mpr ⟨h1, h2⟩)
  · exact List.all_eq_true.mp ck_105 k (List.mem_range'_1.mpr ⟨h1, h2⟩)
  · exact List.all_eq_true.mp ck_106 k (List.mem_range'_1.mpr ⟨h1, h2⟩)
  · exact List.all_eq_true.mp ck_109 k (List.mem_range'_1.mpr ⟨h1, h2⟩)
  · exact List.all_eq_true.mp ck_110 k (List.mem_range'_1.mpr ⟨h1, h2⟩)
  · exact List.all_eq_true.mp ck_111 k (List.mem_range'_1.mpr ⟨h1, h2⟩)
  · exact List.all_eq_true.mp ck_112 k (List.mem_range'_1.mpr ⟨h1, h2⟩)
  · exact List.all_eq_true.mp ck_114 k (List.mem_range'_1.mpr ⟨h1, h2⟩)
  · exact List.all_eq_true.mp ck_118 k (List.mem_range'_1.mpr ⟨h1, h2⟩)
  · exact List.all_eq_true.mp ck_123 k (List.mem_range'_1.mpr ⟨h1, h2⟩)
theorem ck_y : (List.range 124).all (fun k => plainName (tb_y k).cls && decide (1 ≤ tb_rf k) && decide (60 ≤ tb_rl k)) = true := by decide +kernel
end TableA
section TableB
theorem cl_0 : tb_nf 0 = 5 ∧ (∀ k, k < 5 → parseFieldDescriptor (tf_0 k).2.2.1 = some (tb_ft 0 k)) ∧ (∀ a, a < 5 → ∀ b, b < 5 → a ≠ b → (tf_0 a).2.1 ≠ (tf_0 b).2.1) ∧ (∀ k, k < 5 → ev_rr (tb_ft 0 k) = true ∨ defaultValue (tb_ft 0 k) = .int 0) := ⟨by decide +kernel, by decide +kernel, by decide +kernel, by decide +kernel⟩
theorem cl_1 : tb_nf 1 = 8 ∧ (∀ k, k < 8 → parseFieldDescriptor (tf_1 k).2.2.1 = some (tb_ft 1 k)) ∧ (∀ a, a < 8 → ∀ b, b < 8 → a ≠ b → (tf_1 a).2.1 ≠ (tf_1 b).2.1) ∧ (∀ k, k < 8 → ev_rr (tb_ft 1 k) = true ∨ defaultValue (tb_ft 1 k) = .int 0) := ⟨by decide +kernel, by decide +kernel, by decide +kernel, by decide +kernel⟩
theorem cl_2 : tb_nf 2 = 2 ∧ (∀ k, k < 2 → parseFieldDescriptor (tf_2 k).2.2.1 = some (tb_ft 2 k)) ∧ (∀ a, a < 2 → ∀ b, b < 2 → a ≠ b → (tf_2 a).2.1 ≠ (tf_2 b).2.1) ∧ (∀ k, k < 2 → ev_rr (tb_ft 2 k) = true ∨ defaultValue (tb_ft 2 k) = .int 0) := ⟨by decide +kernel, by decide +kernel, by decide +kernel, by decide +kernel⟩
theorem cl_3 : tb_nf 3 = 3 ∧ (∀ k, k < 3 → parseFieldDescriptor (tf_3 k).2.2.1 = some (tb_ft 3 k)) ∧ (∀ a, a < 3 → ∀ b, b < 3 → a ≠ b → (tf_3 a).2.1 ≠ (tf_3 b).2.1) ∧ (∀ k, k < 3 → ev_rr (tb_ft 3 k) = true ∨ defaultValue (tb_ft 3 k) = .int 0) := ⟨by decide +kernel, by decide +kernel, by decide +kernel, by decide +kernel⟩
theorem cl_4 : tb_nf 4 = 5 ∧ (∀ k, k < 5 → parseFieldDescriptor (tf_4 k).2.2.1 = some (tb_ft 4 k)) ∧ (∀ a, a < 5 → ∀ b, b < 5 → a ≠ b → (tf_4 a).2.1 ≠ (tf_4 b).2.1) ∧ (∀ k, k < 5 → ev_rr (tb_ft 4 k) = true ∨ defaultValue (tb_ft 4 k) = .int 0) := ⟨by decide +kernel, by decide +kernel, by decide +kernel, by decide +kernel⟩
theorem cl_5 : tb_nf 5 = 13 ∧ (∀ k, k < 13 → parseFieldDescriptor (tf_5 k).2.2.1 = some (tb_ft 5 k)) ∧ (∀ a, a < 13 → ∀ b, b < 13 → a ≠ b → (tf_5 a).2.1 ≠ (tf_5 b).2.1) ∧ (∀ k, k < 13 → ev_rr (tb_ft 5 k) = true ∨ defaultValue (tb_ft 5 k) = .int 0) := ⟨by decide +kernel, by decide +kernel, by decide +kernel, by decide +kernel⟩
theorem cl_6 : tb_nf 6 = 2 ∧ (∀ k, k < 2 → parseFieldDescriptor (tf_6 k).2.2.1 = some (tb_ft 6 k)) ∧ (∀ a, a < 2 → ∀ b, b < 2 → a ≠ b → (tf_6 a).2.1 ≠ (tf_6 b).2.1) ∧ (∀ k, k < 2 → ev_rr (tb_ft 6 k) = true ∨ defaultValue (tb_ft 6 k) = .int 0) := ⟨by decide +kernel, by decide +kernel, by decide +kernel, by decide +kernel⟩
theorem cl_7 : tb_nf 7 = 11 ∧ (∀ k, k < 11 → parseFieldDescriptor (tf_7 k).2.2.1 = some (tb_ft 7 k)) ∧ (∀ a, a < 11 → ∀ b, b < 11 → a ≠ b → (tf_7 a).2.1 ≠ (tf_7 b).2.1) ∧ (∀ k, k < 11 → ev_rr (tb_ft 7 k) = true ∨ defaultValue (tb_ft 7 k) = .int 0) := ⟨by decide +kernel, by decide +kernel, by decide +kernel, by decide +kernel⟩
theorem cl_8 : tb_nf 8 = 43 ∧ (∀ k, k < 43 → parseFieldDescriptor (tf_8 k).2.2.1 = some (tb_ft 8 k)) ∧ (∀ a, a < 43 → ∀ b, b < 43 → a ≠ b → (tf_8 a).2.1 ≠ (tf_8 b).2.1) ∧ (∀ k, k < 43 → ev_rr (tb_ft 8 k) = true ∨ defaultValue (tb_ft 8 k) = .int 0) := ⟨by decide +kernel, by decide +kernel, by decide +kernel, by decide +kernel⟩
theorem cl_all : sd_cl := by
  intro ci C T N h
  have hlt : ci < 9 := (List.getElem?_eq_some_iff.mp h).1
  rcases (show ci = 0 ∨ ci = 1 ∨ ci = 2 ∨ ci = 3 ∨ ci = 4 ∨ ci = 5 ∨ ci = 6 ∨ ci = 7 ∨ ci = 8 by omega) with rfl | rfl | rfl | rfl | rfl | rfl | rfl | rfl | rfl
  · cases h; exact ⟨by decide, cl_0⟩
  · cases h; exact ⟨by decide, cl_1⟩
  · cases h; exact ⟨by decide, cl_2⟩
  · cases h; exact ⟨by decide, cl_3⟩
  · cases h; exact ⟨by decide, cl_4⟩
  · cases h; exact ⟨by decide, cl_5⟩
  · cases h; exact ⟨by decide, cl_6⟩
  · cases h; exact ⟨by decide, cl_7⟩
  · cases h; exact ⟨by decide, cl_8⟩
set_option maxHeartbeats 2000000 in
theorem tb_true : sd_tb := by
  refine ⟨cl_all, fun w hw => good_of_word (List.mem_filter.mp hw).2, fun k hk => ?_⟩
  have hk : k < 124 := of_decide_eq_true hk
  have hy := List.all_eq_true.mp ck_y k (List.mem_range.mpr hk)
  simp only [Bool.and_eq_true, decide_eq_true_eq] at hy
  have hq : ∀ pc i, tb_ins k pc = some i → ck_d (tb_b k) pc i = true ∧ ck_i k pc i = true := by
    intro pc i hi
    rcases lk_mem (z := (none : Option Instr)) (tb_cs.getD k []) pc with h | h
    · have h9 : tb_ins k pc = none := h
      rw [hi] at h9; cases h9
    · have h9 : tb_lk none (tb_cs.getD k []) pc = some i := hi
      rw [h9] at h
      have h8 := List.all_eq_true.mp (ck_all k hk) _ h
      simp only [ck_q, Bool.and_eq_true] at h8
      exact h8
  refine ⟨hy.1.1, rfl, ⟨hy.1.2, hy.2⟩, fun pc i hi => ?_, fun args s hts ha pc i hi => ?_⟩
  · have h1 := (hq pc i hi).1
    unfold ck_d at h1
    split at h1
    · rename_i r hr
      simp only [Bool.and_eq_true, Bool.or_eq_true, decide_eq_true_eq] at h1
      obtain ⟨h2, h3⟩ := h1
      refine ⟨r.2, ?_, h3⟩
      rw [hr, ← h2]
    · cases h1
  · have h1 := (hq pc i hi).2
    have hall : ∀ w ∈ tb_all, w.before args s = true := fun w h => hts w (List.mem_cons_of_mem _ h)
    have hin : ∀ w, w ∈ tb_all → w ∈ sd_ws k := fun w h => List.mem_cons_of_mem _ h
    have hmt : ∀ (x kd : Nat), ck_2 k kd x = true → (tb_rs k x).1 = 2 → (tb_rs k x).2.2.1 = kd ∧ sd_B k (tb_rs k x).2.1 (tb_own k) args s x ∧ lf_m (tb_rs k x).2.1 kd := by
      intro x kd h2 h3
      obtain ⟨h4, h5⟩ := (lf_k k x).2.1 h3
      unfold ck_2 at h2
      simp only [h3, ne_eq, not_true_eq_false, decide_false, Bool.false_or, Bool.and_eq_true, decide_eq_true_eq] at h2
      obtain ⟨⟨h6, h7⟩, h8⟩ := h2
      rw [h6] at h5
      obtain ⟨g1, g2, g3, g4, g5⟩ := id h5
      exact ⟨h6, ⟨g1, hall _ h4, hall _ g2, g3, g4, h7, h8⟩, h5⟩
    refine ⟨?_, ?_, ?_⟩
    · cases i with
      | ldc x => exact fun h => hall _ ((lf_k k x).2.2.2.1 h)
      | ldc_w x => exact fun h => hall _ ((lf_k k x).2.2.2.1 h)
      | getfield x =>
        intro h
        obtain ⟨C, T, N, h2, h3, h4, h5⟩ := (lf_k k x).1 h
        exact ⟨C, T, N, _, h2, h3, fun w hw => hin w (h4 w hw), Or.inl (hall _ h5), fun _ h9 => h9⟩
      | putfield x =>
        intro h
        obtain ⟨C, T, N, h2, h3, h4, h5⟩ := (lf_k k x).1 h
        refine ⟨C, T, N, _, h2, h3, fun w hw => hin w (h4 w hw), ?_, fun _ h9 => h9⟩
        simp only [ck_i, h, ne_eq, not_true_eq_false, decide_false, Bool.false_or] at h1
        rw [h2] at h1
        simp only [Bool.or_eq_true, Bool.not_eq_true', Bool.and_eq_true, decide_eq_true_eq] at h1
        cases hf : (T (tb_rs k x).2.2.1).2.2.2 with
        | false => exact Or.inl ⟨rfl, Or.inl (hall _ h5)⟩
        | true =>
          rw [hf] at h1
          rcases h1 with h1 | h1
          · cases h1
          · exact Or.inr ⟨rfl, h1.1, h1.2, hall _ h5⟩
      | newarray y =>
        cases y with
        | int => exact hall _ fx_int
        | byte => exact hall _ fx_byte
        | boolean => exact hall _ fx_boolean
        | _ => simp [ck_i, ev_at] at h1
      | anewarray x =>
        intro h
        obtain ⟨C, T, h2, h3, h4, h5, h6⟩ := (lf_k k x).2.2.1 h
        refine ⟨C, T, _, h2, hall _ h4, ha.2 C ?_⟩
        simp only [ck_i, h, ne_eq, not_true_eq_false, decide_false, Bool.false_or, decide_eq_true_eq] at h1
        have e : ev_cn (tb_rs k x).2.1 = C := by unfold ev_cn; rw [h2]
        rw [← e]; exact h1
      | new x =>
        intro h
        obtain ⟨C, T, h2, h3, h4, h5, h6⟩ := (lf_k k x).2.2.1 h
        exact ⟨C, T, h2, fun w hw => hin w (h3 w hw), hall _ h4, hall _ h5, hall _ h6⟩
      | invokespecial x => exact fun h => ⟨hall _ ((lf_k k x).2.2.2.2.2.2.2 h), hall _ fx_objM, hall _ fx_objC⟩
      | invokestatic x =>
        exact ⟨fun h => ⟨hall _ ((lf_k k x).2.2.2.2.1 h), hall _ fx_arrN, hall _ fx_arrS, hall _ fx_arrI⟩, fun h => ⟨hall _ ((lf_k k x).2.2.2.2.2.1 h), hall _ fx_maxS, hall _ fx_matI, hall _ fx_maxC⟩, fun h => ⟨hall _ ((lf_k k x).2.2.2.2.2.2.1 h), hall _ fx_minS, hall _ fx_matI, hall _ fx_minC⟩⟩
      | _ => exact trivial
    · cases i with
      | invokevirtual x =>
        intro h
        obtain ⟨-, h3, h4⟩ := hmt x 1 h1 h
        obtain ⟨g1, g2, g3⟩ := h4.2.2.2.2.2.1 rfl
        exact ⟨h3, g1, hall _ g2, hall _ g3⟩
      | invokespecial x =>
        intro h
        obtain ⟨-, h3, h4⟩ := hmt x 2 h1 h
        obtain ⟨g1, g2, g3⟩ := h4.2.2.2.2.2.2 rfl
        exact ⟨h3, g1, g2, hall _ g3⟩
      | invokestatic x =>
        intro h
        obtain ⟨-, h3, h4⟩ := hmt x 0 h1 h
        exact ⟨h3, hall _ (h4.2.2.2.2.1 rfl)⟩
      | _ => exact trivial
    · cases i with
      | new x =>
        intro h
        simp only [ck_i, h, ne_eq, not_true_eq_false, decide_false, Bool.false_or, decide_eq_true_eq] at h1
        exact ts_all _ h1 h
      | _ => exact trivial
end TableB
end
section
section CatchA
variable {e : Env} {d : Bool} {acts : List Action} {f : JFrame} {a : Addr}
-- one row of the table, her class linked at this moment
theorem sc_row {s : State} {Q : Handler → Pre} {E : CtlPost} {x : ExceptionTableEntry} {t : List ExceptionTableEntry} {c : ClassId} {cell : Cell} (hx : covers x f.pc = true) (h0 : x.catchType ≠ 0) (hl : s.vm.ClassLinks e.platform f.method.cls x.catchType c) (hcell : s.heap[a]? = some cell) (hobj : cell.vm = .none)
    (hk : ∃ k, s.vm.classes[cell.cls]? = some k) (hc : ∃ k, s.vm.classes[c]? = some k) :
    wp (findHandler.go f a (x :: t)) Q E e d acts s ↔ if s.vm.assignable cell.cls c = true then Q (.found x.handlerPc) d acts (s.setVm (s.vm.noted f.method.cls x.catchType (.cls c))) else wp (findHandler.go f a t) Q E e d acts (s.setVm (s.vm.noted f.method.cls x.catchType (.cls c))) := by
  simp only [covers] at hx
  obtain ⟨h1, h2⟩ := (resolveClass_links e.toSetting hl).op (op := VmOp.resolveClass f.method.cls x.catchType) rfl
  have hal : s.vm.Alike (s.vm.noted f.method.cls x.catchType (.cls c)) := (Vm.Alike.refl s.vm).noted _ _ _
  obtain ⟨k1, hk1⟩ := hk
  obtain ⟨k2, hk2⟩ := hc
  obtain ⟨k3, hk3, -⟩ := hal.2.2 _ _ hk1
  obtain ⟨k4, hk4, -⟩ := hal.2.2 _ _ hk2
  have hob : ∀ k, cell.vm ≠ .statics k := fun k h => by rw [hobj] at h; cases h
  have e9 := hal.assignable cell.cls c
  cases hfit : s.vm.assignable cell.cls c with
  | true => rw [hfit] at e9; simp [findHandler.go, hx, h0, h1, h2, hcell, hob, hk3, hk4, e9, VmOp.dirties, VmOp.acts]
  | false => rw [hfit] at e9; simp [findHandler.go, hx, h0, h1, h2, hcell, hob, hk3, hk4, e9, VmOp.dirties, VmOp.acts]
-- rows that let it pass, then the one that takes it
def sc_no (pl : Platform) (s : State) (dc : ClassId) (pc : Nat) (th : ClassId) (fit : Bool) (y : ExceptionTableEntry) : Prop := covers y pc = true ∧ y.catchType ≠ 0 ∧ ∃ c, s.vm.ClassLinks pl dc y.catchType c ∧ s.vm.assignable th c = fit
theorem sc_go {s : State} {cell : Cell} (hobj : cell.vm = .none) (hk0 : ∃ k, s.vm.classes[cell.cls]? = some k) {x : ExceptionTableEntry} {rest : List ExceptionTableEntry} (hx : sc_no e.platform s f.method.cls f.pc cell.cls true x) :
    ∀ (pre : List ExceptionTableEntry) (S : State), s.WarmedH S.vm → S.heap[a]? = some cell → (∀ y ∈ pre, sc_no e.platform s f.method.cls f.pc cell.cls false y) →
      ∃ v : Vm, s.WarmedH v ∧ ∀ (Q : Handler → Pre) (E : CtlPost) (d : Bool) (acts : List Action), wp (findHandler.go f a (pre ++ x :: rest)) Q E e d acts S ↔ Q (.found x.handlerPc) d acts (S.setVm v) := by
  have one : ∀ (y : ExceptionTableEntry) (b : Bool) (S : State), s.WarmedH S.vm → S.heap[a]? = some cell → sc_no e.platform s f.method.cls f.pc cell.cls b y →
      ∃ v : Vm, s.WarmedH v ∧ ∀ (t : List ExceptionTableEntry) (Q : Handler → Pre) (E : CtlPost) (d : Bool) (acts : List Action), wp (findHandler.go f a (y :: t)) Q E e d acts S ↔ if b = true then Q (.found y.handlerPc) d acts (S.setVm v) else wp (findHandler.go f a t) Q E e d acts (S.setVm v) := by
    intro y b S hW hcell hy
    obtain ⟨h1, h2, c, hl, hfit⟩ := hy
    obtain ⟨dk, _, _, kt, hd, _, _, _, _, hkt, _, hopen⟩ := hl.here
    obtain ⟨k0, hk0⟩ := hk0
    obtain ⟨k1, hk1, -⟩ := hW.alike.2.2 _ _ hk0
    obtain ⟨k2, hk2, -⟩ := hW.alike.2.2 _ _ hkt
    refine ⟨_, hW.noted hd hopen (State.rightAt_cls hl), fun t Q E d acts => ?_⟩
    rw [sc_row h1 h2 (hW.classLinks hl) hcell hobj ⟨k1, hk1⟩ ⟨k2, hk2⟩, hW.alike.assignable, hfit]
  intro pre
  induction pre with
  | nil =>
    intro S hW hcell _
    obtain ⟨v, h1, h2⟩ := one x true S hW hcell hx
    exact ⟨v, h1, fun Q E d acts => by rw [List.nil_append, h2]; simp⟩
  | cons y ys ih =>
    intro S hW hcell hp
    obtain ⟨v, h1, h2⟩ := one y false S hW hcell (hp y (List.mem_cons_self ..))
    obtain ⟨v2, h3, h4⟩ := ih (S.setVm v) h1 hcell (fun z hz => hp z (List.mem_cons_of_mem _ hz))
    exact ⟨v2, h3, fun Q E d acts => by rw [List.cons_append, h2]; simp only [Bool.false_eq_true, if_false]; rw [h4]; rfl⟩
end CatchA
section CatchB
variable {p : Program} {l : Launch} {e : Env} {R : Room} {s : State} {m : MethodId} {args : Array Value} {below : List Frame} {meth : Method} {c : Code} {H : Heap} {locs : List Loc} {cells slots : Nat} {Q : State → Prop}
theorem sc_step {S : State} {a : Addr} {g : JFrame} {r : List Frame} {pc : Nat} {v : Vm} (hf : ∀ (Q : Handler → Pre) (E : CtlPost) (d : Bool) (acts : List Action), wp (findHandler g a) Q E e d acts S ↔ Q (.found pc) d acts (S.setVm v)) :
    (stepThrowing e S a (.java g :: r)).Is ((S.setVm v).setFrames (.java { g with pc := pc, stack := [.ref a] } :: r)) [] := by
  simp only [stepThrowing, searchFrame, vmDo]
  generalize hr : Sem.go _ e false [] S = res
  obtain ⟨as, rfl, ha⟩ := Sem.eq_ok_of hr (a := Handler.found pc) (s' := S.setVm v) (acts' := []) (by simp [hf _ _ _ _])
  exact ⟨rfl, ha⟩
-- caught here
theorem sc_catch {pc : Nat} {ls : Array Slot} {rest : List Value} {own E nm : String} {ce : Cell} {q : Addr} (hown : s.vm.findClass own = some m.cls) (pre : List ExceptionTableEntry) (x : ExceptionTableEntry) (suf : List ExceptionTableEntry) (hsplit : c.exceptionTable.toList = pre ++ x :: suf)
    (hpass : ∀ y ∈ pre, covers y pc = true ∧ y.catchType ≠ 0 ∧ ∃ n2 : String, (Jvm.Cond.classLink own y.catchType n2).before args s = true ∧ va_Nc E n2 s) (hx : covers x pc = true) (h0 : x.catchType ≠ 0)
    (hlink : (Jvm.Cond.classLink own x.catchType nm).before args s = true) (hcast : (Jvm.Cond.castable E nm).before args s = true) (hcell : H[q]? = some ce) (hv : ce.vm = .none) (hcl : s.vm.findClass E = some ce.cls)
    (kk : W p l e R s m args below meth c H locs cells slots Q (F0 m x.handlerPc ls [.ref q])) : sx_W p l e R s m args below meth c H locs cells slots Q (F0 m pc ls rest) q := by
  intro T hT X
  have hpl : e.platform.magicAccessors = ({} : Platform).magicAccessors := by rw [X.admits.platform]
  obtain ⟨k9, hk9, -⟩ := Vm.findClass_spec hcl
  have hxx : sc_no e.platform s m.cls pc ce.cls true x := by
    obtain ⟨c5, hc5, hl5⟩ := Cond.classLink_spec hown hlink e.platform hpl
    obtain ⟨c3, c4, hc3, hc4, has⟩ := Cond.castable_spec hcast
    cases Option.some.inj (hc3.symm.trans hcl)
    cases Option.some.inj (hc4.symm.trans hc5)
    exact ⟨hx, h0, _, hl5, has⟩
  have hpp : ∀ y ∈ pre, sc_no e.platform s m.cls pc ce.cls false y := by
    intro y hy
    obtain ⟨h1, h2, n2, h3, h4⟩ := hpass y hy
    obtain ⟨c5, hc5, hl5⟩ := Cond.classLink_spec hown h3 e.platform hpl
    obtain ⟨c6, c7, h6, h7, h8⟩ := h4
    cases Option.some.inj (h6.symm.trans hcl)
    cases Option.some.inj (h7.symm.trans hc5)
    exact ⟨h1, h2, _, hl5, h8⟩
  have hcur : T.cur < T.threads.size := by obtain ⟨g0, hfr⟩ := X.frames_eq; exact State.cur_lt_of_frames hfr
  obtain ⟨v, hW, hf⟩ := sc_go (e := e) (f := F0 m pc ls rest) (a := q) (s := s) hv ⟨k9, hk9⟩ (rest := suf) hxx pre ((T.setTop (F0 m pc ls rest)).pushFrame (.throwing q)) X.warmed (by show T.heap[q]? = some ce; rw [hT]; exact hcell) hpp
  have hfind : ∀ (Q : Handler → Pre) (E : CtlPost) (d : Bool) (acts : List Action), wp (findHandler (F0 m pc ls rest) q) Q E e d acts ((T.setTop (F0 m pc ls rest)).pushFrame (.throwing q)) ↔ Q (.found x.handlerPc) d acts (((T.setTop (F0 m pc ls rest)).pushFrame (.throwing q)).setVm v) := by
    intro Q E d acts
    rw [W.findHandler_eq (meth := meth) (code := c) X.method' X.code, hsplit]
    exact hf Q E d acts
  obtain ⟨t, a1, b1⟩ := kk (T.setVm v) hT (X.noted hW)
  refine ⟨t, ?_, b1⟩
  obtain ⟨hgo, hw⟩ := X.here.throwing (g := F0 m pc ls rest) q
  refine Steps.head hgo hw ?_
  rw [stepThread_throwing (frames_entered X.here.top _), (sc_step hfind).1]
  obtain ⟨g₀, hg⟩ := Option.isSome_iff_exists.mp X.here.top
  obtain ⟨r, hr⟩ := State.topJava?_eq_some.mp hg
  have hr2 : (T.setVm v).frames = .java g₀ :: r := hr
  rw [State.setTop_of_frames _ hr2] at a1
  have e1 : ∀ (u : State) (F G : List Frame), ((u.setFrames F).setVm v).setFrames G = (u.setVm v).setFrames G := by
    intro u F G
    have h9 : (u.setFrames F).setVm v = (u.setVm v).setFrames F := rfl
    rw [h9, State.setFrames_setFrames]
  rw [hr, List.tail_cons, State.pushFrame, e1, State.setTop_of_frames _ hr, e1]
  exact a1
end CatchB
end
section
section LawA
variable {p : Program} {l : Launch} {e : Env} {R : Room} {s : State} {m : MethodId} {args : Array Value} {below : List Frame} {meth : Method} {c : Code} {H : Heap} {locs : List Loc} {cells slots : Nat} {Q : State → Prop} {cc : ByteArray} {nL pc : Nat} {ls : Array Slot} {Ts : List Jvm.Cond} {own : String} {D : va_G} {A : Nat → Prop} {ad : List Nat} {h h2 : hp_T}
-- what a caller outside the evaluator keeps
def sw_R (s : State) (H : Heap) : Prop := sx_h s ∧ sd_a s ∧ sd_g s ∧ ∀ (a : Nat) (cell : Cell), s.heap[a]? = some cell → cell.vm.isStatics = true → H[a]? = some cell
theorem sw_pre (hw : sd_w D A ad h s H) (hR : sw_R s H) (as : List Value) : ∀ U : State, U.heap = H → s.WarmedH U.vm → sd_Pc D ad h H.size as as.toArray U := by
  intro U hU hW
  obtain ⟨hxh, hxa, hg, hk⟩ := hR
  refine ⟨rfl, by rw [hU], ?_, sx_hmoved hxh hW.alike (fun a cell h1 h2 => by rw [hU]; exact hk a cell h1 h2), ⟨fun w hw ho hk9 => sx_word hW ho hk9 (hxa.1 w hw ho hk9), fun C hC => va_AO.moved hW.alike (hxa.2 C hC)⟩, fun q hq => ?_⟩
  · rw [hU]; exact sd_w_moved hW.alike (sd_w_own hw (fun q h9 => Or.inl h9))
  · obtain ⟨sa, h6⟩ := hg q hq
    exact ⟨sa, vk_R.warm hW h6⟩
theorem sw_sub (hw : sd_w D A ad h s H) (hSt : va_S A s.heap H locs) (hA : ∀ q, s.heap.size ≤ q → A q) : ∀ q, sd_fr ad H.size q → A q := fun q h9 => h9.elim (fun h8 => (sd_w_at hw q h8).1) (fun h8 => hA q (Nat.le_trans hSt.1 h8))
theorem sw_off {st t : State} {H1 : Heap} (e0 : st.heap = H) (e1 : t.heap = H1) (hF : va_F (sd_fr ad H.size) st t) : H.size ≤ H1.size ∧ ∀ q, q < H.size → q ∉ ad → H1[q]? = H[q]? := by
  obtain ⟨h1, h2⟩ := hF
  rw [e0, e1] at h1
  rw [e0, e1] at h2
  exact ⟨h1, fun q h3 h4 => h2 q h3 (fun h9 => h9.elim h4 (fun h8 => by omega))⟩
theorem sw_keep {H1 : Heap} (hR : sw_R s H) (hw : sd_w D A ad h s H) (hk : ∀ q, q < H.size → q ∉ ad → H1[q]? = H[q]?) : sw_R s H1 := by
  obtain ⟨h1, h2, h3, h4⟩ := hR
  refine ⟨h1, h2, h3, fun a cell h5 h6 => ?_⟩
  have h7 := h4 a cell h5 h6
  rw [hk a (Array.getElem?_eq_some_iff.mp h7).1 (fun h8 => by rw [sd_w_ns hw a h8 cell h7] at h6; cases h6)]
  exact h7
-- a method of the evaluator, called by invokevirtual, that returns
theorem sw_ret (hlt : l.stackTraces = false) {d f0 k x b qb : Nat} {as AsC K : List Value} {v : Option Value} (hev : ev_m d f0 k (.ref b :: as) h = some (.inl v, h2)) (hk : tb_ok k = true) (hx : p.tables.exec = Jvm.exec) (hb : c.code = cc) (hml : c.maxLocals = nL) (hown : s.vm.findClass own = some m.cls) (hts : ∀ w ∈ Ts, w.before args s = true)
    (hG : GoodIn Ts (sd_ws k)) (hl : (Jvm.Cond.methodLink own x (tb_y k)).before args s = true) (hlm : lf_m k 1) (hall : ∀ w ∈ tb_all, w.before args s = true) (hrf : tb_rf k + 1 ≤ R.frames) (hrl : 8 + (tb_ml k + 11) + tb_rl k ≤ R.locals)
    (hw : sd_w D A ad h s H) (hSt : va_S A s.heap H locs) (hA : ∀ q, s.heap.size ≤ q → A q) (hR : sw_R s H) (hkb : hp_k h b = some (tb_ci k, 0)) (hqb : ad[b]? = some qb) (has : sd_l ad as AsC) (hna : AsC.length = tb_na k) (hsz : ls.size = nL) (hK : (K.map fun v => v.category).sum ≤ 8) (hdg : decode cc pc = .ok (.invokevirtual x, 3)) (hRc : cells + (hp_c h2 - hp_c h) ≤ R.cells) (hRs : slots + (hp_s h2 - hp_s h) ≤ R.slots)
    (kk : ∀ (w : Option Value) (z : List Nat) (H1 : Heap) (locs1 : List Loc), sd_w D A (ad ++ z) h2 s H1 → va_S A s.heap H1 locs1 → sd_l (ad ++ z) v.toList w.toList → H.size ≤ H1.size → (∀ q, q < H.size → q ∉ ad → H1[q]? = H[q]?) → sw_R s H1 → W p l e R s m args below meth c H1 locs1 (cells + (hp_c h2 - hp_c h)) (slots + (hp_s h2 - hp_s h)) Q (F0 m (pc + 3) ls (w.toList ++ K))) :
    W p l e R s m args below meth c H locs cells slots Q (F0 m pc ls (AsC.reverse ++ .ref qb :: K)) := by
  obtain ⟨-, g2, g3, g4, -, g6, -⟩ := hlm
  obtain ⟨⟨T9, N9, hcv⟩, g7, g8⟩ := g6 rfl
  have hmm : hp_c h ≤ hp_c h2 ∧ hp_s h ≤ hp_s h2 := ev_m_c d f0 _ _ _ _ hev
  have hM := (sd_main (l := l) tb_true hlt D d f0 k _ h _ hk hev ad H.size (.ref qb :: AsC) ⟨⟨qb, hqb, rfl⟩, has⟩ (hp_c h2 - hp_c h) (hp_s h2 - hp_s h) (by show _ = hp_c h2; omega) (by show _ = hp_s h2; omega)).1 v rfl
  have hrecv : ∃ cellB : Cell, H[qb]? = some cellB ∧ cellB.vm.isStatics = false ∧ s.vm.findClass (tb_y k).cls = some cellB.cls := by
    obtain ⟨ws, tys, hK9, hP9, hD9, hlw, hla, hr9⟩ := hw
    obtain ⟨a, E, h1, h2, h3⟩ := hr9 _ _ _ hkb
    obtain ⟨fs, rfl, -⟩ := sd_e_o h3 (cl_all _ _ _ _ hcv).1
    cases Option.some.inj (h1.symm.trans hqb)
    exact va_recv hK9 hP9 hcv h2
  have cb : CallB R s args own x (tb_y k) (tb_b k) (tb_ml k) (tb_rt k) (sd_ws k) (sd_rm k (hp_c h2 - hp_c h) (hp_s h2 - hp_s h)) (hp_c h2 - hp_c h) (hp_s h2 - hp_s h) (tb_na k) := callB_of _ hts hG rfl rfl rfl (hall _ g2) hl g4 ⟨hrf, hrl⟩
  refine sd_callR (va_runV ⟨hx, hb, hml, hown, hts⟩ hM ⟨cb, hall _ g7, hall _ g8⟩ ⟨sd_Pc_blind, hrecv, sw_pre hw hR _⟩ rfl hna hsz rfl (lv_room hK) hdg ⟨hRc, hRs⟩) (fun w st₀ t H1 Lc e0 e1 hvm hq hL => ?_)
  obtain ⟨v2, w2, z2, q1, q2, q3, q4, q5⟩ := hq
  cases q1
  cases q2
  subst e1
  have hsub := sw_sub hw hSt hA
  obtain ⟨o1, o2⟩ := sw_off (H1 := t.heap) e0 rfl q5
  exact kk w z2 t.heap (locs ++ Lc) (sd_w_moved hvm.symm (sd_w_own q4 (fun q h9 => hsub q (sd_w_at q4 q h9).1))) (sd_keepS e0 rfl hSt hsub hL q5) q3 o1 o2 (sw_keep hR hw o2)
-- one that throws
theorem sw_thr (hlt : l.stackTraces = false) {d f0 k x b qb e9 : Nat} {as AsC K : List Value} (hev : ev_m d f0 k (.ref b :: as) h = some (.inr e9, h2)) (hk : tb_ok k = true) (hx : p.tables.exec = Jvm.exec) (hb : c.code = cc) (hml : c.maxLocals = nL) (hown : s.vm.findClass own = some m.cls) (hts : ∀ w ∈ Ts, w.before args s = true)
    (hG : GoodIn Ts (sd_ws k)) (hl : (Jvm.Cond.methodLink own x (tb_y k)).before args s = true) (hlm : lf_m k 1) (hall : ∀ w ∈ tb_all, w.before args s = true) (hrf : tb_rf k + 1 ≤ R.frames) (hrl : 8 + (tb_ml k + 11) + tb_rl k ≤ R.locals)
    (hw : sd_w D A ad h s H) (hSt : va_S A s.heap H locs) (hA : ∀ q, s.heap.size ≤ q → A q) (hR : sw_R s H) (hkb : hp_k h b = some (tb_ci k, 0)) (hqb : ad[b]? = some qb) (has : sd_l ad as AsC) (hna : AsC.length = tb_na k) (hsz : ls.size = nL) (hK : (K.map fun v => v.category).sum ≤ 8) (hdg : decode cc pc = .ok (.invokevirtual x, 3)) (hRc : cells + (hp_c h2 - hp_c h) ≤ R.cells) (hRs : slots + (hp_s h2 - hp_s h) ≤ R.slots)
    (kk : ∀ (ce : Cell) (q : Addr) (z : List Nat) (H1 : Heap) (locs1 : List Loc), sd_w D A (ad ++ z) h2 s H1 → va_S A s.heap H1 locs1 → H.size ≤ H1.size → (∀ q, q < H.size → q ∉ ad → H1[q]? = H[q]?) → sw_R s H1 → H1[q]? = some ce → ce.vm = .none → s.vm.findClass (tb_xn e9) = some ce.cls → sx_W p l e R s m args below meth c H1 locs1 (cells + (hp_c h2 - hp_c h)) (slots + (hp_s h2 - hp_s h)) Q (F0 m pc ls K) q) :
    W p l e R s m args below meth c H locs cells slots Q (F0 m pc ls (AsC.reverse ++ .ref qb :: K)) := by
  obtain ⟨-, g2, g3, g4, -, g6, -⟩ := hlm
  obtain ⟨⟨T9, N9, hcv⟩, g7, g8⟩ := g6 rfl
  have hmm : hp_c h ≤ hp_c h2 ∧ hp_s h ≤ hp_s h2 := ev_m_c d f0 _ _ _ _ hev
  have hM := (sd_main (l := l) tb_true hlt D d f0 k _ h _ hk hev ad H.size (.ref qb :: AsC) ⟨⟨qb, hqb, rfl⟩, has⟩ (hp_c h2 - hp_c h) (hp_s h2 - hp_s h) (by show _ = hp_c h2; omega) (by show _ = hp_s h2; omega)).2 e9 rfl
  have hrecv : ∃ cellB : Cell, H[qb]? = some cellB ∧ cellB.vm.isStatics = false ∧ s.vm.findClass (tb_y k).cls = some cellB.cls := by
    obtain ⟨ws, tys, hK9, hP9, hD9, hlw, hla, hr9⟩ := hw
    obtain ⟨a, E, h1, h2, h3⟩ := hr9 _ _ _ hkb
    obtain ⟨fs, rfl, -⟩ := sd_e_o h3 (cl_all _ _ _ _ hcv).1
    cases Option.some.inj (h1.symm.trans hqb)
    exact va_recv hK9 hP9 hcv h2
  have cb : CallB R s args own x (tb_y k) (tb_b k) (tb_ml k) (tb_rt k) (sd_ws k) (sd_rm k (hp_c h2 - hp_c h) (hp_s h2 - hp_s h)) (hp_c h2 - hp_c h) (hp_s h2 - hp_s h) (tb_na k) := callB_of _ hts hG rfl rfl rfl (hall _ g2) hl g4 ⟨hrf, hrl⟩
  intro T hT X
  obtain ⟨q9, st₀, t, T', Lc, ce, e0, ⟨z2, q4, q5⟩, hce, hcv9, hcl, hL, e1, e2, X', st1⟩ := sx_callV X hx hown hM ⟨cb, hall _ g7, hall _ g8⟩ (b := qb) ⟨sd_Pc_blind, hrecv, sw_pre hw hR _⟩ hT (g := F0 m pc ls (AsC.reverse ++ .ref qb :: K)) rfl hna (by rw [hml]; exact hsz) rfl (lv_room hK) (by rw [hb]; exact hdg) ⟨hRc, hRs⟩
  have hvm : s.vm.Alike t.vm := by rw [← e2]; exact X'.warmed.alike
  have hsub := sw_sub hw hSt hA
  obtain ⟨o1, o2⟩ := sw_off (H1 := t.heap) e0 rfl q5
  obtain ⟨t2, a1, b1⟩ := kk ce q9 z2 t.heap (locs ++ Lc) (sd_w_moved hvm.symm (sd_w_own q4 (fun q h9 => hsub q (sd_w_at q4 q h9).1))) (sd_keepS e0 rfl hSt hsub hL q5) o1 o2 (sw_keep hR hw o2) hce hcv9 hcl T' e1 X'
  exact ⟨t2, st1.trans a1, b1⟩
end LawA
end
section
section LongA
variable {p : Program} {l : Launch} {e : Env} {R : Room} {s : State} {m : MethodId} {args : Array Value} {below : List Frame} {meth : Method} {c : Code} {H : Heap} {locs : List Loc} {cells slots : Nat} {Q : State → Prop} {cc : ByteArray} {nL pc : Nat} {ls : Array Slot} {rest : List Value} {D : va_G} {A : Nat → Prop} {ad : List Nat} {h h2 : hp_T} {qo : Nat} {f : Nat → Int64}
-- the law's long[1]
def sw_c (D : va_G) (A : Nat → Prop) (ad : List Nat) (qo : Nat) (f : Nat → Int64) (s : State) (H : Heap) : Prop := ∃ cL : ClassId, va_K D vwCl [(cL, .long)] s ∧ va_P D vwCl [(qo, .inl (cL, 1, .inr (.inl f)))] H ∧ A qo ∧ qo ∉ ad
theorem sw_clt (h : sw_c D A ad qo f s H) : qo < H.size := by
  obtain ⟨cL, -, h2, -⟩ := h
  exact (h2 0 _ rfl).lt
theorem sw_ck {H1 : Heap} (h : sw_c D A ad qo f s H) (hk : ∀ q, q < H.size → q ∉ ad → H1[q]? = H[q]?) : sw_c D A ad qo f s H1 := by
  have hlt := sw_clt h
  obtain ⟨cL, h1, h2, h3, h4⟩ := h
  refine ⟨cL, h1, h2.kept (fun k q hq => ?_), h3, h4⟩
  have hm := List.mem_of_getElem? hq
  simp only [List.mem_cons, List.not_mem_nil, or_false] at hm
  subst hm
  exact hk qo hlt h4
theorem sw_cmoved {U : State} (hv : s.vm.Alike U.vm) (h : sw_c D A ad qo f s H) : sw_c D A ad qo f U H := by
  obtain ⟨cL, h1, h2⟩ := h
  exact ⟨cL, va_K.moved hv h1, h2⟩
theorem sw_cown {B : Nat → Prop} (h : sw_c D A ad qo f s H) (hB : B qo) : sw_c D B ad qo f s H := by
  obtain ⟨cL, h1, h2, h3, h4⟩ := h
  exact ⟨cL, h1, h2, hB, h4⟩
theorem sw_z {z : List Nat} (hw : sd_w D A ad h s H) {H1 : Heap} {U : State} (hw2 : sd_w D A (ad ++ z) h2 U H1) (hk : h2.1 = h.1) : z = [] := by
  obtain ⟨ws, tys, -, -, -, -, h1, -⟩ := hw
  obtain ⟨ws2, tys2, -, -, -, -, h3, -⟩ := hw2
  rw [hk, ← h1, List.length_append] at h3
  exact List.eq_nil_of_length_eq_zero (by omega)
theorem sw_both (hw : sd_w D A ad h s H) (hc : sw_c D A ad qo f s H) : ∃ (ws : va_W) (tys : List (ClassId × FieldType)) (cL : ClassId), va_K D vwCl (tys ++ [(cL, .long)]) s ∧ va_P D vwCl (ws ++ [(qo, .inl (cL, 1, .inr (.inl f)))]) H ∧ va_D A (ws ++ [(qo, .inl (cL, 1, .inr (.inl f)))]) ∧ sd_r ad h tys ws ∧ va_K D vwCl tys s ∧ va_K D vwCl [(cL, .long)] s ∧ qo ∉ ad := by
  obtain ⟨ws, tys, hK, hP, hD, hr⟩ := hw
  obtain ⟨cL, h1, h2, h3, h4⟩ := hc
  refine ⟨ws, tys, cL, hK.app h1, hP.app h2, hD.app ⟨fun i j p q hi hj _ => ?_, fun k q hk => ?_⟩ (fun i j p q hi hj he => ?_), hr, hK, h1, h4⟩
  · have h5 := (List.getElem?_eq_some_iff.mp hi).1
    have h6 := (List.getElem?_eq_some_iff.mp hj).1
    simp only [List.length_cons, List.length_nil] at h5 h6
    omega
  · have hm := List.mem_of_getElem? hk
    simp only [List.mem_cons, List.not_mem_nil, or_false] at hm
    subst hm
    exact h3
  · have hm := List.mem_of_getElem? hj
    simp only [List.mem_cons, List.not_mem_nil, or_false] at hm
    subst hm
    obtain ⟨hlw, hla, hr9⟩ := hr
    have hlt : i < h.1.length := by rw [← hlw]; exact (List.getElem?_eq_some_iff.mp hi).1
    obtain ⟨a, E, g1, g2, -⟩ := hr9 i (h.1[i]).1 (h.1[i]).2 (by unfold hp_k; rw [List.getElem?_eq_getElem hlt])
    cases Option.some.inj (g2.symm.trans hi)
    have he : a = qo := he
    exact h4 (by rw [← he]; exact List.mem_of_getElem? g1)
theorem sw_split {ws : va_W} {tys : List (ClassId × FieldType)} {cL : ClassId} (hP : va_P D vwCl (ws ++ [(qo, .inl (cL, 1, .inr (.inl f)))]) H) (hD : va_D A (ws ++ [(qo, .inl (cL, 1, .inr (.inl f)))])) (hr : sd_r ad h tys ws) (hK : va_K D vwCl tys s) (h1 : va_K D vwCl [(cL, .long)] s) (h4 : qo ∉ ad) : sd_w D A ad h s H ∧ sw_c D A ad qo f s H := by
  have el : ∀ (k : Nat) (q : Nat × va_E), ws[k]? = some q → (ws ++ [(qo, .inl (cL, 1, .inr (.inl f)))])[k]? = some q := fun k q hk => by rw [List.getElem?_append_left (List.getElem?_eq_some_iff.mp hk).1]; exact hk
  have er : (ws ++ [(qo, (.inl (cL, 1, .inr (.inl f)) : va_E))])[ws.length]? = some (qo, .inl (cL, 1, .inr (.inl f))) := by rw [List.getElem?_append_right (Nat.le_refl _)]; simp
  refine ⟨⟨ws, tys, hK, fun k q hk => hP k q (el k q hk), ⟨fun i j p q hi hj he => hD.1 i j p q (el i p hi) (el j q hj) he, fun k q hk => hD.2 k q (el k q hk)⟩, hr⟩, cL, h1, fun k q hk => ?_, hD.2 _ _ er, h4⟩
  have hm := List.mem_of_getElem? hk
  simp only [List.mem_cons, List.not_mem_nil, or_false] at hm
  subst hm
  exact hP _ _ er
theorem sw_last (hx : p.tables.exec = Jvm.exec) (hb : c.code = cc) (hw : sd_w D A ad h s H) (hc : sw_c D A ad qo f s H) (hSt : va_S A s.heap H locs) {x : Int64} (hdg : decode cc pc = .ok (.lastore, 1))
    (kk : ∀ (H1 : Heap) (locs1 : List Loc), sd_w D A ad h s H1 → sw_c D A ad qo (vp_updL f 0 x) s H1 → va_S A s.heap H1 locs1 → W p l e R s m args below meth c H1 locs1 cells slots Q (F0 m (pc + 1) ls rest)) : W p l e R s m args below meth c H locs cells slots Q (F0 m pc ls (.long x :: .int 0 :: .ref qo :: rest)) := by
  obtain ⟨ws, tys, cL, h1, h2, h3, h4, h5, h6, h7⟩ := sw_both hw hc
  have g1 : (ws ++ [(qo, (.inl (cL, 1, .inr (.inl f)) : va_E))])[ws.length]? = some (qo, .inl (cL, 1, .inr (.inl f))) := by rw [List.getElem?_append_right (Nat.le_refl _)]; simp
  have g2 : (tys ++ [(cL, FieldType.long)])[tys.length]? = some (cL, .long) := by rw [List.getElem?_append_right (Nat.le_refl _)]; simp
  refine va_last hx hb h1 h2 h3 hSt ws.length tys.length g1 g2 (i := 0) (vp_in_nI (n := 0) (by decide) (by decide)) hdg (fun H1 locs1 hP1 hD1 hS1 => ?_)
  rw [List.set_append_right _ _ (Nat.le_refl _)] at hP1 hD1
  simp only [Nat.sub_self, List.set_cons_zero] at hP1 hD1
  obtain ⟨g1, g2⟩ := sw_split hP1 hD1 h4 h5 h6 h7
  exact kk H1 locs1 g1 g2 hS1
theorem sw_lald (hx : p.tables.exec = Jvm.exec) (hb : c.code = cc) (hc : sw_c D A ad qo f s H) (hdg : decode cc pc = .ok (.laload, 1))
    (kk : W p l e R s m args below meth c H locs cells slots Q (F0 m (pc + 1) ls (.long (f 0) :: rest))) : W p l e R s m args below meth c H locs cells slots Q (F0 m pc ls (.int 0 :: .ref qo :: rest)) := by
  obtain ⟨cL, h1, h2, h3, h4⟩ := hc
  exact va_lald hx hb h1 h2 0 0 rfl rfl (i := 0) (vp_in_nI (n := 0) (by decide) (by decide)) hdg kk
-- what a wrapper of the law is called with, and what it leaves
def sw_n (U : State) : Prop := va_Nc "java/lang/IndexOutOfBoundsException" "java/lang/IllegalArgumentException" U ∧ va_Nc "java/lang/IllegalArgumentException" "java/lang/IndexOutOfBoundsException" U ∧ va_Nc "java/lang/UnsupportedOperationException" "java/lang/IllegalArgumentException" U ∧ va_Nc "java/lang/UnsupportedOperationException" "java/lang/IndexOutOfBoundsException" U
theorem sw_nmoved {U V : State} (hv : U.vm.Alike V.vm) (h : sw_n U) : sw_n V := ⟨va_Nc.moved hv h.1, va_Nc.moved hv h.2.1, va_Nc.moved hv h.2.2.1, va_Nc.moved hv h.2.2.2⟩
def sw_P (D : va_G) (ad : List Nat) (h : hp_T) (qo : Nat) (f : Nat → Int64) (sz : Nat) (as : List Value) : Array Value → State → Prop := va_Pc as (fun U => U.heap.size = sz ∧ sd_w D (sd_fr (qo :: ad) sz) ad h U U.heap ∧ sw_c D (sd_fr (qo :: ad) sz) ad qo f U U.heap ∧ sx_h U ∧ sd_a U ∧ sd_g U ∧ sw_n U)
def sw_Q (D : va_G) (ad : List Nat) (h : hp_T) (qo sz : Nat) (r : Int32) (g : (Nat → Int64) → Prop) : Array Value → State → Outcome → State → Prop := fun _ st oc t => ∃ f : Nat → Int64, g f ∧ oc = .returned (some (.int r)) ∧ sd_w D (sd_fr (qo :: ad) sz) ad h t t.heap ∧ sw_c D (sd_fr (qo :: ad) sz) ad qo f t t.heap ∧ va_F (sd_fr (qo :: ad) sz) st t
theorem sw_Pblind {sz : Nat} {as : List Value} : FrameBlind (sw_P D ad h qo f sz as) := by
  intro a U g mk hp
  obtain ⟨h1, h2, h3, h3c, h4, h5, h6, h7⟩ := hp
  refine ⟨h1, h2, sd_w_moved (Vm.Alike.refl U.vm) h3, sw_cmoved (Vm.Alike.refl U.vm) h3c, sx_hmoved h4 (Vm.Alike.refl U.vm) (fun _ _ h9 _ => h9), ⟨fun w hw ho hk => ?_, fun C hC => va_AO.moved (Vm.Alike.refl U.vm) (h5.2 C hC)⟩, fun q hq => ?_, sw_nmoved (Vm.Alike.refl U.vm) h7⟩
  · exact sx_word (s := U) (U := U.calling g mk a) (State.WarmedH.refl U) ho hk (h5.1 w hw ho hk)
  · obtain ⟨sa, h7⟩ := h6 q hq
    exact ⟨sa, vk_R.same rfl h7⟩
def sw_rm (k mc ms : Nat) : Room := { frames := tb_rf k + 1, cells := mc, slots := ms, locals := 8 + (tb_ml k + 11) + tb_rl k }
theorem sw_good {w0 : Jvm.Cond} {k : Nat} (hc : Jvm.Cond.code (tb_y k) (tb_b k) (tb_ml k) (tb_rt k) ∈ tb_all) : GoodIn (w0 :: tb_all) (sd_ws k) := by
  intro w hw
  have h8 : w ∈ tb_all := by
    rcases List.mem_cons.mp hw with rfl | h
    · exact hc
    · exact h
  exact ⟨List.mem_cons_of_mem _ h8, good_of_word (List.mem_filter.mp h8).2⟩
theorem sw_tab {y : MethodName} {hh : List (Nat × Nat × Nat × Nat)} {bytes : ByteArray} {maxL : Nat} {ret : Option FieldType} {S : Spec} {s₁ : State} {cc2 : ByteArray} {m2 : Nat} {r2 : Option FieldType} (B : BodyLoose p l y S cc2 m2 r2 e s m args below meth c s₁) (hw : (Jvm.Cond.codeWith y bytes maxL ret hh).before args s = true) : c.exceptionTable.toList = tableOf hh := by
  obtain ⟨m9, meth9, c9, hn9, h1, h2, -, -, h5, -⟩ := Cond.codeWith_spec hw
  cases B.named.symm.trans hn9
  cases Option.some.inj (h1.symm.trans B.method)
  cases Option.some.inj (h2.symm.trans (Stand.of_body B).code)
  rw [← h5, table_eq]
end LongA
end
section
theorem wx_1 : (Jvm.Cond.initialized "RouteHouse") ∈ tb_all := wd_o1 (i := 1) rfl rfl
theorem wx_272 : (Jvm.Cond.code ({ cls := "RouteHouse", name := "port", desc := "(III)V" } : Jvm.MethodName) prog_1_method_2_code (4 : Nat) (Option.none : Option Jvm.ClassFile.FieldType)) ∈ tb_all := wd_o2 (i := 32) rfl rfl
theorem wx_270 : (Jvm.Cond.instanceMethod ({ cls := "RouteHouse", name := "port", desc := "(III)V" } : Jvm.MethodName)) ∈ tb_all := wd_o2 (i := 30) rfl rfl
theorem wx_271 : (Jvm.Cond.selects "RouteHouse" ({ cls := "RouteHouse", name := "port", desc := "(III)V" } : Jvm.MethodName) ({ cls := "RouteHouse", name := "port", desc := "(III)V" } : Jvm.MethodName)) ∈ tb_all := wd_o2 (i := 31) rfl rfl
theorem mt_47 : lf_m 47 1 := ⟨rfl, wx_1, wx_272, ⟨by decide +kernel, by decide +kernel, by decide +kernel⟩, nofun, fun _ => ⟨⟨_, _, rfl⟩, wx_270, wx_271⟩, nofun⟩
theorem wx_367 : (Jvm.Cond.code ({ cls := "RouteHouse", name := "up", desc := "(IZ)Z" } : Jvm.MethodName) prog_1_method_3_code (4 : Nat) (Option.some Jvm.ClassFile.FieldType.boolean)) ∈ tb_all := wd_o2 (i := 127) rfl rfl
theorem wx_365 : (Jvm.Cond.instanceMethod ({ cls := "RouteHouse", name := "up", desc := "(IZ)Z" } : Jvm.MethodName)) ∈ tb_all := wd_o2 (i := 125) rfl rfl
theorem wx_366 : (Jvm.Cond.selects "RouteHouse" ({ cls := "RouteHouse", name := "up", desc := "(IZ)Z" } : Jvm.MethodName) ({ cls := "RouteHouse", name := "up", desc := "(IZ)Z" } : Jvm.MethodName)) ∈ tb_all := wd_o2 (i := 126) rfl rfl
theorem mt_48 : lf_m 48 1 := ⟨rfl, wx_1, wx_367, ⟨by decide +kernel, by decide +kernel, by decide +kernel⟩, nofun, fun _ => ⟨⟨_, _, rfl⟩, wx_365, wx_366⟩, nofun⟩
theorem wx_375 : (Jvm.Cond.code ({ cls := "RouteHouse", name := "route", desc := "(IIII)I" } : Jvm.MethodName) prog_1_method_4_code (6 : Nat) (Option.some Jvm.ClassFile.FieldType.int)) ∈ tb_all := wd_o2 (i := 135) rfl rfl
theorem wx_373 : (Jvm.Cond.instanceMethod ({ cls := "RouteHouse", name := "route", desc := "(IIII)I" } : Jvm.MethodName)) ∈ tb_all := wd_o2 (i := 133) rfl rfl
theorem wx_374 : (Jvm.Cond.selects "RouteHouse" ({ cls := "RouteHouse", name := "route", desc := "(IIII)I" } : Jvm.MethodName) ({ cls := "RouteHouse", name := "route", desc := "(IIII)I" } : Jvm.MethodName)) ∈ tb_all := wd_o2 (i := 134) rfl rfl
theorem mt_49 : lf_m 49 1 := ⟨rfl, wx_1, wx_375, ⟨by decide +kernel, by decide +kernel, by decide +kernel⟩, nofun, fun _ => ⟨⟨_, _, rfl⟩, wx_373, wx_374⟩, nofun⟩
theorem wx_414 : (Jvm.Cond.code ({ cls := "RouteHouse", name := "unroute", desc := "(II)Z" } : Jvm.MethodName) prog_1_method_5_code (4 : Nat) (Option.some Jvm.ClassFile.FieldType.boolean)) ∈ tb_all := wd_o2 (i := 174) rfl rfl
theorem wx_412 : (Jvm.Cond.instanceMethod ({ cls := "RouteHouse", name := "unroute", desc := "(II)Z" } : Jvm.MethodName)) ∈ tb_all := wd_o2 (i := 172) rfl rfl
theorem wx_413 : (Jvm.Cond.selects "RouteHouse" ({ cls := "RouteHouse", name := "unroute", desc := "(II)Z" } : Jvm.MethodName) ({ cls := "RouteHouse", name := "unroute", desc := "(II)Z" } : Jvm.MethodName)) ∈ tb_all := wd_o2 (i := 173) rfl rfl
theorem mt_50 : lf_m 50 1 := ⟨rfl, wx_1, wx_414, ⟨by decide +kernel, by decide +kernel, by decide +kernel⟩, nofun, fun _ => ⟨⟨_, _, rfl⟩, wx_412, wx_413⟩, nofun⟩
theorem wx_425 : (Jvm.Cond.code ({ cls := "RouteHouse", name := "lookup", desc := "(II)I" } : Jvm.MethodName) prog_1_method_6_code (4 : Nat) (Option.some Jvm.ClassFile.FieldType.int)) ∈ tb_all := wd_o2 (i := 185) rfl rfl
theorem wx_423 : (Jvm.Cond.instanceMethod ({ cls := "RouteHouse", name := "lookup", desc := "(II)I" } : Jvm.MethodName)) ∈ tb_all := wd_o2 (i := 183) rfl rfl
theorem wx_424 : (Jvm.Cond.selects "RouteHouse" ({ cls := "RouteHouse", name := "lookup", desc := "(II)I" } : Jvm.MethodName) ({ cls := "RouteHouse", name := "lookup", desc := "(II)I" } : Jvm.MethodName)) ∈ tb_all := wd_o2 (i := 184) rfl rfl
theorem mt_51 : lf_m 51 1 := ⟨rfl, wx_1, wx_425, ⟨by decide +kernel, by decide +kernel, by decide +kernel⟩, nofun, fun _ => ⟨⟨_, _, rfl⟩, wx_423, wx_424⟩, nofun⟩
theorem wx_438 : (Jvm.Cond.code ({ cls := "RouteHouse", name := "feed", desc := "(IIIII)I" } : Jvm.MethodName) prog_1_method_7_code (7 : Nat) (Option.some Jvm.ClassFile.FieldType.int)) ∈ tb_all := wd_o2 (i := 198) rfl rfl
theorem wx_436 : (Jvm.Cond.instanceMethod ({ cls := "RouteHouse", name := "feed", desc := "(IIIII)I" } : Jvm.MethodName)) ∈ tb_all := wd_o2 (i := 196) rfl rfl
theorem wx_437 : (Jvm.Cond.selects "RouteHouse" ({ cls := "RouteHouse", name := "feed", desc := "(IIIII)I" } : Jvm.MethodName) ({ cls := "RouteHouse", name := "feed", desc := "(IIIII)I" } : Jvm.MethodName)) ∈ tb_all := wd_o2 (i := 197) rfl rfl
theorem mt_52 : lf_m 52 1 := ⟨rfl, wx_1, wx_438, ⟨by decide +kernel, by decide +kernel, by decide +kernel⟩, nofun, fun _ => ⟨⟨_, _, rfl⟩, wx_436, wx_437⟩, nofun⟩
theorem wx_464 : (Jvm.Cond.code ({ cls := "RouteHouse", name := "end", desc := "(I)V" } : Jvm.MethodName) prog_1_method_8_code (2 : Nat) (Option.none : Option Jvm.ClassFile.FieldType)) ∈ tb_all := wd_o2 (i := 224) rfl rfl
theorem wx_462 : (Jvm.Cond.instanceMethod ({ cls := "RouteHouse", name := "end", desc := "(I)V" } : Jvm.MethodName)) ∈ tb_all := wd_o2 (i := 222) rfl rfl
theorem wx_463 : (Jvm.Cond.selects "RouteHouse" ({ cls := "RouteHouse", name := "end", desc := "(I)V" } : Jvm.MethodName) ({ cls := "RouteHouse", name := "end", desc := "(I)V" } : Jvm.MethodName)) ∈ tb_all := wd_o2 (i := 223) rfl rfl
theorem mt_53 : lf_m 53 1 := ⟨rfl, wx_1, wx_464, ⟨by decide +kernel, by decide +kernel, by decide +kernel⟩, nofun, fun _ => ⟨⟨_, _, rfl⟩, wx_462, wx_463⟩, nofun⟩
theorem wx_472 : (Jvm.Cond.code ({ cls := "RouteHouse", name := "sum", desc := "(I)V" } : Jvm.MethodName) prog_1_method_9_code (2 : Nat) (Option.none : Option Jvm.ClassFile.FieldType)) ∈ tb_all := wd_o2 (i := 232) rfl rfl
theorem wx_470 : (Jvm.Cond.instanceMethod ({ cls := "RouteHouse", name := "sum", desc := "(I)V" } : Jvm.MethodName)) ∈ tb_all := wd_o2 (i := 230) rfl rfl
theorem wx_471 : (Jvm.Cond.selects "RouteHouse" ({ cls := "RouteHouse", name := "sum", desc := "(I)V" } : Jvm.MethodName) ({ cls := "RouteHouse", name := "sum", desc := "(I)V" } : Jvm.MethodName)) ∈ tb_all := wd_o2 (i := 231) rfl rfl
theorem mt_54 : lf_m 54 1 := ⟨rfl, wx_1, wx_472, ⟨by decide +kernel, by decide +kernel, by decide +kernel⟩, nofun, fun _ => ⟨⟨_, _, rfl⟩, wx_470, wx_471⟩, nofun⟩
theorem wx_487 : (Jvm.Cond.code ({ cls := "RouteHouse", name := "copy", desc := "(I)I" } : Jvm.MethodName) prog_1_method_10_code (2 : Nat) (Option.some Jvm.ClassFile.FieldType.int)) ∈ tb_all := wd_o3 (i := 7) rfl rfl
theorem wx_485 : (Jvm.Cond.instanceMethod ({ cls := "RouteHouse", name := "copy", desc := "(I)I" } : Jvm.MethodName)) ∈ tb_all := wd_o3 (i := 5) rfl rfl
theorem wx_486 : (Jvm.Cond.selects "RouteHouse" ({ cls := "RouteHouse", name := "copy", desc := "(I)I" } : Jvm.MethodName) ({ cls := "RouteHouse", name := "copy", desc := "(I)I" } : Jvm.MethodName)) ∈ tb_all := wd_o3 (i := 6) rfl rfl
theorem mt_55 : lf_m 55 1 := ⟨rfl, wx_1, wx_487, ⟨by decide +kernel, by decide +kernel, by decide +kernel⟩, nofun, fun _ => ⟨⟨_, _, rfl⟩, wx_485, wx_486⟩, nofun⟩
theorem wx_502 : (Jvm.Cond.code ({ cls := "RouteHouse", name := "receive", desc := "(I)I" } : Jvm.MethodName) prog_1_method_11_code (3 : Nat) (Option.some Jvm.ClassFile.FieldType.int)) ∈ tb_all := wd_o3 (i := 22) rfl rfl
theorem wx_500 : (Jvm.Cond.instanceMethod ({ cls := "RouteHouse", name := "receive", desc := "(I)I" } : Jvm.MethodName)) ∈ tb_all := wd_o3 (i := 20) rfl rfl
theorem wx_501 : (Jvm.Cond.selects "RouteHouse" ({ cls := "RouteHouse", name := "receive", desc := "(I)I" } : Jvm.MethodName) ({ cls := "RouteHouse", name := "receive", desc := "(I)I" } : Jvm.MethodName)) ∈ tb_all := wd_o3 (i := 21) rfl rfl
theorem mt_56 : lf_m 56 1 := ⟨rfl, wx_1, wx_502, ⟨by decide +kernel, by decide +kernel, by decide +kernel⟩, nofun, fun _ => ⟨⟨_, _, rfl⟩, wx_500, wx_501⟩, nofun⟩
theorem wx_715 : (Jvm.Cond.code ({ cls := "RouteHouse", name := "pass", desc := "(I)I" } : Jvm.MethodName) prog_1_method_12_code (3 : Nat) (Option.some Jvm.ClassFile.FieldType.int)) ∈ tb_all := wd_o3 (i := 235) rfl rfl
theorem wx_713 : (Jvm.Cond.instanceMethod ({ cls := "RouteHouse", name := "pass", desc := "(I)I" } : Jvm.MethodName)) ∈ tb_all := wd_o3 (i := 233) rfl rfl
theorem wx_714 : (Jvm.Cond.selects "RouteHouse" ({ cls := "RouteHouse", name := "pass", desc := "(I)I" } : Jvm.MethodName) ({ cls := "RouteHouse", name := "pass", desc := "(I)I" } : Jvm.MethodName)) ∈ tb_all := wd_o3 (i := 234) rfl rfl
theorem mt_57 : lf_m 57 1 := ⟨rfl, wx_1, wx_715, ⟨by decide +kernel, by decide +kernel, by decide +kernel⟩, nofun, fun _ => ⟨⟨_, _, rfl⟩, wx_713, wx_714⟩, nofun⟩
theorem wx_732 : (Jvm.Cond.code ({ cls := "RouteHouse", name := "sent", desc := "(II)I" } : Jvm.MethodName) prog_1_method_13_code (3 : Nat) (Option.some Jvm.ClassFile.FieldType.int)) ∈ tb_all := wd_o4 (i := 12) rfl rfl
theorem wx_730 : (Jvm.Cond.instanceMethod ({ cls := "RouteHouse", name := "sent", desc := "(II)I" } : Jvm.MethodName)) ∈ tb_all := wd_o4 (i := 10) rfl rfl
theorem wx_731 : (Jvm.Cond.selects "RouteHouse" ({ cls := "RouteHouse", name := "sent", desc := "(II)I" } : Jvm.MethodName) ({ cls := "RouteHouse", name := "sent", desc := "(II)I" } : Jvm.MethodName)) ∈ tb_all := wd_o4 (i := 11) rfl rfl
theorem mt_58 : lf_m 58 1 := ⟨rfl, wx_1, wx_732, ⟨by decide +kernel, by decide +kernel, by decide +kernel⟩, nofun, fun _ => ⟨⟨_, _, rfl⟩, wx_730, wx_731⟩, nofun⟩
theorem wx_740 : (Jvm.Cond.code ({ cls := "RouteHouse", name := "out", desc := "(II)I" } : Jvm.MethodName) prog_1_method_14_code (3 : Nat) (Option.some Jvm.ClassFile.FieldType.int)) ∈ tb_all := wd_o4 (i := 20) rfl rfl
theorem wx_738 : (Jvm.Cond.instanceMethod ({ cls := "RouteHouse", name := "out", desc := "(II)I" } : Jvm.MethodName)) ∈ tb_all := wd_o4 (i := 18) rfl rfl
theorem wx_739 : (Jvm.Cond.selects "RouteHouse" ({ cls := "RouteHouse", name := "out", desc := "(II)I" } : Jvm.MethodName) ({ cls := "RouteHouse", name := "out", desc := "(II)I" } : Jvm.MethodName)) ∈ tb_all := wd_o4 (i := 19) rfl rfl
theorem mt_59 : lf_m 59 1 := ⟨rfl, wx_1, wx_740, ⟨by decide +kernel, by decide +kernel, by decide +kernel⟩, nofun, fun _ => ⟨⟨_, _, rfl⟩, wx_738, wx_739⟩, nofun⟩
theorem wx_748 : (Jvm.Cond.code ({ cls := "RouteHouse", name := "about", desc := "(I)I" } : Jvm.MethodName) prog_1_method_16_code (2 : Nat) (Option.some Jvm.ClassFile.FieldType.int)) ∈ tb_all := wd_o4 (i := 28) rfl rfl
theorem wx_746 : (Jvm.Cond.instanceMethod ({ cls := "RouteHouse", name := "about", desc := "(I)I" } : Jvm.MethodName)) ∈ tb_all := wd_o4 (i := 26) rfl rfl
theorem wx_747 : (Jvm.Cond.selects "RouteHouse" ({ cls := "RouteHouse", name := "about", desc := "(I)I" } : Jvm.MethodName) ({ cls := "RouteHouse", name := "about", desc := "(I)I" } : Jvm.MethodName)) ∈ tb_all := wd_o4 (i := 27) rfl rfl
theorem mt_61 : lf_m 61 1 := ⟨rfl, wx_1, wx_748, ⟨by decide +kernel, by decide +kernel, by decide +kernel⟩, nofun, fun _ => ⟨⟨_, _, rfl⟩, wx_746, wx_747⟩, nofun⟩
theorem wx_24 : (Jvm.Cond.code ({ cls := "RouteHouse", name := "<init>", desc := "()V" } : Jvm.MethodName) prog_1_method_1_code (2 : Nat) (Option.none : Option Jvm.ClassFile.FieldType)) ∈ tb_all := wd_o1 (i := 24) rfl rfl
theorem wx_23 : (Jvm.Cond.instanceMethod ({ cls := "RouteHouse", name := "<init>", desc := "()V" } : Jvm.MethodName)) ∈ tb_all := wd_o1 (i := 23) rfl rfl
theorem mt_46 : lf_m 46 2 := ⟨rfl, wx_1, wx_24, ⟨by decide +kernel, by decide +kernel, by decide +kernel⟩, nofun, nofun, fun _ => ⟨rfl, rfl, wx_23⟩⟩
theorem wx_9 : (Jvm.Cond.initialized "RouteHouseModel") ∈ tb_all := wd_o1 (i := 9) rfl rfl
theorem wx_754 : (Jvm.Cond.code ({ cls := "RouteHouseModel", name := "<init>", desc := "()V" } : Jvm.MethodName) prog_11_method_1_code (2 : Nat) (Option.none : Option Jvm.ClassFile.FieldType)) ∈ tb_all := wd_o4 (i := 34) rfl rfl
theorem wx_753 : (Jvm.Cond.instanceMethod ({ cls := "RouteHouseModel", name := "<init>", desc := "()V" } : Jvm.MethodName)) ∈ tb_all := wd_o4 (i := 33) rfl rfl
theorem mt_73 : lf_m 73 2 := ⟨rfl, wx_9, wx_754, ⟨by decide +kernel, by decide +kernel, by decide +kernel⟩, nofun, nofun, fun _ => ⟨rfl, rfl, wx_753⟩⟩
theorem wx_893 : (Jvm.Cond.code ({ cls := "RouteHouseModel", name := "port", desc := "(III)V" } : Jvm.MethodName) prog_11_method_5_code (4 : Nat) (Option.none : Option Jvm.ClassFile.FieldType)) ∈ tb_all := wd_o4 (i := 173) rfl rfl
theorem wx_891 : (Jvm.Cond.instanceMethod ({ cls := "RouteHouseModel", name := "port", desc := "(III)V" } : Jvm.MethodName)) ∈ tb_all := wd_o4 (i := 171) rfl rfl
theorem wx_892 : (Jvm.Cond.selects "RouteHouseModel" ({ cls := "RouteHouseModel", name := "port", desc := "(III)V" } : Jvm.MethodName) ({ cls := "RouteHouseModel", name := "port", desc := "(III)V" } : Jvm.MethodName)) ∈ tb_all := wd_o4 (i := 172) rfl rfl
theorem mt_77 : lf_m 77 1 := ⟨rfl, wx_9, wx_893, ⟨by decide +kernel, by decide +kernel, by decide +kernel⟩, nofun, fun _ => ⟨⟨_, _, rfl⟩, wx_891, wx_892⟩, nofun⟩
theorem wx_889 : (Jvm.Cond.code ({ cls := "RouteHouseModel", name := "thrown", desc := "()I" } : Jvm.MethodName) prog_11_method_2_code (1 : Nat) (Option.some Jvm.ClassFile.FieldType.int)) ∈ tb_all := wd_o4 (i := 169) rfl rfl
theorem wx_887 : (Jvm.Cond.instanceMethod ({ cls := "RouteHouseModel", name := "thrown", desc := "()I" } : Jvm.MethodName)) ∈ tb_all := wd_o4 (i := 167) rfl rfl
theorem wx_888 : (Jvm.Cond.selects "RouteHouseModel" ({ cls := "RouteHouseModel", name := "thrown", desc := "()I" } : Jvm.MethodName) ({ cls := "RouteHouseModel", name := "thrown", desc := "()I" } : Jvm.MethodName)) ∈ tb_all := wd_o4 (i := 168) rfl rfl
theorem mt_74 : lf_m 74 1 := ⟨rfl, wx_9, wx_889, ⟨by decide +kernel, by decide +kernel, by decide +kernel⟩, nofun, fun _ => ⟨⟨_, _, rfl⟩, wx_887, wx_888⟩, nofun⟩
theorem wx_904 : (Jvm.Cond.code ({ cls := "RouteHouseModel", name := "up", desc := "(IZ)Z" } : Jvm.MethodName) prog_11_method_6_code (4 : Nat) (Option.some Jvm.ClassFile.FieldType.boolean)) ∈ tb_all := wd_o4 (i := 184) rfl rfl
theorem wx_902 : (Jvm.Cond.instanceMethod ({ cls := "RouteHouseModel", name := "up", desc := "(IZ)Z" } : Jvm.MethodName)) ∈ tb_all := wd_o4 (i := 182) rfl rfl
theorem wx_903 : (Jvm.Cond.selects "RouteHouseModel" ({ cls := "RouteHouseModel", name := "up", desc := "(IZ)Z" } : Jvm.MethodName) ({ cls := "RouteHouseModel", name := "up", desc := "(IZ)Z" } : Jvm.MethodName)) ∈ tb_all := wd_o4 (i := 183) rfl rfl
theorem mt_78 : lf_m 78 1 := ⟨rfl, wx_9, wx_904, ⟨by decide +kernel, by decide +kernel, by decide +kernel⟩, nofun, fun _ => ⟨⟨_, _, rfl⟩, wx_902, wx_903⟩, nofun⟩
theorem wx_908 : (Jvm.Cond.code ({ cls := "RouteHouseModel", name := "route", desc := "(IIII)I" } : Jvm.MethodName) prog_11_method_9_code (6 : Nat) (Option.some Jvm.ClassFile.FieldType.int)) ∈ tb_all := wd_o4 (i := 188) rfl rfl
theorem wx_906 : (Jvm.Cond.instanceMethod ({ cls := "RouteHouseModel", name := "route", desc := "(IIII)I" } : Jvm.MethodName)) ∈ tb_all := wd_o4 (i := 186) rfl rfl
theorem wx_907 : (Jvm.Cond.selects "RouteHouseModel" ({ cls := "RouteHouseModel", name := "route", desc := "(IIII)I" } : Jvm.MethodName) ({ cls := "RouteHouseModel", name := "route", desc := "(IIII)I" } : Jvm.MethodName)) ∈ tb_all := wd_o4 (i := 187) rfl rfl
theorem mt_81 : lf_m 81 1 := ⟨rfl, wx_9, wx_908, ⟨by decide +kernel, by decide +kernel, by decide +kernel⟩, nofun, fun _ => ⟨⟨_, _, rfl⟩, wx_906, wx_907⟩, nofun⟩
theorem wx_919 : (Jvm.Cond.code ({ cls := "RouteHouseModel", name := "unroute", desc := "(II)Z" } : Jvm.MethodName) prog_11_method_10_code (4 : Nat) (Option.some Jvm.ClassFile.FieldType.boolean)) ∈ tb_all := wd_o4 (i := 199) rfl rfl
theorem wx_917 : (Jvm.Cond.instanceMethod ({ cls := "RouteHouseModel", name := "unroute", desc := "(II)Z" } : Jvm.MethodName)) ∈ tb_all := wd_o4 (i := 197) rfl rfl
theorem wx_918 : (Jvm.Cond.selects "RouteHouseModel" ({ cls := "RouteHouseModel", name := "unroute", desc := "(II)Z" } : Jvm.MethodName) ({ cls := "RouteHouseModel", name := "unroute", desc := "(II)Z" } : Jvm.MethodName)) ∈ tb_all := wd_o4 (i := 198) rfl rfl
theorem mt_82 : lf_m 82 1 := ⟨rfl, wx_9, wx_919, ⟨by decide +kernel, by decide +kernel, by decide +kernel⟩, nofun, fun _ => ⟨⟨_, _, rfl⟩, wx_917, wx_918⟩, nofun⟩
theorem wx_923 : (Jvm.Cond.code ({ cls := "RouteHouseModel", name := "lookup", desc := "(II)I" } : Jvm.MethodName) prog_11_method_12_code (4 : Nat) (Option.some Jvm.ClassFile.FieldType.int)) ∈ tb_all := wd_o4 (i := 203) rfl rfl
theorem wx_921 : (Jvm.Cond.instanceMethod ({ cls := "RouteHouseModel", name := "lookup", desc := "(II)I" } : Jvm.MethodName)) ∈ tb_all := wd_o4 (i := 201) rfl rfl
theorem wx_922 : (Jvm.Cond.selects "RouteHouseModel" ({ cls := "RouteHouseModel", name := "lookup", desc := "(II)I" } : Jvm.MethodName) ({ cls := "RouteHouseModel", name := "lookup", desc := "(II)I" } : Jvm.MethodName)) ∈ tb_all := wd_o4 (i := 202) rfl rfl
theorem mt_84 : lf_m 84 1 := ⟨rfl, wx_9, wx_923, ⟨by decide +kernel, by decide +kernel, by decide +kernel⟩, nofun, fun _ => ⟨⟨_, _, rfl⟩, wx_921, wx_922⟩, nofun⟩
theorem wx_931 : (Jvm.Cond.code ({ cls := "RouteHouseModel", name := "feed", desc := "(IIIII)I" } : Jvm.MethodName) prog_11_method_13_code (8 : Nat) (Option.some Jvm.ClassFile.FieldType.int)) ∈ tb_all := wd_o4 (i := 211) rfl rfl
theorem wx_929 : (Jvm.Cond.instanceMethod ({ cls := "RouteHouseModel", name := "feed", desc := "(IIIII)I" } : Jvm.MethodName)) ∈ tb_all := wd_o4 (i := 209) rfl rfl
theorem wx_930 : (Jvm.Cond.selects "RouteHouseModel" ({ cls := "RouteHouseModel", name := "feed", desc := "(IIIII)I" } : Jvm.MethodName) ({ cls := "RouteHouseModel", name := "feed", desc := "(IIIII)I" } : Jvm.MethodName)) ∈ tb_all := wd_o4 (i := 210) rfl rfl
theorem mt_85 : lf_m 85 1 := ⟨rfl, wx_9, wx_931, ⟨by decide +kernel, by decide +kernel, by decide +kernel⟩, nofun, fun _ => ⟨⟨_, _, rfl⟩, wx_929, wx_930⟩, nofun⟩
theorem wx_935 : (Jvm.Cond.code ({ cls := "RouteHouseModel", name := "end", desc := "(I)V" } : Jvm.MethodName) prog_11_method_14_code (2 : Nat) (Option.none : Option Jvm.ClassFile.FieldType)) ∈ tb_all := wd_o4 (i := 215) rfl rfl
theorem wx_933 : (Jvm.Cond.instanceMethod ({ cls := "RouteHouseModel", name := "end", desc := "(I)V" } : Jvm.MethodName)) ∈ tb_all := wd_o4 (i := 213) rfl rfl
theorem wx_934 : (Jvm.Cond.selects "RouteHouseModel" ({ cls := "RouteHouseModel", name := "end", desc := "(I)V" } : Jvm.MethodName) ({ cls := "RouteHouseModel", name := "end", desc := "(I)V" } : Jvm.MethodName)) ∈ tb_all := wd_o4 (i := 214) rfl rfl
theorem mt_86 : lf_m 86 1 := ⟨rfl, wx_9, wx_935, ⟨by decide +kernel, by decide +kernel, by decide +kernel⟩, nofun, fun _ => ⟨⟨_, _, rfl⟩, wx_933, wx_934⟩, nofun⟩
theorem wx_939 : (Jvm.Cond.code ({ cls := "RouteHouseModel", name := "sum", desc := "(I)V" } : Jvm.MethodName) prog_11_method_20_code (2 : Nat) (Option.none : Option Jvm.ClassFile.FieldType)) ∈ tb_all := wd_o4 (i := 219) rfl rfl
theorem wx_937 : (Jvm.Cond.instanceMethod ({ cls := "RouteHouseModel", name := "sum", desc := "(I)V" } : Jvm.MethodName)) ∈ tb_all := wd_o4 (i := 217) rfl rfl
theorem wx_938 : (Jvm.Cond.selects "RouteHouseModel" ({ cls := "RouteHouseModel", name := "sum", desc := "(I)V" } : Jvm.MethodName) ({ cls := "RouteHouseModel", name := "sum", desc := "(I)V" } : Jvm.MethodName)) ∈ tb_all := wd_o4 (i := 218) rfl rfl
theorem mt_92 : lf_m 92 1 := ⟨rfl, wx_9, wx_939, ⟨by decide +kernel, by decide +kernel, by decide +kernel⟩, nofun, fun _ => ⟨⟨_, _, rfl⟩, wx_937, wx_938⟩, nofun⟩
theorem wx_950 : (Jvm.Cond.code ({ cls := "RouteHouseModel", name := "copy", desc := "(I)I" } : Jvm.MethodName) prog_11_method_21_code (3 : Nat) (Option.some Jvm.ClassFile.FieldType.int)) ∈ tb_all := wd_o4 (i := 230) rfl rfl
theorem wx_948 : (Jvm.Cond.instanceMethod ({ cls := "RouteHouseModel", name := "copy", desc := "(I)I" } : Jvm.MethodName)) ∈ tb_all := wd_o4 (i := 228) rfl rfl
theorem wx_949 : (Jvm.Cond.selects "RouteHouseModel" ({ cls := "RouteHouseModel", name := "copy", desc := "(I)I" } : Jvm.MethodName) ({ cls := "RouteHouseModel", name := "copy", desc := "(I)I" } : Jvm.MethodName)) ∈ tb_all := wd_o4 (i := 229) rfl rfl
theorem mt_93 : lf_m 93 1 := ⟨rfl, wx_9, wx_950, ⟨by decide +kernel, by decide +kernel, by decide +kernel⟩, nofun, fun _ => ⟨⟨_, _, rfl⟩, wx_948, wx_949⟩, nofun⟩
theorem wx_954 : (Jvm.Cond.code ({ cls := "RouteHouseModel", name := "receive", desc := "(I)I" } : Jvm.MethodName) prog_11_method_40_code (4 : Nat) (Option.some Jvm.ClassFile.FieldType.int)) ∈ tb_all := wd_o4 (i := 234) rfl rfl
theorem wx_952 : (Jvm.Cond.instanceMethod ({ cls := "RouteHouseModel", name := "receive", desc := "(I)I" } : Jvm.MethodName)) ∈ tb_all := wd_o4 (i := 232) rfl rfl
theorem wx_953 : (Jvm.Cond.selects "RouteHouseModel" ({ cls := "RouteHouseModel", name := "receive", desc := "(I)I" } : Jvm.MethodName) ({ cls := "RouteHouseModel", name := "receive", desc := "(I)I" } : Jvm.MethodName)) ∈ tb_all := wd_o4 (i := 233) rfl rfl
theorem mt_112 : lf_m 112 1 := ⟨rfl, wx_9, wx_954, ⟨by decide +kernel, by decide +kernel, by decide +kernel⟩, nofun, fun _ => ⟨⟨_, _, rfl⟩, wx_952, wx_953⟩, nofun⟩
theorem wx_1040 : (Jvm.Cond.code ({ cls := "RouteHouseModel", name := "pass", desc := "(I)I" } : Jvm.MethodName) prog_11_method_42_code (3 : Nat) (Option.some Jvm.ClassFile.FieldType.int)) ∈ tb_all := wd_o5 (i := 80) rfl rfl
theorem wx_1038 : (Jvm.Cond.instanceMethod ({ cls := "RouteHouseModel", name := "pass", desc := "(I)I" } : Jvm.MethodName)) ∈ tb_all := wd_o5 (i := 78) rfl rfl
theorem wx_1039 : (Jvm.Cond.selects "RouteHouseModel" ({ cls := "RouteHouseModel", name := "pass", desc := "(I)I" } : Jvm.MethodName) ({ cls := "RouteHouseModel", name := "pass", desc := "(I)I" } : Jvm.MethodName)) ∈ tb_all := wd_o5 (i := 79) rfl rfl
theorem mt_114 : lf_m 114 1 := ⟨rfl, wx_9, wx_1040, ⟨by decide +kernel, by decide +kernel, by decide +kernel⟩, nofun, fun _ => ⟨⟨_, _, rfl⟩, wx_1038, wx_1039⟩, nofun⟩
theorem wx_1048 : (Jvm.Cond.code ({ cls := "RouteHouseModel", name := "sent", desc := "(II)I" } : Jvm.MethodName) prog_11_method_43_code (3 : Nat) (Option.some Jvm.ClassFile.FieldType.int)) ∈ tb_all := wd_o5 (i := 88) rfl rfl
theorem wx_1046 : (Jvm.Cond.instanceMethod ({ cls := "RouteHouseModel", name := "sent", desc := "(II)I" } : Jvm.MethodName)) ∈ tb_all := wd_o5 (i := 86) rfl rfl
theorem wx_1047 : (Jvm.Cond.selects "RouteHouseModel" ({ cls := "RouteHouseModel", name := "sent", desc := "(II)I" } : Jvm.MethodName) ({ cls := "RouteHouseModel", name := "sent", desc := "(II)I" } : Jvm.MethodName)) ∈ tb_all := wd_o5 (i := 87) rfl rfl
theorem mt_115 : lf_m 115 1 := ⟨rfl, wx_9, wx_1048, ⟨by decide +kernel, by decide +kernel, by decide +kernel⟩, nofun, fun _ => ⟨⟨_, _, rfl⟩, wx_1046, wx_1047⟩, nofun⟩
theorem wx_1052 : (Jvm.Cond.code ({ cls := "RouteHouseModel", name := "out", desc := "(II)I" } : Jvm.MethodName) prog_11_method_44_code (3 : Nat) (Option.some Jvm.ClassFile.FieldType.int)) ∈ tb_all := wd_o5 (i := 92) rfl rfl
theorem wx_1050 : (Jvm.Cond.instanceMethod ({ cls := "RouteHouseModel", name := "out", desc := "(II)I" } : Jvm.MethodName)) ∈ tb_all := wd_o5 (i := 90) rfl rfl
theorem wx_1051 : (Jvm.Cond.selects "RouteHouseModel" ({ cls := "RouteHouseModel", name := "out", desc := "(II)I" } : Jvm.MethodName) ({ cls := "RouteHouseModel", name := "out", desc := "(II)I" } : Jvm.MethodName)) ∈ tb_all := wd_o5 (i := 91) rfl rfl
theorem mt_116 : lf_m 116 1 := ⟨rfl, wx_9, wx_1052, ⟨by decide +kernel, by decide +kernel, by decide +kernel⟩, nofun, fun _ => ⟨⟨_, _, rfl⟩, wx_1050, wx_1051⟩, nofun⟩
theorem wx_263 : (Jvm.Cond.code ({ cls := "RouteHouse", name := "data", desc := "(I)I" } : Jvm.MethodName) prog_1_method_15_code (2 : Nat) (Option.some Jvm.ClassFile.FieldType.int)) ∈ tb_all := wd_o2 (i := 23) rfl rfl
theorem wx_261 : (Jvm.Cond.instanceMethod ({ cls := "RouteHouse", name := "data", desc := "(I)I" } : Jvm.MethodName)) ∈ tb_all := wd_o2 (i := 21) rfl rfl
theorem wx_262 : (Jvm.Cond.selects "RouteHouse" ({ cls := "RouteHouse", name := "data", desc := "(I)I" } : Jvm.MethodName) ({ cls := "RouteHouse", name := "data", desc := "(I)I" } : Jvm.MethodName)) ∈ tb_all := wd_o2 (i := 22) rfl rfl
theorem mt_60 : lf_m 60 1 := ⟨rfl, wx_1, wx_263, ⟨by decide +kernel, by decide +kernel, by decide +kernel⟩, nofun, fun _ => ⟨⟨_, _, rfl⟩, wx_261, wx_262⟩, nofun⟩
theorem wx_1056 : (Jvm.Cond.code ({ cls := "RouteHouseModel", name := "data", desc := "(I)I" } : Jvm.MethodName) prog_11_method_45_code (2 : Nat) (Option.some Jvm.ClassFile.FieldType.int)) ∈ tb_all := wd_o5 (i := 96) rfl rfl
theorem wx_1054 : (Jvm.Cond.instanceMethod ({ cls := "RouteHouseModel", name := "data", desc := "(I)I" } : Jvm.MethodName)) ∈ tb_all := wd_o5 (i := 94) rfl rfl
theorem wx_1055 : (Jvm.Cond.selects "RouteHouseModel" ({ cls := "RouteHouseModel", name := "data", desc := "(I)I" } : Jvm.MethodName) ({ cls := "RouteHouseModel", name := "data", desc := "(I)I" } : Jvm.MethodName)) ∈ tb_all := wd_o5 (i := 95) rfl rfl
theorem mt_117 : lf_m 117 1 := ⟨rfl, wx_9, wx_1056, ⟨by decide +kernel, by decide +kernel, by decide +kernel⟩, nofun, fun _ => ⟨⟨_, _, rfl⟩, wx_1054, wx_1055⟩, nofun⟩
theorem wx_1060 : (Jvm.Cond.code ({ cls := "RouteHouseModel", name := "about", desc := "(I)I" } : Jvm.MethodName) prog_11_method_46_code (2 : Nat) (Option.some Jvm.ClassFile.FieldType.int)) ∈ tb_all := wd_o5 (i := 100) rfl rfl
theorem wx_1058 : (Jvm.Cond.instanceMethod ({ cls := "RouteHouseModel", name := "about", desc := "(I)I" } : Jvm.MethodName)) ∈ tb_all := wd_o5 (i := 98) rfl rfl
theorem wx_1059 : (Jvm.Cond.selects "RouteHouseModel" ({ cls := "RouteHouseModel", name := "about", desc := "(I)I" } : Jvm.MethodName) ({ cls := "RouteHouseModel", name := "about", desc := "(I)I" } : Jvm.MethodName)) ∈ tb_all := wd_o5 (i := 99) rfl rfl
theorem mt_118 : lf_m 118 1 := ⟨rfl, wx_9, wx_1060, ⟨by decide +kernel, by decide +kernel, by decide +kernel⟩, nofun, fun _ => ⟨⟨_, _, rfl⟩, wx_1058, wx_1059⟩, nofun⟩
theorem wx_269 : (Jvm.Cond.methodLink "RouteHouseLaw" (7 : Nat) ({ cls := "RouteHouse", name := "port", desc := "(III)V" } : Jvm.MethodName)) ∈ tb_all := wd_o2 (i := 29) rfl rfl
theorem wx_266 : (Jvm.Cond.codeWith ({ cls := "RouteHouseLaw", name := "port", desc := "(LRouteHouse;III)I" } : Jvm.MethodName) method_3_code (5 : Nat) (Option.some Jvm.ClassFile.FieldType.int) [((0 : Nat), (7 : Nat), (10 : Nat), (13 : Nat)), ((0 : Nat), (7 : Nat), (14 : Nat), (15 : Nat))]) ∈ tb_all := wd_o2 (i := 26) rfl rfl
theorem wx_267 : (Jvm.Cond.classLink "RouteHouseLaw" (13 : Nat) "java/lang/IndexOutOfBoundsException") ∈ tb_all := wd_o2 (i := 27) rfl rfl
theorem wx_268 : (Jvm.Cond.classLink "RouteHouseLaw" (15 : Nat) "java/lang/IllegalArgumentException") ∈ tb_all := wd_o2 (i := 28) rfl rfl
theorem d9_port_0 : decode method_3_code 0 = .ok (.aload_n 0, 1) := by decide +kernel
theorem d9_port_1 : decode method_3_code 1 = .ok (.iload_n 1, 1) := by decide +kernel
theorem d9_port_2 : decode method_3_code 2 = .ok (.iload_n 2, 1) := by decide +kernel
theorem d9_port_3 : decode method_3_code 3 = .ok (.iload_n 3, 1) := by decide +kernel
theorem d9_port_4 : decode method_3_code 4 = .ok (.invokevirtual 7, 3) := by decide +kernel
theorem d9_port_7 : decode method_3_code 7 = .ok (.goto 11, 3) := by decide +kernel
theorem d9_port_10 : decode method_3_code 10 = .ok (.astore 4, 2) := by decide +kernel
theorem d9_port_12 : decode method_3_code 12 = .ok (.iconst 1, 1) := by decide +kernel
theorem d9_port_13 : decode method_3_code 13 = .ok (.ireturn, 1) := by decide +kernel
theorem d9_port_14 : decode method_3_code 14 = .ok (.astore 4, 2) := by decide +kernel
theorem d9_port_16 : decode method_3_code 16 = .ok (.iconst 2, 1) := by decide +kernel
theorem d9_port_17 : decode method_3_code 17 = .ok (.ireturn, 1) := by decide +kernel
theorem d9_port_18 : decode method_3_code 18 = .ok (.iconst 0, 1) := by decide +kernel
theorem d9_port_19 : decode method_3_code 19 = .ok (.ireturn, 1) := by decide +kernel
def yw_port : MethodName := ⟨"RouteHouseLaw", "port", "(LRouteHouse;III)I"⟩
def ww_port : List Jvm.Cond := .codeWith yw_port method_3_code 5 (some .int) [(0, 7, 10, 13), (0, 7, 14, 15)] :: tb_all
set_option maxHeartbeats 4000000 in
set_option maxRecDepth 100000 in
theorem wr_port {l : Launch} (hlt : l.stackTraces = false) (D : va_G) {ad : List Nat} {h : hp_T} {qa qo sz d f0 : Nat} {p0 p1 p2 : Int32} {f : Nat → Int64} {o : ev_O} (hev : ev_m d f0 47 [.ref 0, .int p0, .int p1, .int p2] h = some o) (hk0 : hp_k h 0 = some (7, 0)) (hqa : ad[0]? = some qa) (hkd : o.2.1 = h.1) {mc ms : Nat} (hmc : mc + hp_c h = hp_c o.2) (hms : ms + hp_s h = hp_s o.2) (ho : o.1 = .inl none) : Met l yw_port ww_port (sw_rm 47 mc ms) (sw_P D ad h qo f sz [.ref qa, .int p0, .int p1, .int p2]) (sw_Q D ad o.2 qo sz 0 (fun f2 => True)) mc ms (sd_fr (qo :: ad) sz) := by
  obtain ⟨r, h2⟩ := o
  cases ho
  have hmc : mc + hp_c h = hp_c h2 := hmc
  have hms : ms + hp_s h = hp_s h2 := hms
  refine va_MetW (cc := method_3_code) (maxL := 5) (ret := some .int) (hh := [(0, 7, 10, 13), (0, 7, 14, 15)]) (by decide +kernel) rfl ?_
  intro p e s m args below meth c s₁ B hml hv
  obtain ⟨rfl, hsz, hw, hc0, hxh, hxa, hg, hn⟩ := hv
  have hx := B.exec
  have hb := B.bytes
  have hr := B.returns
  have hts := atoms_spec (ws := ww_port) B.pre
  have hall : ∀ w ∈ tb_all, w.before _ s = true := fun w h => hts w (List.mem_cons_of_mem _ h)
  have hown : s.vm.findClass "RouteHouseLaw" = some m.cls := findClass_of_methodNamed B.named
  have hlocks := B.notSynchronized
  have htab := sw_tab B (hts _ List.mem_cons_self)
  subst hsz
  have hA : ∀ q, s.heap.size ≤ q → sd_fr (qo :: ad) s.heap.size q := fun q h => Or.inr h
  generalize hAe : sd_fr (qo :: ad) s.heap.size = A at hw hc0 hA
  have hR : sw_R s s.heap := ⟨hxh, hxa, hg, fun _ _ h _ => h⟩
  have hl := lv_entry ([.ref qa, .int p0, .int p1, .int p2]) (n := 5) (Nat.le_of_ble_eq_true rfl)
  rw [lg_entry_eq]
  generalize (lg_sl ([.ref qa, .int p0, .int p1, .int p2]) ++ List.replicate (5 - (lg_sl ([.ref qa, .int p0, .int p1, .int p2])).length) Slot.unset).toArray = ls at hl ⊢
  have hl : lv_has ls 5 [(0, .ref qa), (1, .int p0), (2, .int p1), (3, .int p2)] := hl
  refine lv_aload_n hx hb d9_port_0 rfl (lv_at hl 0 rfl) ?_
  refine lv_iload_n hx hb d9_port_1 rfl (lv_at hl 1 rfl) ?_
  refine lv_iload_n hx hb d9_port_2 rfl (lv_at hl 2 rfl) ?_
  refine lv_iload_n hx hb d9_port_3 rfl (lv_at hl 3 rfl) ?_
  refine sw_ret hlt (AsC := [.int p0, .int p1, .int p2]) (K := []) hev rfl hx hb hml hown hts (sw_good mt_47.2.2.1) (hall _ wx_269) mt_47 hall (Nat.le_refl _) (Nat.le_refl _) hw va_S.rf hA hR hk0 hqa ⟨rfl, rfl, rfl, trivial⟩ rfl hl.1 (Nat.le_of_ble_eq_true rfl) d9_port_4 (by show 0 + _ ≤ mc; omega) (by show 0 + _ ≤ ms; omega) (fun w z H1 locs1 hw1 hS1 hq1 hz1 hk1 hR1 => ?_)
  cases sw_z hw hw1 hkd
  rw [List.append_nil] at hw1 hq1
  have hc1 := sw_ck hc0 hk1
  have ec : 0 + (hp_c h2 - hp_c h) = mc := by omega
  have es : 0 + (hp_s h2 - hp_s h) = ms := by omega
  rw [ec, es]
  cases w with
  | some w => exact False.elim hq1
  | none =>
    refine W.eq (g2 := F0 m 7 ls []) rfl ?_
    refine lv_goto (tgt := 18) hx hb d9_port_7 (by decide) ?_
    refine lv_iconst (v := 0) hx hb d9_port_18 (by decide) ?_
    subst hAe
    exact W.iret hx hb hr (fun t ht hW => ⟨_, trivial, rfl, by rw [ht]; exact sd_w_moved hW.alike hw1, by rw [ht]; exact sw_cmoved hW.alike hc1, hS1.F ht⟩) hS1.2.2 d9_port_19
set_option maxHeartbeats 4000000 in
set_option maxRecDepth 100000 in
theorem wt_port_0 {l : Launch} (hlt : l.stackTraces = false) (D : va_G) {ad : List Nat} {h : hp_T} {qa qo sz d f0 : Nat} {p0 p1 p2 : Int32} {f : Nat → Int64} {o : ev_O} (hev : ev_m d f0 47 [.ref 0, .int p0, .int p1, .int p2] h = some o) (hk0 : hp_k h 0 = some (7, 0)) (hqa : ad[0]? = some qa) (hkd : o.2.1 = h.1) {mc ms : Nat} (hmc : mc + hp_c h = hp_c o.2) (hms : ms + hp_s h = hp_s o.2) (ho : o.1 = .inr 0) : Met l yw_port ww_port (sw_rm 47 mc ms) (sw_P D ad h qo f sz [.ref qa, .int p0, .int p1, .int p2]) (sw_Q D ad o.2 qo sz 1 (fun _ => True)) mc ms (sd_fr (qo :: ad) sz) := by
  obtain ⟨r, h2⟩ := o
  cases ho
  have hmc : mc + hp_c h = hp_c h2 := hmc
  have hms : ms + hp_s h = hp_s h2 := hms
  refine va_MetW (cc := method_3_code) (maxL := 5) (ret := some .int) (hh := [(0, 7, 10, 13), (0, 7, 14, 15)]) (by decide +kernel) rfl ?_
  intro p e s m args below meth c s₁ B hml hv
  obtain ⟨rfl, hsz, hw, hc0, hxh, hxa, hg, hn⟩ := hv
  have hx := B.exec
  have hb := B.bytes
  have hr := B.returns
  have hts := atoms_spec (ws := ww_port) B.pre
  have hall : ∀ w ∈ tb_all, w.before _ s = true := fun w h => hts w (List.mem_cons_of_mem _ h)
  have hown : s.vm.findClass "RouteHouseLaw" = some m.cls := findClass_of_methodNamed B.named
  have hlocks := B.notSynchronized
  have htab := sw_tab B (hts _ List.mem_cons_self)
  subst hsz
  have hA : ∀ q, s.heap.size ≤ q → sd_fr (qo :: ad) s.heap.size q := fun q h => Or.inr h
  generalize hAe : sd_fr (qo :: ad) s.heap.size = A at hw hc0 hA
  have hR : sw_R s s.heap := ⟨hxh, hxa, hg, fun _ _ h _ => h⟩
  have hl := lv_entry ([.ref qa, .int p0, .int p1, .int p2]) (n := 5) (Nat.le_of_ble_eq_true rfl)
  rw [lg_entry_eq]
  generalize (lg_sl ([.ref qa, .int p0, .int p1, .int p2]) ++ List.replicate (5 - (lg_sl ([.ref qa, .int p0, .int p1, .int p2])).length) Slot.unset).toArray = ls at hl ⊢
  have hl : lv_has ls 5 [(0, .ref qa), (1, .int p0), (2, .int p1), (3, .int p2)] := hl
  refine lv_aload_n hx hb d9_port_0 rfl (lv_at hl 0 rfl) ?_
  refine lv_iload_n hx hb d9_port_1 rfl (lv_at hl 1 rfl) ?_
  refine lv_iload_n hx hb d9_port_2 rfl (lv_at hl 2 rfl) ?_
  refine lv_iload_n hx hb d9_port_3 rfl (lv_at hl 3 rfl) ?_
  refine sw_thr hlt (AsC := [.int p0, .int p1, .int p2]) (K := []) hev rfl hx hb hml hown hts (sw_good mt_47.2.2.1) (hall _ wx_269) mt_47 hall (Nat.le_refl _) (Nat.le_refl _) hw va_S.rf hA hR hk0 hqa ⟨rfl, rfl, rfl, trivial⟩ rfl hl.1 (Nat.le_of_ble_eq_true rfl) d9_port_4 (by show 0 + _ ≤ mc; omega) (by show 0 + _ ≤ ms; omega) (fun ce q z H1 locs1 hw1 hS1 hz1 hk1 hR1 hce hcv hcl => ?_)
  cases sw_z hw hw1 hkd
  rw [List.append_nil] at hw1
  have hc1 := sw_ck hc0 hk1
  have ec : 0 + (hp_c h2 - hp_c h) = mc := by omega
  have es : 0 + (hp_s h2 - hp_s h) = ms := by omega
  rw [ec, es]
  refine sc_catch (own := "RouteHouseLaw") (E := "java/lang/IndexOutOfBoundsException") (nm := "java/lang/IndexOutOfBoundsException") hown [] ⟨0, 7, 10, 13⟩ [⟨0, 7, 14, 15⟩] htab (fun _ h => absurd h List.not_mem_nil) (by decide) (by decide) (hall _ wx_267) (sx_word (State.WarmedH.refl s) rfl rfl (hxa.1 _ wl_279 rfl rfl)) hce hcv hcl ?_
  refine lv_astore hx hb d9_port_10 hl (by decide) rfl (fun ls2 hl2 => ?_)
  refine lv_iconst (v := 1) hx hb d9_port_12 (by decide) ?_
  subst hAe
  exact W.iret hx hb hr (fun t ht hW => ⟨f, trivial, rfl, by rw [ht]; exact sd_w_moved hW.alike hw1, by rw [ht]; exact sw_cmoved hW.alike hc1, hS1.F ht⟩) hS1.2.2 d9_port_13
set_option maxHeartbeats 4000000 in
set_option maxRecDepth 100000 in
theorem wt_port_1 {l : Launch} (hlt : l.stackTraces = false) (D : va_G) {ad : List Nat} {h : hp_T} {qa qo sz d f0 : Nat} {p0 p1 p2 : Int32} {f : Nat → Int64} {o : ev_O} (hev : ev_m d f0 47 [.ref 0, .int p0, .int p1, .int p2] h = some o) (hk0 : hp_k h 0 = some (7, 0)) (hqa : ad[0]? = some qa) (hkd : o.2.1 = h.1) {mc ms : Nat} (hmc : mc + hp_c h = hp_c o.2) (hms : ms + hp_s h = hp_s o.2) (ho : o.1 = .inr 1) : Met l yw_port ww_port (sw_rm 47 mc ms) (sw_P D ad h qo f sz [.ref qa, .int p0, .int p1, .int p2]) (sw_Q D ad o.2 qo sz 2 (fun _ => True)) mc ms (sd_fr (qo :: ad) sz) := by
  obtain ⟨r, h2⟩ := o
  cases ho
  have hmc : mc + hp_c h = hp_c h2 := hmc
  have hms : ms + hp_s h = hp_s h2 := hms
  refine va_MetW (cc := method_3_code) (maxL := 5) (ret := some .int) (hh := [(0, 7, 10, 13), (0, 7, 14, 15)]) (by decide +kernel) rfl ?_
  intro p e s m args below meth c s₁ B hml hv
  obtain ⟨rfl, hsz, hw, hc0, hxh, hxa, hg, hn⟩ := hv
  have hx := B.exec
  have hb := B.bytes
  have hr := B.returns
  have hts := atoms_spec (ws := ww_port) B.pre
  have hall : ∀ w ∈ tb_all, w.before _ s = true := fun w h => hts w (List.mem_cons_of_mem _ h)
  have hown : s.vm.findClass "RouteHouseLaw" = some m.cls := findClass_of_methodNamed B.named
  have hlocks := B.notSynchronized
  have htab := sw_tab B (hts _ List.mem_cons_self)
  subst hsz
  have hA : ∀ q, s.heap.size ≤ q → sd_fr (qo :: ad) s.heap.size q := fun q h => Or.inr h
  generalize hAe : sd_fr (qo :: ad) s.heap.size = A at hw hc0 hA
  have hR : sw_R s s.heap := ⟨hxh, hxa, hg, fun _ _ h _ => h⟩
  have hl := lv_entry ([.ref qa, .int p0, .int p1, .int p2]) (n := 5) (Nat.le_of_ble_eq_true rfl)
  rw [lg_entry_eq]
  generalize (lg_sl ([.ref qa, .int p0, .int p1, .int p2]) ++ List.replicate (5 - (lg_sl ([.ref qa, .int p0, .int p1, .int p2])).length) Slot.unset).toArray = ls at hl ⊢
  have hl : lv_has ls 5 [(0, .ref qa), (1, .int p0), (2, .int p1), (3, .int p2)] := hl
  refine lv_aload_n hx hb d9_port_0 rfl (lv_at hl 0 rfl) ?_
  refine lv_iload_n hx hb d9_port_1 rfl (lv_at hl 1 rfl) ?_
  refine lv_iload_n hx hb d9_port_2 rfl (lv_at hl 2 rfl) ?_
  refine lv_iload_n hx hb d9_port_3 rfl (lv_at hl 3 rfl) ?_
  refine sw_thr hlt (AsC := [.int p0, .int p1, .int p2]) (K := []) hev rfl hx hb hml hown hts (sw_good mt_47.2.2.1) (hall _ wx_269) mt_47 hall (Nat.le_refl _) (Nat.le_refl _) hw va_S.rf hA hR hk0 hqa ⟨rfl, rfl, rfl, trivial⟩ rfl hl.1 (Nat.le_of_ble_eq_true rfl) d9_port_4 (by show 0 + _ ≤ mc; omega) (by show 0 + _ ≤ ms; omega) (fun ce q z H1 locs1 hw1 hS1 hz1 hk1 hR1 hce hcv hcl => ?_)
  cases sw_z hw hw1 hkd
  rw [List.append_nil] at hw1
  have hc1 := sw_ck hc0 hk1
  have ec : 0 + (hp_c h2 - hp_c h) = mc := by omega
  have es : 0 + (hp_s h2 - hp_s h) = ms := by omega
  rw [ec, es]
  refine sc_catch (own := "RouteHouseLaw") (E := "java/lang/IllegalArgumentException") (nm := "java/lang/IllegalArgumentException") hown [⟨0, 7, 10, 13⟩] ⟨0, 7, 14, 15⟩ [] htab (List.forall_mem_cons.mpr ⟨⟨by decide, by decide, "java/lang/IndexOutOfBoundsException", hall _ wx_267, hn.2.1⟩, fun _ h => absurd h List.not_mem_nil⟩) (by decide) (by decide) (hall _ wx_268) (sx_word (State.WarmedH.refl s) rfl rfl (hxa.1 _ wl_347 rfl rfl)) hce hcv hcl ?_
  refine lv_astore hx hb d9_port_14 hl (by decide) rfl (fun ls2 hl2 => ?_)
  refine lv_iconst (v := 2) hx hb d9_port_16 (by decide) ?_
  subst hAe
  exact W.iret hx hb hr (fun t ht hW => ⟨f, trivial, rfl, by rw [ht]; exact sd_w_moved hW.alike hw1, by rw [ht]; exact sw_cmoved hW.alike hc1, hS1.F ht⟩) hS1.2.2 d9_port_17
theorem wx_364 : (Jvm.Cond.methodLink "RouteHouseLaw" (17 : Nat) ({ cls := "RouteHouse", name := "up", desc := "(IZ)Z" } : Jvm.MethodName)) ∈ tb_all := wd_o2 (i := 124) rfl rfl
theorem wx_363 : (Jvm.Cond.codeWith ({ cls := "RouteHouseLaw", name := "up", desc := "(LRouteHouse;IZ[J)I" } : Jvm.MethodName) method_4_code (5 : Nat) (Option.some Jvm.ClassFile.FieldType.int) [((0 : Nat), (17 : Nat), (20 : Nat), (13 : Nat))]) ∈ tb_all := wd_o2 (i := 123) rfl rfl
theorem d9_up_0 : decode method_4_code 0 = .ok (.aload_n 3, 1) := by decide +kernel
theorem d9_up_1 : decode method_4_code 1 = .ok (.iconst 0, 1) := by decide +kernel
theorem d9_up_2 : decode method_4_code 2 = .ok (.aload_n 0, 1) := by decide +kernel
theorem d9_up_3 : decode method_4_code 3 = .ok (.iload_n 1, 1) := by decide +kernel
theorem d9_up_4 : decode method_4_code 4 = .ok (.iload_n 2, 1) := by decide +kernel
theorem d9_up_5 : decode method_4_code 5 = .ok (.invokevirtual 17, 3) := by decide +kernel
theorem d9_up_8 : decode method_4_code 8 = .ok (.ifCond .eq 7, 3) := by decide +kernel
theorem d9_up_11 : decode method_4_code 11 = .ok (.lconst 1, 1) := by decide +kernel
theorem d9_up_12 : decode method_4_code 12 = .ok (.goto 4, 3) := by decide +kernel
theorem d9_up_15 : decode method_4_code 15 = .ok (.lconst 0, 1) := by decide +kernel
theorem d9_up_16 : decode method_4_code 16 = .ok (.lastore, 1) := by decide +kernel
theorem d9_up_17 : decode method_4_code 17 = .ok (.goto 7, 3) := by decide +kernel
theorem d9_up_20 : decode method_4_code 20 = .ok (.astore 4, 2) := by decide +kernel
theorem d9_up_22 : decode method_4_code 22 = .ok (.iconst 1, 1) := by decide +kernel
theorem d9_up_23 : decode method_4_code 23 = .ok (.ireturn, 1) := by decide +kernel
theorem d9_up_24 : decode method_4_code 24 = .ok (.iconst 0, 1) := by decide +kernel
theorem d9_up_25 : decode method_4_code 25 = .ok (.ireturn, 1) := by decide +kernel
def yw_up : MethodName := ⟨"RouteHouseLaw", "up", "(LRouteHouse;IZ[J)I"⟩
def ww_up : List Jvm.Cond := .codeWith yw_up method_4_code 5 (some .int) [(0, 17, 20, 13)] :: tb_all
set_option maxHeartbeats 4000000 in
set_option maxRecDepth 100000 in
theorem wr_up {l : Launch} (hlt : l.stackTraces = false) (D : va_G) {ad : List Nat} {h : hp_T} {qa qo sz d f0 : Nat} {p0 p1 : Int32} {f : Nat → Int64} {o : ev_O} (hev : ev_m d f0 48 [.ref 0, .int p0, .int p1] h = some o) (hk0 : hp_k h 0 = some (7, 0)) (hqa : ad[0]? = some qa) (hkd : o.2.1 = h.1) {mc ms : Nat} (hmc : mc + hp_c h = hp_c o.2) (hms : ms + hp_s h = hp_s o.2) {v : Int32} (hv01 : v = 0 ∨ v = 1) (ho : o.1 = .inl (some (.int v))) : Met l yw_up ww_up (sw_rm 48 mc ms) (sw_P D ad h qo f sz [.ref qa, .int p0, .int p1, .ref qo]) (sw_Q D ad o.2 qo sz 0 (fun f2 => f2 0 = v.toInt64)) mc ms (sd_fr (qo :: ad) sz) := by
  obtain ⟨r, h2⟩ := o
  cases ho
  have hmc : mc + hp_c h = hp_c h2 := hmc
  have hms : ms + hp_s h = hp_s h2 := hms
  refine va_MetW (cc := method_4_code) (maxL := 5) (ret := some .int) (hh := [(0, 17, 20, 13)]) (by decide +kernel) rfl ?_
  intro p e s m args below meth c s₁ B hml hv
  obtain ⟨rfl, hsz, hw, hc0, hxh, hxa, hg, hn⟩ := hv
  have hx := B.exec
  have hb := B.bytes
  have hr := B.returns
  have hts := atoms_spec (ws := ww_up) B.pre
  have hall : ∀ w ∈ tb_all, w.before _ s = true := fun w h => hts w (List.mem_cons_of_mem _ h)
  have hown : s.vm.findClass "RouteHouseLaw" = some m.cls := findClass_of_methodNamed B.named
  have hlocks := B.notSynchronized
  have htab := sw_tab B (hts _ List.mem_cons_self)
  subst hsz
  have hA : ∀ q, s.heap.size ≤ q → sd_fr (qo :: ad) s.heap.size q := fun q h => Or.inr h
  generalize hAe : sd_fr (qo :: ad) s.heap.size = A at hw hc0 hA
  have hR : sw_R s s.heap := ⟨hxh, hxa, hg, fun _ _ h _ => h⟩
  have hl := lv_entry ([.ref qa, .int p0, .int p1, .ref qo]) (n := 5) (Nat.le_of_ble_eq_true rfl)
  rw [lg_entry_eq]
  generalize (lg_sl ([.ref qa, .int p0, .int p1, .ref qo]) ++ List.replicate (5 - (lg_sl ([.ref qa, .int p0, .int p1, .ref qo])).length) Slot.unset).toArray = ls at hl ⊢
  have hl : lv_has ls 5 [(0, .ref qa), (1, .int p0), (2, .int p1), (3, .ref qo)] := hl
  refine lv_aload_n hx hb d9_up_0 rfl (lv_at hl 3 rfl) ?_
  refine lv_iconst (v := 0) hx hb d9_up_1 (by decide) ?_
  refine lv_aload_n hx hb d9_up_2 rfl (lv_at hl 0 rfl) ?_
  refine lv_iload_n hx hb d9_up_3 rfl (lv_at hl 1 rfl) ?_
  refine lv_iload_n hx hb d9_up_4 rfl (lv_at hl 2 rfl) ?_
  refine sw_ret hlt (AsC := [.int p0, .int p1]) (K := [.int 0, .ref qo]) hev rfl hx hb hml hown hts (sw_good mt_48.2.2.1) (hall _ wx_364) mt_48 hall (Nat.le_refl _) (Nat.le_refl _) hw va_S.rf hA hR hk0 hqa ⟨rfl, rfl, trivial⟩ rfl hl.1 (Nat.le_of_ble_eq_true rfl) d9_up_5 (by show 0 + _ ≤ mc; omega) (by show 0 + _ ≤ ms; omega) (fun w z H1 locs1 hw1 hS1 hq1 hz1 hk1 hR1 => ?_)
  cases sw_z hw hw1 hkd
  rw [List.append_nil] at hw1 hq1
  have hc1 := sw_ck hc0 hk1
  have ec : 0 + (hp_c h2 - hp_c h) = mc := by omega
  have es : 0 + (hp_s h2 - hp_s h) = ms := by omega
  rw [ec, es]
  cases w with
  | none => exact False.elim hq1
  | some w =>
    have hq2 : w = .int v := hq1.1
    subst hq2
    refine W.eq (g2 := F0 m 8 ls [.int v, .int 0, .ref qo]) rfl ?_
    refine lv_if_eq (tgt := 15) hx hb d9_up_8 (by decide) (fun h9 => ?_) (fun h9 => ?_)
    · subst h9
      refine lv_lconst (v := 0) hx hb d9_up_15 (by decide) ?_
      refine sw_last hx hb hw1 hc1 hS1 d9_up_16 (fun H2 locs2 hw2 hc2 hS2 => ?_)
      refine lv_goto (tgt := 24) hx hb d9_up_17 (by decide) ?_
      refine lv_iconst (v := 0) hx hb d9_up_24 (by decide) ?_
      subst hAe
      exact W.iret hx hb hr (fun t ht hW => ⟨_, pk_uLs, rfl, by rw [ht]; exact sd_w_moved hW.alike hw2, by rw [ht]; exact sw_cmoved hW.alike hc2, hS2.F ht⟩) hS2.2.2 d9_up_25
    · have h8 : v = 1 := hv01.resolve_left h9
      subst h8
      refine lv_lconst (v := 1) hx hb d9_up_11 (by decide) ?_
      refine lv_goto (tgt := 16) hx hb d9_up_12 (by decide) ?_
      refine sw_last hx hb hw1 hc1 hS1 d9_up_16 (fun H2 locs2 hw2 hc2 hS2 => ?_)
      refine lv_goto (tgt := 24) hx hb d9_up_17 (by decide) ?_
      refine lv_iconst (v := 0) hx hb d9_up_24 (by decide) ?_
      subst hAe
      exact W.iret hx hb hr (fun t ht hW => ⟨_, pk_uLs, rfl, by rw [ht]; exact sd_w_moved hW.alike hw2, by rw [ht]; exact sw_cmoved hW.alike hc2, hS2.F ht⟩) hS2.2.2 d9_up_25
set_option maxHeartbeats 4000000 in
set_option maxRecDepth 100000 in
theorem wt_up_0 {l : Launch} (hlt : l.stackTraces = false) (D : va_G) {ad : List Nat} {h : hp_T} {qa qo sz d f0 : Nat} {p0 p1 : Int32} {f : Nat → Int64} {o : ev_O} (hev : ev_m d f0 48 [.ref 0, .int p0, .int p1] h = some o) (hk0 : hp_k h 0 = some (7, 0)) (hqa : ad[0]? = some qa) (hkd : o.2.1 = h.1) {mc ms : Nat} (hmc : mc + hp_c h = hp_c o.2) (hms : ms + hp_s h = hp_s o.2) (ho : o.1 = .inr 0) : Met l yw_up ww_up (sw_rm 48 mc ms) (sw_P D ad h qo f sz [.ref qa, .int p0, .int p1, .ref qo]) (sw_Q D ad o.2 qo sz 1 (fun _ => True)) mc ms (sd_fr (qo :: ad) sz) := by
  obtain ⟨r, h2⟩ := o
  cases ho
  have hmc : mc + hp_c h = hp_c h2 := hmc
  have hms : ms + hp_s h = hp_s h2 := hms
  refine va_MetW (cc := method_4_code) (maxL := 5) (ret := some .int) (hh := [(0, 17, 20, 13)]) (by decide +kernel) rfl ?_
  intro p e s m args below meth c s₁ B hml hv
  obtain ⟨rfl, hsz, hw, hc0, hxh, hxa, hg, hn⟩ := hv
  have hx := B.exec
  have hb := B.bytes
  have hr := B.returns
  have hts := atoms_spec (ws := ww_up) B.pre
  have hall : ∀ w ∈ tb_all, w.before _ s = true := fun w h => hts w (List.mem_cons_of_mem _ h)
  have hown : s.vm.findClass "RouteHouseLaw" = some m.cls := findClass_of_methodNamed B.named
  have hlocks := B.notSynchronized
  have htab := sw_tab B (hts _ List.mem_cons_self)
  subst hsz
  have hA : ∀ q, s.heap.size ≤ q → sd_fr (qo :: ad) s.heap.size q := fun q h => Or.inr h
  generalize hAe : sd_fr (qo :: ad) s.heap.size = A at hw hc0 hA
  have hR : sw_R s s.heap := ⟨hxh, hxa, hg, fun _ _ h _ => h⟩
  have hl := lv_entry ([.ref qa, .int p0, .int p1, .ref qo]) (n := 5) (Nat.le_of_ble_eq_true rfl)
  rw [lg_entry_eq]
  generalize (lg_sl ([.ref qa, .int p0, .int p1, .ref qo]) ++ List.replicate (5 - (lg_sl ([.ref qa, .int p0, .int p1, .ref qo])).length) Slot.unset).toArray = ls at hl ⊢
  have hl : lv_has ls 5 [(0, .ref qa), (1, .int p0), (2, .int p1), (3, .ref qo)] := hl
  refine lv_aload_n hx hb d9_up_0 rfl (lv_at hl 3 rfl) ?_
  refine lv_iconst (v := 0) hx hb d9_up_1 (by decide) ?_
  refine lv_aload_n hx hb d9_up_2 rfl (lv_at hl 0 rfl) ?_
  refine lv_iload_n hx hb d9_up_3 rfl (lv_at hl 1 rfl) ?_
  refine lv_iload_n hx hb d9_up_4 rfl (lv_at hl 2 rfl) ?_
  refine sw_thr hlt (AsC := [.int p0, .int p1]) (K := [.int 0, .ref qo]) hev rfl hx hb hml hown hts (sw_good mt_48.2.2.1) (hall _ wx_364) mt_48 hall (Nat.le_refl _) (Nat.le_refl _) hw va_S.rf hA hR hk0 hqa ⟨rfl, rfl, trivial⟩ rfl hl.1 (Nat.le_of_ble_eq_true rfl) d9_up_5 (by show 0 + _ ≤ mc; omega) (by show 0 + _ ≤ ms; omega) (fun ce q z H1 locs1 hw1 hS1 hz1 hk1 hR1 hce hcv hcl => ?_)
  cases sw_z hw hw1 hkd
  rw [List.append_nil] at hw1
  have hc1 := sw_ck hc0 hk1
  have ec : 0 + (hp_c h2 - hp_c h) = mc := by omega
  have es : 0 + (hp_s h2 - hp_s h) = ms := by omega
  rw [ec, es]
  refine sc_catch (own := "RouteHouseLaw") (E := "java/lang/IndexOutOfBoundsException") (nm := "java/lang/IndexOutOfBoundsException") hown [] ⟨0, 17, 20, 13⟩ [] htab (fun _ h => absurd h List.not_mem_nil) (by decide) (by decide) (hall _ wx_267) (sx_word (State.WarmedH.refl s) rfl rfl (hxa.1 _ wl_279 rfl rfl)) hce hcv hcl ?_
  refine lv_astore hx hb d9_up_20 hl (by decide) rfl (fun ls2 hl2 => ?_)
  refine lv_iconst (v := 1) hx hb d9_up_22 (by decide) ?_
  subst hAe
  exact W.iret hx hb hr (fun t ht hW => ⟨f, trivial, rfl, by rw [ht]; exact sd_w_moved hW.alike hw1, by rw [ht]; exact sw_cmoved hW.alike hc1, hS1.F ht⟩) hS1.2.2 d9_up_23
theorem wx_372 : (Jvm.Cond.methodLink "RouteHouseLaw" (21 : Nat) ({ cls := "RouteHouse", name := "route", desc := "(IIII)I" } : Jvm.MethodName)) ∈ tb_all := wd_o2 (i := 132) rfl rfl
theorem wx_370 : (Jvm.Cond.codeWith ({ cls := "RouteHouseLaw", name := "route", desc := "(LRouteHouse;IIII[J)I" } : Jvm.MethodName) method_5_code (7 : Nat) (Option.some Jvm.ClassFile.FieldType.int) [((0 : Nat), (14 : Nat), (17 : Nat), (15 : Nat)), ((0 : Nat), (14 : Nat), (21 : Nat), (13 : Nat)), ((0 : Nat), (14 : Nat), (25 : Nat), (25 : Nat))]) ∈ tb_all := wd_o2 (i := 130) rfl rfl
theorem wx_371 : (Jvm.Cond.classLink "RouteHouseLaw" (25 : Nat) "java/lang/UnsupportedOperationException") ∈ tb_all := wd_o2 (i := 131) rfl rfl
theorem d9_route_0 : decode method_5_code 0 = .ok (.aload 5, 2) := by decide +kernel
theorem d9_route_2 : decode method_5_code 2 = .ok (.iconst 0, 1) := by decide +kernel
theorem d9_route_3 : decode method_5_code 3 = .ok (.aload_n 0, 1) := by decide +kernel
theorem d9_route_4 : decode method_5_code 4 = .ok (.iload_n 1, 1) := by decide +kernel
theorem d9_route_5 : decode method_5_code 5 = .ok (.iload_n 2, 1) := by decide +kernel
theorem d9_route_6 : decode method_5_code 6 = .ok (.iload_n 3, 1) := by decide +kernel
theorem d9_route_7 : decode method_5_code 7 = .ok (.iload 4, 2) := by decide +kernel
theorem d9_route_9 : decode method_5_code 9 = .ok (.invokevirtual 21, 3) := by decide +kernel
theorem d9_route_12 : decode method_5_code 12 = .ok (.i2l, 1) := by decide +kernel
theorem d9_route_13 : decode method_5_code 13 = .ok (.lastore, 1) := by decide +kernel
theorem d9_route_14 : decode method_5_code 14 = .ok (.goto 15, 3) := by decide +kernel
theorem d9_route_17 : decode method_5_code 17 = .ok (.astore 6, 2) := by decide +kernel
theorem d9_route_19 : decode method_5_code 19 = .ok (.iconst 1, 1) := by decide +kernel
theorem d9_route_20 : decode method_5_code 20 = .ok (.ireturn, 1) := by decide +kernel
theorem d9_route_21 : decode method_5_code 21 = .ok (.astore 6, 2) := by decide +kernel
theorem d9_route_23 : decode method_5_code 23 = .ok (.iconst 2, 1) := by decide +kernel
theorem d9_route_24 : decode method_5_code 24 = .ok (.ireturn, 1) := by decide +kernel
theorem d9_route_25 : decode method_5_code 25 = .ok (.astore 6, 2) := by decide +kernel
theorem d9_route_27 : decode method_5_code 27 = .ok (.iconst 3, 1) := by decide +kernel
theorem d9_route_28 : decode method_5_code 28 = .ok (.ireturn, 1) := by decide +kernel
theorem d9_route_29 : decode method_5_code 29 = .ok (.iconst 0, 1) := by decide +kernel
theorem d9_route_30 : decode method_5_code 30 = .ok (.ireturn, 1) := by decide +kernel
def yw_route : MethodName := ⟨"RouteHouseLaw", "route", "(LRouteHouse;IIII[J)I"⟩
def ww_route : List Jvm.Cond := .codeWith yw_route method_5_code 7 (some .int) [(0, 14, 17, 15), (0, 14, 21, 13), (0, 14, 25, 25)] :: tb_all
set_option maxHeartbeats 4000000 in
set_option maxRecDepth 100000 in
theorem wr_route {l : Launch} (hlt : l.stackTraces = false) (D : va_G) {ad : List Nat} {h : hp_T} {qa qo sz d f0 : Nat} {p0 p1 p2 p3 : Int32} {f : Nat → Int64} {o : ev_O} (hev : ev_m d f0 49 [.ref 0, .int p0, .int p1, .int p2, .int p3] h = some o) (hk0 : hp_k h 0 = some (7, 0)) (hqa : ad[0]? = some qa) (hkd : o.2.1 = h.1) {mc ms : Nat} (hmc : mc + hp_c h = hp_c o.2) (hms : ms + hp_s h = hp_s o.2) {v : Int32} (ho : o.1 = .inl (some (.int v))) : Met l yw_route ww_route (sw_rm 49 mc ms) (sw_P D ad h qo f sz [.ref qa, .int p0, .int p1, .int p2, .int p3, .ref qo]) (sw_Q D ad o.2 qo sz 0 (fun f2 => f2 0 = v.toInt64)) mc ms (sd_fr (qo :: ad) sz) := by
  obtain ⟨r, h2⟩ := o
  cases ho
  have hmc : mc + hp_c h = hp_c h2 := hmc
  have hms : ms + hp_s h = hp_s h2 := hms
  refine va_MetW (cc := method_5_code) (maxL := 7) (ret := some .int) (hh := [(0, 14, 17, 15), (0, 14, 21, 13), (0, 14, 25, 25)]) (by decide +kernel) rfl ?_
  intro p e s m args below meth c s₁ B hml hv
  obtain ⟨rfl, hsz, hw, hc0, hxh, hxa, hg, hn⟩ := hv
  have hx := B.exec
  have hb := B.bytes
  have hr := B.returns
  have hts := atoms_spec (ws := ww_route) B.pre
  have hall : ∀ w ∈ tb_all, w.before _ s = true := fun w h => hts w (List.mem_cons_of_mem _ h)
  have hown : s.vm.findClass "RouteHouseLaw" = some m.cls := findClass_of_methodNamed B.named
  have hlocks := B.notSynchronized
  have htab := sw_tab B (hts _ List.mem_cons_self)
  subst hsz
  have hA : ∀ q, s.heap.size ≤ q → sd_fr (qo :: ad) s.heap.size q := fun q h => Or.inr h
  generalize hAe : sd_fr (qo :: ad) s.heap.size = A at hw hc0 hA
  have hR : sw_R s s.heap := ⟨hxh, hxa, hg, fun _ _ h _ => h⟩
  have hl := lv_entry ([.ref qa, .int p0, .int p1, .int p2, .int p3, .ref qo]) (n := 7) (Nat.le_of_ble_eq_true rfl)
  rw [lg_entry_eq]
  generalize (lg_sl ([.ref qa, .int p0, .int p1, .int p2, .int p3, .ref qo]) ++ List.replicate (7 - (lg_sl ([.ref qa, .int p0, .int p1, .int p2, .int p3, .ref qo])).length) Slot.unset).toArray = ls at hl ⊢
  have hl : lv_has ls 7 [(0, .ref qa), (1, .int p0), (2, .int p1), (3, .int p2), (4, .int p3), (5, .ref qo)] := hl
  refine lv_aload hx hb d9_route_0 (lv_at hl 5 rfl) ?_
  refine lv_iconst (v := 0) hx hb d9_route_2 (by decide) ?_
  refine lv_aload_n hx hb d9_route_3 rfl (lv_at hl 0 rfl) ?_
  refine lv_iload_n hx hb d9_route_4 rfl (lv_at hl 1 rfl) ?_
  refine lv_iload_n hx hb d9_route_5 rfl (lv_at hl 2 rfl) ?_
  refine lv_iload_n hx hb d9_route_6 rfl (lv_at hl 3 rfl) ?_
  refine lv_iload hx hb d9_route_7 (lv_at hl 4 rfl) ?_
  refine sw_ret hlt (AsC := [.int p0, .int p1, .int p2, .int p3]) (K := [.int 0, .ref qo]) hev rfl hx hb hml hown hts (sw_good mt_49.2.2.1) (hall _ wx_372) mt_49 hall (Nat.le_refl _) (Nat.le_refl _) hw va_S.rf hA hR hk0 hqa ⟨rfl, rfl, rfl, rfl, trivial⟩ rfl hl.1 (Nat.le_of_ble_eq_true rfl) d9_route_9 (by show 0 + _ ≤ mc; omega) (by show 0 + _ ≤ ms; omega) (fun w z H1 locs1 hw1 hS1 hq1 hz1 hk1 hR1 => ?_)
  cases sw_z hw hw1 hkd
  rw [List.append_nil] at hw1 hq1
  have hc1 := sw_ck hc0 hk1
  have ec : 0 + (hp_c h2 - hp_c h) = mc := by omega
  have es : 0 + (hp_s h2 - hp_s h) = ms := by omega
  rw [ec, es]
  cases w with
  | none => exact False.elim hq1
  | some w =>
    have hq2 : w = .int v := hq1.1
    subst hq2
    refine W.eq (g2 := F0 m 12 ls [.int v, .int 0, .ref qo]) rfl ?_
    refine lv_i2l hx hb d9_route_12 rfl ?_
    refine sw_last hx hb hw1 hc1 hS1 d9_route_13 (fun H2 locs2 hw2 hc2 hS2 => ?_)
    refine lv_goto (tgt := 29) hx hb d9_route_14 (by decide) ?_
    refine lv_iconst (v := 0) hx hb d9_route_29 (by decide) ?_
    subst hAe
    exact W.iret hx hb hr (fun t ht hW => ⟨_, pk_uLs, rfl, by rw [ht]; exact sd_w_moved hW.alike hw2, by rw [ht]; exact sw_cmoved hW.alike hc2, hS2.F ht⟩) hS2.2.2 d9_route_30
set_option maxHeartbeats 4000000 in
set_option maxRecDepth 100000 in
theorem wt_route_1 {l : Launch} (hlt : l.stackTraces = false) (D : va_G) {ad : List Nat} {h : hp_T} {qa qo sz d f0 : Nat} {p0 p1 p2 p3 : Int32} {f : Nat → Int64} {o : ev_O} (hev : ev_m d f0 49 [.ref 0, .int p0, .int p1, .int p2, .int p3] h = some o) (hk0 : hp_k h 0 = some (7, 0)) (hqa : ad[0]? = some qa) (hkd : o.2.1 = h.1) {mc ms : Nat} (hmc : mc + hp_c h = hp_c o.2) (hms : ms + hp_s h = hp_s o.2) (ho : o.1 = .inr 1) : Met l yw_route ww_route (sw_rm 49 mc ms) (sw_P D ad h qo f sz [.ref qa, .int p0, .int p1, .int p2, .int p3, .ref qo]) (sw_Q D ad o.2 qo sz 1 (fun _ => True)) mc ms (sd_fr (qo :: ad) sz) := by
  obtain ⟨r, h2⟩ := o
  cases ho
  have hmc : mc + hp_c h = hp_c h2 := hmc
  have hms : ms + hp_s h = hp_s h2 := hms
  refine va_MetW (cc := method_5_code) (maxL := 7) (ret := some .int) (hh := [(0, 14, 17, 15), (0, 14, 21, 13), (0, 14, 25, 25)]) (by decide +kernel) rfl ?_
  intro p e s m args below meth c s₁ B hml hv
  obtain ⟨rfl, hsz, hw, hc0, hxh, hxa, hg, hn⟩ := hv
  have hx := B.exec
  have hb := B.bytes
  have hr := B.returns
  have hts := atoms_spec (ws := ww_route) B.pre
  have hall : ∀ w ∈ tb_all, w.before _ s = true := fun w h => hts w (List.mem_cons_of_mem _ h)
  have hown : s.vm.findClass "RouteHouseLaw" = some m.cls := findClass_of_methodNamed B.named
  have hlocks := B.notSynchronized
  have htab := sw_tab B (hts _ List.mem_cons_self)
  subst hsz
  have hA : ∀ q, s.heap.size ≤ q → sd_fr (qo :: ad) s.heap.size q := fun q h => Or.inr h
  generalize hAe : sd_fr (qo :: ad) s.heap.size = A at hw hc0 hA
  have hR : sw_R s s.heap := ⟨hxh, hxa, hg, fun _ _ h _ => h⟩
  have hl := lv_entry ([.ref qa, .int p0, .int p1, .int p2, .int p3, .ref qo]) (n := 7) (Nat.le_of_ble_eq_true rfl)
  rw [lg_entry_eq]
  generalize (lg_sl ([.ref qa, .int p0, .int p1, .int p2, .int p3, .ref qo]) ++ List.replicate (7 - (lg_sl ([.ref qa, .int p0, .int p1, .int p2, .int p3, .ref qo])).length) Slot.unset).toArray = ls at hl ⊢
  have hl : lv_has ls 7 [(0, .ref qa), (1, .int p0), (2, .int p1), (3, .int p2), (4, .int p3), (5, .ref qo)] := hl
  refine lv_aload hx hb d9_route_0 (lv_at hl 5 rfl) ?_
  refine lv_iconst (v := 0) hx hb d9_route_2 (by decide) ?_
  refine lv_aload_n hx hb d9_route_3 rfl (lv_at hl 0 rfl) ?_
  refine lv_iload_n hx hb d9_route_4 rfl (lv_at hl 1 rfl) ?_
  refine lv_iload_n hx hb d9_route_5 rfl (lv_at hl 2 rfl) ?_
  refine lv_iload_n hx hb d9_route_6 rfl (lv_at hl 3 rfl) ?_
  refine lv_iload hx hb d9_route_7 (lv_at hl 4 rfl) ?_
  refine sw_thr hlt (AsC := [.int p0, .int p1, .int p2, .int p3]) (K := [.int 0, .ref qo]) hev rfl hx hb hml hown hts (sw_good mt_49.2.2.1) (hall _ wx_372) mt_49 hall (Nat.le_refl _) (Nat.le_refl _) hw va_S.rf hA hR hk0 hqa ⟨rfl, rfl, rfl, rfl, trivial⟩ rfl hl.1 (Nat.le_of_ble_eq_true rfl) d9_route_9 (by show 0 + _ ≤ mc; omega) (by show 0 + _ ≤ ms; omega) (fun ce q z H1 locs1 hw1 hS1 hz1 hk1 hR1 hce hcv hcl => ?_)
  cases sw_z hw hw1 hkd
  rw [List.append_nil] at hw1
  have hc1 := sw_ck hc0 hk1
  have ec : 0 + (hp_c h2 - hp_c h) = mc := by omega
  have es : 0 + (hp_s h2 - hp_s h) = ms := by omega
  rw [ec, es]
  refine sc_catch (own := "RouteHouseLaw") (E := "java/lang/IllegalArgumentException") (nm := "java/lang/IllegalArgumentException") hown [] ⟨0, 14, 17, 15⟩ [⟨0, 14, 21, 13⟩, ⟨0, 14, 25, 25⟩] htab (fun _ h => absurd h List.not_mem_nil) (by decide) (by decide) (hall _ wx_268) (sx_word (State.WarmedH.refl s) rfl rfl (hxa.1 _ wl_347 rfl rfl)) hce hcv hcl ?_
  refine lv_astore hx hb d9_route_17 hl (by decide) rfl (fun ls2 hl2 => ?_)
  refine lv_iconst (v := 1) hx hb d9_route_19 (by decide) ?_
  subst hAe
  exact W.iret hx hb hr (fun t ht hW => ⟨f, trivial, rfl, by rw [ht]; exact sd_w_moved hW.alike hw1, by rw [ht]; exact sw_cmoved hW.alike hc1, hS1.F ht⟩) hS1.2.2 d9_route_20
set_option maxHeartbeats 4000000 in
set_option maxRecDepth 100000 in
theorem wt_route_0 {l : Launch} (hlt : l.stackTraces = false) (D : va_G) {ad : List Nat} {h : hp_T} {qa qo sz d f0 : Nat} {p0 p1 p2 p3 : Int32} {f : Nat → Int64} {o : ev_O} (hev : ev_m d f0 49 [.ref 0, .int p0, .int p1, .int p2, .int p3] h = some o) (hk0 : hp_k h 0 = some (7, 0)) (hqa : ad[0]? = some qa) (hkd : o.2.1 = h.1) {mc ms : Nat} (hmc : mc + hp_c h = hp_c o.2) (hms : ms + hp_s h = hp_s o.2) (ho : o.1 = .inr 0) : Met l yw_route ww_route (sw_rm 49 mc ms) (sw_P D ad h qo f sz [.ref qa, .int p0, .int p1, .int p2, .int p3, .ref qo]) (sw_Q D ad o.2 qo sz 2 (fun _ => True)) mc ms (sd_fr (qo :: ad) sz) := by
  obtain ⟨r, h2⟩ := o
  cases ho
  have hmc : mc + hp_c h = hp_c h2 := hmc
  have hms : ms + hp_s h = hp_s h2 := hms
  refine va_MetW (cc := method_5_code) (maxL := 7) (ret := some .int) (hh := [(0, 14, 17, 15), (0, 14, 21, 13), (0, 14, 25, 25)]) (by decide +kernel) rfl ?_
  intro p e s m args below meth c s₁ B hml hv
  obtain ⟨rfl, hsz, hw, hc0, hxh, hxa, hg, hn⟩ := hv
  have hx := B.exec
  have hb := B.bytes
  have hr := B.returns
  have hts := atoms_spec (ws := ww_route) B.pre
  have hall : ∀ w ∈ tb_all, w.before _ s = true := fun w h => hts w (List.mem_cons_of_mem _ h)
  have hown : s.vm.findClass "RouteHouseLaw" = some m.cls := findClass_of_methodNamed B.named
  have hlocks := B.notSynchronized
  have htab := sw_tab B (hts _ List.mem_cons_self)
  subst hsz
  have hA : ∀ q, s.heap.size ≤ q → sd_fr (qo :: ad) s.heap.size q := fun q h => Or.inr h
  generalize hAe : sd_fr (qo :: ad) s.heap.size = A at hw hc0 hA
  have hR : sw_R s s.heap := ⟨hxh, hxa, hg, fun _ _ h _ => h⟩
  have hl := lv_entry ([.ref qa, .int p0, .int p1, .int p2, .int p3, .ref qo]) (n := 7) (Nat.le_of_ble_eq_true rfl)
  rw [lg_entry_eq]
  generalize (lg_sl ([.ref qa, .int p0, .int p1, .int p2, .int p3, .ref qo]) ++ List.replicate (7 - (lg_sl ([.ref qa, .int p0, .int p1, .int p2, .int p3, .ref qo])).length) Slot.unset).toArray = ls at hl ⊢
  have hl : lv_has ls 7 [(0, .ref qa), (1, .int p0), (2, .int p1), (3, .int p2), (4, .int p3), (5, .ref qo)] := hl
  refine lv_aload hx hb d9_route_0 (lv_at hl 5 rfl) ?_
  refine lv_iconst (v := 0) hx hb d9_route_2 (by decide) ?_
  refine lv_aload_n hx hb d9_route_3 rfl (lv_at hl 0 rfl) ?_
  refine lv_iload_n hx hb d9_route_4 rfl (lv_at hl 1 rfl) ?_
  refine lv_iload_n hx hb d9_route_5 rfl (lv_at hl 2 rfl) ?_
  refine lv_iload_n hx hb d9_route_6 rfl (lv_at hl 3 rfl) ?_
  refine lv_iload hx hb d9_route_7 (lv_at hl 4 rfl) ?_
  refine sw_thr hlt (AsC := [.int p0, .int p1, .int p2, .int p3]) (K := [.int 0, .ref qo]) hev rfl hx hb hml hown hts (sw_good mt_49.2.2.1) (hall _ wx_372) mt_49 hall (Nat.le_refl _) (Nat.le_refl _) hw va_S.rf hA hR hk0 hqa ⟨rfl, rfl, rfl, rfl, trivial⟩ rfl hl.1 (Nat.le_of_ble_eq_true rfl) d9_route_9 (by show 0 + _ ≤ mc; omega) (by show 0 + _ ≤ ms; omega) (fun ce q z H1 locs1 hw1 hS1 hz1 hk1 hR1 hce hcv hcl => ?_)
  cases sw_z hw hw1 hkd
  rw [List.append_nil] at hw1
  have hc1 := sw_ck hc0 hk1
  have ec : 0 + (hp_c h2 - hp_c h) = mc := by omega
  have es : 0 + (hp_s h2 - hp_s h) = ms := by omega
  rw [ec, es]
  refine sc_catch (own := "RouteHouseLaw") (E := "java/lang/IndexOutOfBoundsException") (nm := "java/lang/IndexOutOfBoundsException") hown [⟨0, 14, 17, 15⟩] ⟨0, 14, 21, 13⟩ [⟨0, 14, 25, 25⟩] htab (List.forall_mem_cons.mpr ⟨⟨by decide, by decide, "java/lang/IllegalArgumentException", hall _ wx_268, hn.1⟩, fun _ h => absurd h List.not_mem_nil⟩) (by decide) (by decide) (hall _ wx_267) (sx_word (State.WarmedH.refl s) rfl rfl (hxa.1 _ wl_279 rfl rfl)) hce hcv hcl ?_
  refine lv_astore hx hb d9_route_21 hl (by decide) rfl (fun ls2 hl2 => ?_)
  refine lv_iconst (v := 2) hx hb d9_route_23 (by decide) ?_
  subst hAe
  exact W.iret hx hb hr (fun t ht hW => ⟨f, trivial, rfl, by rw [ht]; exact sd_w_moved hW.alike hw1, by rw [ht]; exact sw_cmoved hW.alike hc1, hS1.F ht⟩) hS1.2.2 d9_route_24
set_option maxHeartbeats 4000000 in
set_option maxRecDepth 100000 in
theorem wt_route_2 {l : Launch} (hlt : l.stackTraces = false) (D : va_G) {ad : List Nat} {h : hp_T} {qa qo sz d f0 : Nat} {p0 p1 p2 p3 : Int32} {f : Nat → Int64} {o : ev_O} (hev : ev_m d f0 49 [.ref 0, .int p0, .int p1, .int p2, .int p3] h = some o) (hk0 : hp_k h 0 = some (7, 0)) (hqa : ad[0]? = some qa) (hkd : o.2.1 = h.1) {mc ms : Nat} (hmc : mc + hp_c h = hp_c o.2) (hms : ms + hp_s h = hp_s o.2) (ho : o.1 = .inr 2) : Met l yw_route ww_route (sw_rm 49 mc ms) (sw_P D ad h qo f sz [.ref qa, .int p0, .int p1, .int p2, .int p3, .ref qo]) (sw_Q D ad o.2 qo sz 3 (fun _ => True)) mc ms (sd_fr (qo :: ad) sz) := by
  obtain ⟨r, h2⟩ := o
  cases ho
  have hmc : mc + hp_c h = hp_c h2 := hmc
  have hms : ms + hp_s h = hp_s h2 := hms
  refine va_MetW (cc := method_5_code) (maxL := 7) (ret := some .int) (hh := [(0, 14, 17, 15), (0, 14, 21, 13), (0, 14, 25, 25)]) (by decide +kernel) rfl ?_
  intro p e s m args below meth c s₁ B hml hv
  obtain ⟨rfl, hsz, hw, hc0, hxh, hxa, hg, hn⟩ := hv
  have hx := B.exec
  have hb := B.bytes
  have hr := B.returns
  have hts := atoms_spec (ws := ww_route) B.pre
  have hall : ∀ w ∈ tb_all, w.before _ s = true := fun w h => hts w (List.mem_cons_of_mem _ h)
  have hown : s.vm.findClass "RouteHouseLaw" = some m.cls := findClass_of_methodNamed B.named
  have hlocks := B.notSynchronized
  have htab := sw_tab B (hts _ List.mem_cons_self)
  subst hsz
  have hA : ∀ q, s.heap.size ≤ q → sd_fr (qo :: ad) s.heap.size q := fun q h => Or.inr h
  generalize hAe : sd_fr (qo :: ad) s.heap.size = A at hw hc0 hA
  have hR : sw_R s s.heap := ⟨hxh, hxa, hg, fun _ _ h _ => h⟩
  have hl := lv_entry ([.ref qa, .int p0, .int p1, .int p2, .int p3, .ref qo]) (n := 7) (Nat.le_of_ble_eq_true rfl)
  rw [lg_entry_eq]
  generalize (lg_sl ([.ref qa, .int p0, .int p1, .int p2, .int p3, .ref qo]) ++ List.replicate (7 - (lg_sl ([.ref qa, .int p0, .int p1, .int p2, .int p3, .ref qo])).length) Slot.unset).toArray = ls at hl ⊢
  have hl : lv_has ls 7 [(0, .ref qa), (1, .int p0), (2, .int p1), (3, .int p2), (4, .int p3), (5, .ref qo)] := hl
  refine lv_aload hx hb d9_route_0 (lv_at hl 5 rfl) ?_
  refine lv_iconst (v := 0) hx hb d9_route_2 (by decide) ?_
  refine lv_aload_n hx hb d9_route_3 rfl (lv_at hl 0 rfl) ?_
  refine lv_iload_n hx hb d9_route_4 rfl (lv_at hl 1 rfl) ?_
  refine lv_iload_n hx hb d9_route_5 rfl (lv_at hl 2 rfl) ?_
  refine lv_iload_n hx hb d9_route_6 rfl (lv_at hl 3 rfl) ?_
  refine lv_iload hx hb d9_route_7 (lv_at hl 4 rfl) ?_
  refine sw_thr hlt (AsC := [.int p0, .int p1, .int p2, .int p3]) (K := [.int 0, .ref qo]) hev rfl hx hb hml hown hts (sw_good mt_49.2.2.1) (hall _ wx_372) mt_49 hall (Nat.le_refl _) (Nat.le_refl _) hw va_S.rf hA hR hk0 hqa ⟨rfl, rfl, rfl, rfl, trivial⟩ rfl hl.1 (Nat.le_of_ble_eq_true rfl) d9_route_9 (by show 0 + _ ≤ mc; omega) (by show 0 + _ ≤ ms; omega) (fun ce q z H1 locs1 hw1 hS1 hz1 hk1 hR1 hce hcv hcl => ?_)
  cases sw_z hw hw1 hkd
  rw [List.append_nil] at hw1
  have hc1 := sw_ck hc0 hk1
  have ec : 0 + (hp_c h2 - hp_c h) = mc := by omega
  have es : 0 + (hp_s h2 - hp_s h) = ms := by omega
  rw [ec, es]
  refine sc_catch (own := "RouteHouseLaw") (E := "java/lang/UnsupportedOperationException") (nm := "java/lang/UnsupportedOperationException") hown [⟨0, 14, 17, 15⟩, ⟨0, 14, 21, 13⟩] ⟨0, 14, 25, 25⟩ [] htab (List.forall_mem_cons.mpr ⟨⟨by decide, by decide, "java/lang/IllegalArgumentException", hall _ wx_268, hn.2.2.1⟩, List.forall_mem_cons.mpr ⟨⟨by decide, by decide, "java/lang/IndexOutOfBoundsException", hall _ wx_267, hn.2.2.2⟩, fun _ h => absurd h List.not_mem_nil⟩⟩) (by decide) (by decide) (hall _ wx_371) (sx_word (State.WarmedH.refl s) rfl rfl (hxa.1 _ wl_390 rfl rfl)) hce hcv hcl ?_
  refine lv_astore hx hb d9_route_25 hl (by decide) rfl (fun ls2 hl2 => ?_)
  refine lv_iconst (v := 3) hx hb d9_route_27 (by decide) ?_
  subst hAe
  exact W.iret hx hb hr (fun t ht hW => ⟨f, trivial, rfl, by rw [ht]; exact sd_w_moved hW.alike hw1, by rw [ht]; exact sw_cmoved hW.alike hc1, hS1.F ht⟩) hS1.2.2 d9_route_28
theorem wx_411 : (Jvm.Cond.methodLink "RouteHouseLaw" (27 : Nat) ({ cls := "RouteHouse", name := "unroute", desc := "(II)Z" } : Jvm.MethodName)) ∈ tb_all := wd_o2 (i := 171) rfl rfl
theorem wx_410 : (Jvm.Cond.codeWith ({ cls := "RouteHouseLaw", name := "unroute", desc := "(LRouteHouse;II[J)I" } : Jvm.MethodName) method_6_code (5 : Nat) (Option.some Jvm.ClassFile.FieldType.int) [((0 : Nat), (17 : Nat), (20 : Nat), (15 : Nat))]) ∈ tb_all := wd_o2 (i := 170) rfl rfl
theorem d9_unroute_0 : decode method_6_code 0 = .ok (.aload_n 3, 1) := by decide +kernel
theorem d9_unroute_1 : decode method_6_code 1 = .ok (.iconst 0, 1) := by decide +kernel
theorem d9_unroute_2 : decode method_6_code 2 = .ok (.aload_n 0, 1) := by decide +kernel
theorem d9_unroute_3 : decode method_6_code 3 = .ok (.iload_n 1, 1) := by decide +kernel
theorem d9_unroute_4 : decode method_6_code 4 = .ok (.iload_n 2, 1) := by decide +kernel
theorem d9_unroute_5 : decode method_6_code 5 = .ok (.invokevirtual 27, 3) := by decide +kernel
theorem d9_unroute_8 : decode method_6_code 8 = .ok (.ifCond .eq 7, 3) := by decide +kernel
theorem d9_unroute_11 : decode method_6_code 11 = .ok (.lconst 1, 1) := by decide +kernel
theorem d9_unroute_12 : decode method_6_code 12 = .ok (.goto 4, 3) := by decide +kernel
theorem d9_unroute_15 : decode method_6_code 15 = .ok (.lconst 0, 1) := by decide +kernel
theorem d9_unroute_16 : decode method_6_code 16 = .ok (.lastore, 1) := by decide +kernel
theorem d9_unroute_17 : decode method_6_code 17 = .ok (.goto 7, 3) := by decide +kernel
theorem d9_unroute_20 : decode method_6_code 20 = .ok (.astore 4, 2) := by decide +kernel
theorem d9_unroute_22 : decode method_6_code 22 = .ok (.iconst 1, 1) := by decide +kernel
theorem d9_unroute_23 : decode method_6_code 23 = .ok (.ireturn, 1) := by decide +kernel
theorem d9_unroute_24 : decode method_6_code 24 = .ok (.iconst 0, 1) := by decide +kernel
theorem d9_unroute_25 : decode method_6_code 25 = .ok (.ireturn, 1) := by decide +kernel
def yw_unroute : MethodName := ⟨"RouteHouseLaw", "unroute", "(LRouteHouse;II[J)I"⟩
def ww_unroute : List Jvm.Cond := .codeWith yw_unroute method_6_code 5 (some .int) [(0, 17, 20, 15)] :: tb_all
set_option maxHeartbeats 4000000 in
set_option maxRecDepth 100000 in
theorem wr_unroute {l : Launch} (hlt : l.stackTraces = false) (D : va_G) {ad : List Nat} {h : hp_T} {qa qo sz d f0 : Nat} {p0 p1 : Int32} {f : Nat → Int64} {o : ev_O} (hev : ev_m d f0 50 [.ref 0, .int p0, .int p1] h = some o) (hk0 : hp_k h 0 = some (7, 0)) (hqa : ad[0]? = some qa) (hkd : o.2.1 = h.1) {mc ms : Nat} (hmc : mc + hp_c h = hp_c o.2) (hms : ms + hp_s h = hp_s o.2) {v : Int32} (hv01 : v = 0 ∨ v = 1) (ho : o.1 = .inl (some (.int v))) : Met l yw_unroute ww_unroute (sw_rm 50 mc ms) (sw_P D ad h qo f sz [.ref qa, .int p0, .int p1, .ref qo]) (sw_Q D ad o.2 qo sz 0 (fun f2 => f2 0 = v.toInt64)) mc ms (sd_fr (qo :: ad) sz) := by
  obtain ⟨r, h2⟩ := o
  cases ho
  have hmc : mc + hp_c h = hp_c h2 := hmc
  have hms : ms + hp_s h = hp_s h2 := hms
  refine va_MetW (cc := method_6_code) (maxL := 5) (ret := some .int) (hh := [(0, 17, 20, 15)]) (by decide +kernel) rfl ?_
  intro p e s m args below meth c s₁ B hml hv
  obtain ⟨rfl, hsz, hw, hc0, hxh, hxa, hg, hn⟩ := hv
  have hx := B.exec
  have hb := B.bytes
  have hr := B.returns
  have hts := atoms_spec (ws := ww_unroute) B.pre
  have hall : ∀ w ∈ tb_all, w.before _ s = true := fun w h => hts w (List.mem_cons_of_mem _ h)
  have hown : s.vm.findClass "RouteHouseLaw" = some m.cls := findClass_of_methodNamed B.named
  have hlocks := B.notSynchronized
  have htab := sw_tab B (hts _ List.mem_cons_self)
  subst hsz
  have hA : ∀ q, s.heap.size ≤ q → sd_fr (qo :: ad) s.heap.size q := fun q h => Or.inr h
  generalize hAe : sd_fr (qo :: ad) s.heap.size = A at hw hc0 hA
  have hR : sw_R s s.heap := ⟨hxh, hxa, hg, fun _ _ h _ => h⟩
  have hl := lv_entry ([.ref qa, .int p0, .int p1, .ref qo]) (n := 5) (Nat.le_of_ble_eq_true rfl)
  rw [lg_entry_eq]
  generalize (lg_sl ([.ref qa, .int p0, .int p1, .ref qo]) ++ List.replicate (5 - (lg_sl ([.ref qa, .int p0, .int p1, .ref qo])).length) Slot.unset).toArray = ls at hl ⊢
  have hl : lv_has ls 5 [(0, .ref qa), (1, .int p0), (2, .int p1), (3, .ref qo)] := hl
  refine lv_aload_n hx hb d9_unroute_0 rfl (lv_at hl 3 rfl) ?_
  refine lv_iconst (v := 0) hx hb d9_unroute_1 (by decide) ?_
  refine lv_aload_n hx hb d9_unroute_2 rfl (lv_at hl 0 rfl) ?_
  refine lv_iload_n hx hb d9_unroute_3 rfl (lv_at hl 1 rfl) ?_
  refine lv_iload_n hx hb d9_unroute_4 rfl (lv_at hl 2 rfl) ?_
  refine sw_ret hlt (AsC := [.int p0, .int p1]) (K := [.int 0, .ref qo]) hev rfl hx hb hml hown hts (sw_good mt_50.2.2.1) (hall _ wx_411) mt_50 hall (Nat.le_refl _) (Nat.le_refl _) hw va_S.rf hA hR hk0 hqa ⟨rfl, rfl, trivial⟩ rfl hl.1 (Nat.le_of_ble_eq_true rfl) d9_unroute_5 (by show 0 + _ ≤ mc; omega) (by show 0 + _ ≤ ms; omega) (fun w z H1 locs1 hw1 hS1 hq1 hz1 hk1 hR1 => ?_)
  cases sw_z hw hw1 hkd
  rw [List.append_nil] at hw1 hq1
  have hc1 := sw_ck hc0 hk1
  have ec : 0 + (hp_c h2 - hp_c h) = mc := by omega
  have es : 0 + (hp_s h2 - hp_s h) = ms := by omega
  rw [ec, es]
  cases w with
  | none => exact False.elim hq1
  | some w =>
    have hq2 : w = .int v := hq1.1
    subst hq2
    refine W.eq (g2 := F0 m 8 ls [.int v, .int 0, .ref qo]) rfl ?_
    refine lv_if_eq (tgt := 15) hx hb d9_unroute_8 (by decide) (fun h9 => ?_) (fun h9 => ?_)
    · subst h9
      refine lv_lconst (v := 0) hx hb d9_unroute_15 (by decide) ?_
      refine sw_last hx hb hw1 hc1 hS1 d9_unroute_16 (fun H2 locs2 hw2 hc2 hS2 => ?_)
      refine lv_goto (tgt := 24) hx hb d9_unroute_17 (by decide) ?_
      refine lv_iconst (v := 0) hx hb d9_unroute_24 (by decide) ?_
      subst hAe
      exact W.iret hx hb hr (fun t ht hW => ⟨_, pk_uLs, rfl, by rw [ht]; exact sd_w_moved hW.alike hw2, by rw [ht]; exact sw_cmoved hW.alike hc2, hS2.F ht⟩) hS2.2.2 d9_unroute_25
    · have h8 : v = 1 := hv01.resolve_left h9
      subst h8
      refine lv_lconst (v := 1) hx hb d9_unroute_11 (by decide) ?_
      refine lv_goto (tgt := 16) hx hb d9_unroute_12 (by decide) ?_
      refine sw_last hx hb hw1 hc1 hS1 d9_unroute_16 (fun H2 locs2 hw2 hc2 hS2 => ?_)
      refine lv_goto (tgt := 24) hx hb d9_unroute_17 (by decide) ?_
      refine lv_iconst (v := 0) hx hb d9_unroute_24 (by decide) ?_
      subst hAe
      exact W.iret hx hb hr (fun t ht hW => ⟨_, pk_uLs, rfl, by rw [ht]; exact sd_w_moved hW.alike hw2, by rw [ht]; exact sw_cmoved hW.alike hc2, hS2.F ht⟩) hS2.2.2 d9_unroute_25
set_option maxHeartbeats 4000000 in
set_option maxRecDepth 100000 in
theorem wt_unroute_1 {l : Launch} (hlt : l.stackTraces = false) (D : va_G) {ad : List Nat} {h : hp_T} {qa qo sz d f0 : Nat} {p0 p1 : Int32} {f : Nat → Int64} {o : ev_O} (hev : ev_m d f0 50 [.ref 0, .int p0, .int p1] h = some o) (hk0 : hp_k h 0 = some (7, 0)) (hqa : ad[0]? = some qa) (hkd : o.2.1 = h.1) {mc ms : Nat} (hmc : mc + hp_c h = hp_c o.2) (hms : ms + hp_s h = hp_s o.2) (ho : o.1 = .inr 1) : Met l yw_unroute ww_unroute (sw_rm 50 mc ms) (sw_P D ad h qo f sz [.ref qa, .int p0, .int p1, .ref qo]) (sw_Q D ad o.2 qo sz 1 (fun _ => True)) mc ms (sd_fr (qo :: ad) sz) := by
  obtain ⟨r, h2⟩ := o
  cases ho
  have hmc : mc + hp_c h = hp_c h2 := hmc
  have hms : ms + hp_s h = hp_s h2 := hms
  refine va_MetW (cc := method_6_code) (maxL := 5) (ret := some .int) (hh := [(0, 17, 20, 15)]) (by decide +kernel) rfl ?_
  intro p e s m args below meth c s₁ B hml hv
  obtain ⟨rfl, hsz, hw, hc0, hxh, hxa, hg, hn⟩ := hv
  have hx := B.exec
  have hb := B.bytes
  have hr := B.returns
  have hts := atoms_spec (ws := ww_unroute) B.pre
  have hall : ∀ w ∈ tb_all, w.before _ s = true := fun w h => hts w (List.mem_cons_of_mem _ h)
  have hown : s.vm.findClass "RouteHouseLaw" = some m.cls := findClass_of_methodNamed B.named
  have hlocks := B.notSynchronized
  have htab := sw_tab B (hts _ List.mem_cons_self)
  subst hsz
  have hA : ∀ q, s.heap.size ≤ q → sd_fr (qo :: ad) s.heap.size q := fun q h => Or.inr h
  generalize hAe : sd_fr (qo :: ad) s.heap.size = A at hw hc0 hA
  have hR : sw_R s s.heap := ⟨hxh, hxa, hg, fun _ _ h _ => h⟩
  have hl := lv_entry ([.ref qa, .int p0, .int p1, .ref qo]) (n := 5) (Nat.le_of_ble_eq_true rfl)
  rw [lg_entry_eq]
  generalize (lg_sl ([.ref qa, .int p0, .int p1, .ref qo]) ++ List.replicate (5 - (lg_sl ([.ref qa, .int p0, .int p1, .ref qo])).length) Slot.unset).toArray = ls at hl ⊢
  have hl : lv_has ls 5 [(0, .ref qa), (1, .int p0), (2, .int p1), (3, .ref qo)] := hl
  refine lv_aload_n hx hb d9_unroute_0 rfl (lv_at hl 3 rfl) ?_
  refine lv_iconst (v := 0) hx hb d9_unroute_1 (by decide) ?_
  refine lv_aload_n hx hb d9_unroute_2 rfl (lv_at hl 0 rfl) ?_
  refine lv_iload_n hx hb d9_unroute_3 rfl (lv_at hl 1 rfl) ?_
  refine lv_iload_n hx hb d9_unroute_4 rfl (lv_at hl 2 rfl) ?_
  refine sw_thr hlt (AsC := [.int p0, .int p1]) (K := [.int 0, .ref qo]) hev rfl hx hb hml hown hts (sw_good mt_50.2.2.1) (hall _ wx_411) mt_50 hall (Nat.le_refl _) (Nat.le_refl _) hw va_S.rf hA hR hk0 hqa ⟨rfl, rfl, trivial⟩ rfl hl.1 (Nat.le_of_ble_eq_true rfl) d9_unroute_5 (by show 0 + _ ≤ mc; omega) (by show 0 + _ ≤ ms; omega) (fun ce q z H1 locs1 hw1 hS1 hz1 hk1 hR1 hce hcv hcl => ?_)
  cases sw_z hw hw1 hkd
  rw [List.append_nil] at hw1
  have hc1 := sw_ck hc0 hk1
  have ec : 0 + (hp_c h2 - hp_c h) = mc := by omega
  have es : 0 + (hp_s h2 - hp_s h) = ms := by omega
  rw [ec, es]
  refine sc_catch (own := "RouteHouseLaw") (E := "java/lang/IllegalArgumentException") (nm := "java/lang/IllegalArgumentException") hown [] ⟨0, 17, 20, 15⟩ [] htab (fun _ h => absurd h List.not_mem_nil) (by decide) (by decide) (hall _ wx_268) (sx_word (State.WarmedH.refl s) rfl rfl (hxa.1 _ wl_347 rfl rfl)) hce hcv hcl ?_
  refine lv_astore hx hb d9_unroute_20 hl (by decide) rfl (fun ls2 hl2 => ?_)
  refine lv_iconst (v := 1) hx hb d9_unroute_22 (by decide) ?_
  subst hAe
  exact W.iret hx hb hr (fun t ht hW => ⟨f, trivial, rfl, by rw [ht]; exact sd_w_moved hW.alike hw1, by rw [ht]; exact sw_cmoved hW.alike hc1, hS1.F ht⟩) hS1.2.2 d9_unroute_23
theorem wx_422 : (Jvm.Cond.methodLink "RouteHouseLaw" (31 : Nat) ({ cls := "RouteHouse", name := "lookup", desc := "(II)I" } : Jvm.MethodName)) ∈ tb_all := wd_o2 (i := 182) rfl rfl
theorem wx_421 : (Jvm.Cond.codeWith ({ cls := "RouteHouseLaw", name := "lookup", desc := "(LRouteHouse;II[J)I" } : Jvm.MethodName) method_7_code (5 : Nat) (Option.some Jvm.ClassFile.FieldType.int) [((0 : Nat), (10 : Nat), (13 : Nat), (15 : Nat))]) ∈ tb_all := wd_o2 (i := 181) rfl rfl
theorem d9_lookup_0 : decode method_7_code 0 = .ok (.aload_n 3, 1) := by decide +kernel
theorem d9_lookup_1 : decode method_7_code 1 = .ok (.iconst 0, 1) := by decide +kernel
theorem d9_lookup_2 : decode method_7_code 2 = .ok (.aload_n 0, 1) := by decide +kernel
theorem d9_lookup_3 : decode method_7_code 3 = .ok (.iload_n 1, 1) := by decide +kernel
theorem d9_lookup_4 : decode method_7_code 4 = .ok (.iload_n 2, 1) := by decide +kernel
theorem d9_lookup_5 : decode method_7_code 5 = .ok (.invokevirtual 31, 3) := by decide +kernel
theorem d9_lookup_8 : decode method_7_code 8 = .ok (.i2l, 1) := by decide +kernel
theorem d9_lookup_9 : decode method_7_code 9 = .ok (.lastore, 1) := by decide +kernel
theorem d9_lookup_10 : decode method_7_code 10 = .ok (.goto 7, 3) := by decide +kernel
theorem d9_lookup_13 : decode method_7_code 13 = .ok (.astore 4, 2) := by decide +kernel
theorem d9_lookup_15 : decode method_7_code 15 = .ok (.iconst 1, 1) := by decide +kernel
theorem d9_lookup_16 : decode method_7_code 16 = .ok (.ireturn, 1) := by decide +kernel
theorem d9_lookup_17 : decode method_7_code 17 = .ok (.iconst 0, 1) := by decide +kernel
theorem d9_lookup_18 : decode method_7_code 18 = .ok (.ireturn, 1) := by decide +kernel
def yw_lookup : MethodName := ⟨"RouteHouseLaw", "lookup", "(LRouteHouse;II[J)I"⟩
def ww_lookup : List Jvm.Cond := .codeWith yw_lookup method_7_code 5 (some .int) [(0, 10, 13, 15)] :: tb_all
set_option maxHeartbeats 4000000 in
set_option maxRecDepth 100000 in
theorem wr_lookup {l : Launch} (hlt : l.stackTraces = false) (D : va_G) {ad : List Nat} {h : hp_T} {qa qo sz d f0 : Nat} {p0 p1 : Int32} {f : Nat → Int64} {o : ev_O} (hev : ev_m d f0 51 [.ref 0, .int p0, .int p1] h = some o) (hk0 : hp_k h 0 = some (7, 0)) (hqa : ad[0]? = some qa) (hkd : o.2.1 = h.1) {mc ms : Nat} (hmc : mc + hp_c h = hp_c o.2) (hms : ms + hp_s h = hp_s o.2) {v : Int32} (ho : o.1 = .inl (some (.int v))) : Met l yw_lookup ww_lookup (sw_rm 51 mc ms) (sw_P D ad h qo f sz [.ref qa, .int p0, .int p1, .ref qo]) (sw_Q D ad o.2 qo sz 0 (fun f2 => f2 0 = v.toInt64)) mc ms (sd_fr (qo :: ad) sz) := by
  obtain ⟨r, h2⟩ := o
  cases ho
  have hmc : mc + hp_c h = hp_c h2 := hmc
  have hms : ms + hp_s h = hp_s h2 := hms
  refine va_MetW (cc := method_7_code) (maxL := 5) (ret := some .int) (hh := [(0, 10, 13, 15)]) (by decide +kernel) rfl ?_
  intro p e s m args below meth c s₁ B hml hv
  obtain ⟨rfl, hsz, hw, hc0, hxh, hxa, hg, hn⟩ := hv
  have hx := B.exec
  have hb := B.bytes
  have hr := B.returns
  have hts := atoms_spec (ws := ww_lookup) B.pre
  have hall : ∀ w ∈ tb_all, w.before _ s = true := fun w h => hts w (List.mem_cons_of_mem _ h)
  have hown : s.vm.findClass "RouteHouseLaw" = some m.cls := findClass_of_methodNamed B.named
  have hlocks := B.notSynchronized
  have htab := sw_tab B (hts _ List.mem_cons_self)
  subst hsz
  have hA : ∀ q, s.heap.size ≤ q → sd_fr (qo :: ad) s.heap.size q := fun q h => Or.inr h
  generalize hAe : sd_fr (qo :: ad) s.heap.size = A at hw hc0 hA
  have hR : sw_R s s.heap := ⟨hxh, hxa, hg, fun _ _ h _ => h⟩
  have hl := lv_entry ([.ref qa, .int p0, .int p1, .ref qo]) (n := 5) (Nat.le_of_ble_eq_true rfl)
  rw [lg_entry_eq]
  generalize (lg_sl ([.ref qa, .int p0, .int p1, .ref qo]) ++ List.replicate (5 - (lg_sl ([.ref qa, .int p0, .int p1, .ref qo])).length) Slot.unset).toArray = ls at hl ⊢
  have hl : lv_has ls 5 [(0, .ref qa), (1, .int p0), (2, .int p1), (3, .ref qo)] := hl
  refine lv_aload_n hx hb d9_lookup_0 rfl (lv_at hl 3 rfl) ?_
  refine lv_iconst (v := 0) hx hb d9_lookup_1 (by decide) ?_
  refine lv_aload_n hx hb d9_lookup_2 rfl (lv_at hl 0 rfl) ?_
  refine lv_iload_n hx hb d9_lookup_3 rfl (lv_at hl 1 rfl) ?_
  refine lv_iload_n hx hb d9_lookup_4 rfl (lv_at hl 2 rfl) ?_
  refine sw_ret hlt (AsC := [.int p0, .int p1]) (K := [.int 0, .ref qo]) hev rfl hx hb hml hown hts (sw_good mt_51.2.2.1) (hall _ wx_422) mt_51 hall (Nat.le_refl _) (Nat.le_refl _) hw va_S.rf hA hR hk0 hqa ⟨rfl, rfl, trivial⟩ rfl hl.1 (Nat.le_of_ble_eq_true rfl) d9_lookup_5 (by show 0 + _ ≤ mc; omega) (by show 0 + _ ≤ ms; omega) (fun w z H1 locs1 hw1 hS1 hq1 hz1 hk1 hR1 => ?_)
  cases sw_z hw hw1 hkd
  rw [List.append_nil] at hw1 hq1
  have hc1 := sw_ck hc0 hk1
  have ec : 0 + (hp_c h2 - hp_c h) = mc := by omega
  have es : 0 + (hp_s h2 - hp_s h) = ms := by omega
  rw [ec, es]
  cases w with
  | none => exact False.elim hq1
  | some w =>
    have hq2 : w = .int v := hq1.1
    subst hq2
    refine W.eq (g2 := F0 m 8 ls [.int v, .int 0, .ref qo]) rfl ?_
    refine lv_i2l hx hb d9_lookup_8 rfl ?_
    refine sw_last hx hb hw1 hc1 hS1 d9_lookup_9 (fun H2 locs2 hw2 hc2 hS2 => ?_)
    refine lv_goto (tgt := 17) hx hb d9_lookup_10 (by decide) ?_
    refine lv_iconst (v := 0) hx hb d9_lookup_17 (by decide) ?_
    subst hAe
    exact W.iret hx hb hr (fun t ht hW => ⟨_, pk_uLs, rfl, by rw [ht]; exact sd_w_moved hW.alike hw2, by rw [ht]; exact sw_cmoved hW.alike hc2, hS2.F ht⟩) hS2.2.2 d9_lookup_18
set_option maxHeartbeats 4000000 in
set_option maxRecDepth 100000 in
theorem wt_lookup_1 {l : Launch} (hlt : l.stackTraces = false) (D : va_G) {ad : List Nat} {h : hp_T} {qa qo sz d f0 : Nat} {p0 p1 : Int32} {f : Nat → Int64} {o : ev_O} (hev : ev_m d f0 51 [.ref 0, .int p0, .int p1] h = some o) (hk0 : hp_k h 0 = some (7, 0)) (hqa : ad[0]? = some qa) (hkd : o.2.1 = h.1) {mc ms : Nat} (hmc : mc + hp_c h = hp_c o.2) (hms : ms + hp_s h = hp_s o.2) (ho : o.1 = .inr 1) : Met l yw_lookup ww_lookup (sw_rm 51 mc ms) (sw_P D ad h qo f sz [.ref qa, .int p0, .int p1, .ref qo]) (sw_Q D ad o.2 qo sz 1 (fun _ => True)) mc ms (sd_fr (qo :: ad) sz) := by
  obtain ⟨r, h2⟩ := o
  cases ho
  have hmc : mc + hp_c h = hp_c h2 := hmc
  have hms : ms + hp_s h = hp_s h2 := hms
  refine va_MetW (cc := method_7_code) (maxL := 5) (ret := some .int) (hh := [(0, 10, 13, 15)]) (by decide +kernel) rfl ?_
  intro p e s m args below meth c s₁ B hml hv
  obtain ⟨rfl, hsz, hw, hc0, hxh, hxa, hg, hn⟩ := hv
  have hx := B.exec
  have hb := B.bytes
  have hr := B.returns
  have hts := atoms_spec (ws := ww_lookup) B.pre
  have hall : ∀ w ∈ tb_all, w.before _ s = true := fun w h => hts w (List.mem_cons_of_mem _ h)
  have hown : s.vm.findClass "RouteHouseLaw" = some m.cls := findClass_of_methodNamed B.named
  have hlocks := B.notSynchronized
  have htab := sw_tab B (hts _ List.mem_cons_self)
  subst hsz
  have hA : ∀ q, s.heap.size ≤ q → sd_fr (qo :: ad) s.heap.size q := fun q h => Or.inr h
  generalize hAe : sd_fr (qo :: ad) s.heap.size = A at hw hc0 hA
  have hR : sw_R s s.heap := ⟨hxh, hxa, hg, fun _ _ h _ => h⟩
  have hl := lv_entry ([.ref qa, .int p0, .int p1, .ref qo]) (n := 5) (Nat.le_of_ble_eq_true rfl)
  rw [lg_entry_eq]
  generalize (lg_sl ([.ref qa, .int p0, .int p1, .ref qo]) ++ List.replicate (5 - (lg_sl ([.ref qa, .int p0, .int p1, .ref qo])).length) Slot.unset).toArray = ls at hl ⊢
  have hl : lv_has ls 5 [(0, .ref qa), (1, .int p0), (2, .int p1), (3, .ref qo)] := hl
  refine lv_aload_n hx hb d9_lookup_0 rfl (lv_at hl 3 rfl) ?_
  refine lv_iconst (v := 0) hx hb d9_lookup_1 (by decide) ?_
  refine lv_aload_n hx hb d9_lookup_2 rfl (lv_at hl 0 rfl) ?_
  refine lv_iload_n hx hb d9_lookup_3 rfl (lv_at hl 1 rfl) ?_
  refine lv_iload_n hx hb d9_lookup_4 rfl (lv_at hl 2 rfl) ?_
  refine sw_thr hlt (AsC := [.int p0, .int p1]) (K := [.int 0, .ref qo]) hev rfl hx hb hml hown hts (sw_good mt_51.2.2.1) (hall _ wx_422) mt_51 hall (Nat.le_refl _) (Nat.le_refl _) hw va_S.rf hA hR hk0 hqa ⟨rfl, rfl, trivial⟩ rfl hl.1 (Nat.le_of_ble_eq_true rfl) d9_lookup_5 (by show 0 + _ ≤ mc; omega) (by show 0 + _ ≤ ms; omega) (fun ce q z H1 locs1 hw1 hS1 hz1 hk1 hR1 hce hcv hcl => ?_)
  cases sw_z hw hw1 hkd
  rw [List.append_nil] at hw1
  have hc1 := sw_ck hc0 hk1
  have ec : 0 + (hp_c h2 - hp_c h) = mc := by omega
  have es : 0 + (hp_s h2 - hp_s h) = ms := by omega
  rw [ec, es]
  refine sc_catch (own := "RouteHouseLaw") (E := "java/lang/IllegalArgumentException") (nm := "java/lang/IllegalArgumentException") hown [] ⟨0, 10, 13, 15⟩ [] htab (fun _ h => absurd h List.not_mem_nil) (by decide) (by decide) (hall _ wx_268) (sx_word (State.WarmedH.refl s) rfl rfl (hxa.1 _ wl_347 rfl rfl)) hce hcv hcl ?_
  refine lv_astore hx hb d9_lookup_13 hl (by decide) rfl (fun ls2 hl2 => ?_)
  refine lv_iconst (v := 1) hx hb d9_lookup_15 (by decide) ?_
  subst hAe
  exact W.iret hx hb hr (fun t ht hW => ⟨f, trivial, rfl, by rw [ht]; exact sd_w_moved hW.alike hw1, by rw [ht]; exact sw_cmoved hW.alike hc1, hS1.F ht⟩) hS1.2.2 d9_lookup_16
theorem wx_435 : (Jvm.Cond.methodLink "RouteHouseLaw" (35 : Nat) ({ cls := "RouteHouse", name := "feed", desc := "(IIIII)I" } : Jvm.MethodName)) ∈ tb_all := wd_o2 (i := 195) rfl rfl
theorem wx_433 : (Jvm.Cond.codeWith ({ cls := "RouteHouseLaw", name := "feed", desc := "(LRouteHouse;IIIII[J)I" } : Jvm.MethodName) method_8_code (8 : Nat) (Option.some Jvm.ClassFile.FieldType.int) [((0 : Nat), (16 : Nat), (19 : Nat), (39 : Nat))]) ∈ tb_all := wd_o2 (i := 193) rfl rfl
theorem wx_434 : (Jvm.Cond.classLink "RouteHouseLaw" (39 : Nat) "java/lang/IllegalStateException") ∈ tb_all := wd_o2 (i := 194) rfl rfl
theorem d9_feed_0 : decode method_8_code 0 = .ok (.aload 6, 2) := by decide +kernel
theorem d9_feed_2 : decode method_8_code 2 = .ok (.iconst 0, 1) := by decide +kernel
theorem d9_feed_3 : decode method_8_code 3 = .ok (.aload_n 0, 1) := by decide +kernel
theorem d9_feed_4 : decode method_8_code 4 = .ok (.iload_n 1, 1) := by decide +kernel
theorem d9_feed_5 : decode method_8_code 5 = .ok (.iload_n 2, 1) := by decide +kernel
theorem d9_feed_6 : decode method_8_code 6 = .ok (.iload_n 3, 1) := by decide +kernel
theorem d9_feed_7 : decode method_8_code 7 = .ok (.iload 4, 2) := by decide +kernel
theorem d9_feed_9 : decode method_8_code 9 = .ok (.iload 5, 2) := by decide +kernel
theorem d9_feed_11 : decode method_8_code 11 = .ok (.invokevirtual 35, 3) := by decide +kernel
theorem d9_feed_14 : decode method_8_code 14 = .ok (.i2l, 1) := by decide +kernel
theorem d9_feed_15 : decode method_8_code 15 = .ok (.lastore, 1) := by decide +kernel
theorem d9_feed_16 : decode method_8_code 16 = .ok (.goto 7, 3) := by decide +kernel
theorem d9_feed_19 : decode method_8_code 19 = .ok (.astore 7, 2) := by decide +kernel
theorem d9_feed_21 : decode method_8_code 21 = .ok (.iconst 1, 1) := by decide +kernel
theorem d9_feed_22 : decode method_8_code 22 = .ok (.ireturn, 1) := by decide +kernel
theorem d9_feed_23 : decode method_8_code 23 = .ok (.iconst 0, 1) := by decide +kernel
theorem d9_feed_24 : decode method_8_code 24 = .ok (.ireturn, 1) := by decide +kernel
def yw_feed : MethodName := ⟨"RouteHouseLaw", "feed", "(LRouteHouse;IIIII[J)I"⟩
def ww_feed : List Jvm.Cond := .codeWith yw_feed method_8_code 8 (some .int) [(0, 16, 19, 39)] :: tb_all
set_option maxHeartbeats 4000000 in
set_option maxRecDepth 100000 in
theorem wr_feed {l : Launch} (hlt : l.stackTraces = false) (D : va_G) {ad : List Nat} {h : hp_T} {qa qo sz d f0 : Nat} {p0 p1 p2 p3 p4 : Int32} {f : Nat → Int64} {o : ev_O} (hev : ev_m d f0 52 [.ref 0, .int p0, .int p1, .int p2, .int p3, .int p4] h = some o) (hk0 : hp_k h 0 = some (7, 0)) (hqa : ad[0]? = some qa) (hkd : o.2.1 = h.1) {mc ms : Nat} (hmc : mc + hp_c h = hp_c o.2) (hms : ms + hp_s h = hp_s o.2) {v : Int32} (ho : o.1 = .inl (some (.int v))) : Met l yw_feed ww_feed (sw_rm 52 mc ms) (sw_P D ad h qo f sz [.ref qa, .int p0, .int p1, .int p2, .int p3, .int p4, .ref qo]) (sw_Q D ad o.2 qo sz 0 (fun f2 => f2 0 = v.toInt64)) mc ms (sd_fr (qo :: ad) sz) := by
  obtain ⟨r, h2⟩ := o
  cases ho
  have hmc : mc + hp_c h = hp_c h2 := hmc
  have hms : ms + hp_s h = hp_s h2 := hms
  refine va_MetW (cc := method_8_code) (maxL := 8) (ret := some .int) (hh := [(0, 16, 19, 39)]) (by decide +kernel) rfl ?_
  intro p e s m args below meth c s₁ B hml hv
  obtain ⟨rfl, hsz, hw, hc0, hxh, hxa, hg, hn⟩ := hv
  have hx := B.exec
  have hb := B.bytes
  have hr := B.returns
  have hts := atoms_spec (ws := ww_feed) B.pre
  have hall : ∀ w ∈ tb_all, w.before _ s = true := fun w h => hts w (List.mem_cons_of_mem _ h)
  have hown : s.vm.findClass "RouteHouseLaw" = some m.cls := findClass_of_methodNamed B.named
  have hlocks := B.notSynchronized
  have htab := sw_tab B (hts _ List.mem_cons_self)
  subst hsz
  have hA : ∀ q, s.heap.size ≤ q → sd_fr (qo :: ad) s.heap.size q := fun q h => Or.inr h
  generalize hAe : sd_fr (qo :: ad) s.heap.size = A at hw hc0 hA
  have hR : sw_R s s.heap := ⟨hxh, hxa, hg, fun _ _ h _ => h⟩
  have hl := lv_entry ([.ref qa, .int p0, .int p1, .int p2, .int p3, .int p4, .ref qo]) (n := 8) (Nat.le_of_ble_eq_true rfl)
  rw [lg_entry_eq]
  generalize (lg_sl ([.ref qa, .int p0, .int p1, .int p2, .int p3, .int p4, .ref qo]) ++ List.replicate (8 - (lg_sl ([.ref qa, .int p0, .int p1, .int p2, .int p3, .int p4, .ref qo])).length) Slot.unset).toArray = ls at hl ⊢
  have hl : lv_has ls 8 [(0, .ref qa), (1, .int p0), (2, .int p1), (3, .int p2), (4, .int p3), (5, .int p4), (6, .ref qo)] := hl
  refine lv_aload hx hb d9_feed_0 (lv_at hl 6 rfl) ?_
  refine lv_iconst (v := 0) hx hb d9_feed_2 (by decide) ?_
  refine lv_aload_n hx hb d9_feed_3 rfl (lv_at hl 0 rfl) ?_
  refine lv_iload_n hx hb d9_feed_4 rfl (lv_at hl 1 rfl) ?_
  refine lv_iload_n hx hb d9_feed_5 rfl (lv_at hl 2 rfl) ?_
  refine lv_iload_n hx hb d9_feed_6 rfl (lv_at hl 3 rfl) ?_
  refine lv_iload hx hb d9_feed_7 (lv_at hl 4 rfl) ?_
  refine lv_iload hx hb d9_feed_9 (lv_at hl 5 rfl) ?_
  refine sw_ret hlt (AsC := [.int p0, .int p1, .int p2, .int p3, .int p4]) (K := [.int 0, .ref qo]) hev rfl hx hb hml hown hts (sw_good mt_52.2.2.1) (hall _ wx_435) mt_52 hall (Nat.le_refl _) (Nat.le_refl _) hw va_S.rf hA hR hk0 hqa ⟨rfl, rfl, rfl, rfl, rfl, trivial⟩ rfl hl.1 (Nat.le_of_ble_eq_true rfl) d9_feed_11 (by show 0 + _ ≤ mc; omega) (by show 0 + _ ≤ ms; omega) (fun w z H1 locs1 hw1 hS1 hq1 hz1 hk1 hR1 => ?_)
  cases sw_z hw hw1 hkd
  rw [List.append_nil] at hw1 hq1
  have hc1 := sw_ck hc0 hk1
  have ec : 0 + (hp_c h2 - hp_c h) = mc := by omega
  have es : 0 + (hp_s h2 - hp_s h) = ms := by omega
  rw [ec, es]
  cases w with
  | none => exact False.elim hq1
  | some w =>
    have hq2 : w = .int v := hq1.1
    subst hq2
    refine W.eq (g2 := F0 m 14 ls [.int v, .int 0, .ref qo]) rfl ?_
    refine lv_i2l hx hb d9_feed_14 rfl ?_
    refine sw_last hx hb hw1 hc1 hS1 d9_feed_15 (fun H2 locs2 hw2 hc2 hS2 => ?_)
    refine lv_goto (tgt := 23) hx hb d9_feed_16 (by decide) ?_
    refine lv_iconst (v := 0) hx hb d9_feed_23 (by decide) ?_
    subst hAe
    exact W.iret hx hb hr (fun t ht hW => ⟨_, pk_uLs, rfl, by rw [ht]; exact sd_w_moved hW.alike hw2, by rw [ht]; exact sw_cmoved hW.alike hc2, hS2.F ht⟩) hS2.2.2 d9_feed_24
set_option maxHeartbeats 4000000 in
set_option maxRecDepth 100000 in
theorem wt_feed_3 {l : Launch} (hlt : l.stackTraces = false) (D : va_G) {ad : List Nat} {h : hp_T} {qa qo sz d f0 : Nat} {p0 p1 p2 p3 p4 : Int32} {f : Nat → Int64} {o : ev_O} (hev : ev_m d f0 52 [.ref 0, .int p0, .int p1, .int p2, .int p3, .int p4] h = some o) (hk0 : hp_k h 0 = some (7, 0)) (hqa : ad[0]? = some qa) (hkd : o.2.1 = h.1) {mc ms : Nat} (hmc : mc + hp_c h = hp_c o.2) (hms : ms + hp_s h = hp_s o.2) (ho : o.1 = .inr 3) : Met l yw_feed ww_feed (sw_rm 52 mc ms) (sw_P D ad h qo f sz [.ref qa, .int p0, .int p1, .int p2, .int p3, .int p4, .ref qo]) (sw_Q D ad o.2 qo sz 1 (fun _ => True)) mc ms (sd_fr (qo :: ad) sz) := by
  obtain ⟨r, h2⟩ := o
  cases ho
  have hmc : mc + hp_c h = hp_c h2 := hmc
  have hms : ms + hp_s h = hp_s h2 := hms
  refine va_MetW (cc := method_8_code) (maxL := 8) (ret := some .int) (hh := [(0, 16, 19, 39)]) (by decide +kernel) rfl ?_
  intro p e s m args below meth c s₁ B hml hv
  obtain ⟨rfl, hsz, hw, hc0, hxh, hxa, hg, hn⟩ := hv
  have hx := B.exec
  have hb := B.bytes
  have hr := B.returns
  have hts := atoms_spec (ws := ww_feed) B.pre
  have hall : ∀ w ∈ tb_all, w.before _ s = true := fun w h => hts w (List.mem_cons_of_mem _ h)
  have hown : s.vm.findClass "RouteHouseLaw" = some m.cls := findClass_of_methodNamed B.named
  have hlocks := B.notSynchronized
  have htab := sw_tab B (hts _ List.mem_cons_self)
  subst hsz
  have hA : ∀ q, s.heap.size ≤ q → sd_fr (qo :: ad) s.heap.size q := fun q h => Or.inr h
  generalize hAe : sd_fr (qo :: ad) s.heap.size = A at hw hc0 hA
  have hR : sw_R s s.heap := ⟨hxh, hxa, hg, fun _ _ h _ => h⟩
  have hl := lv_entry ([.ref qa, .int p0, .int p1, .int p2, .int p3, .int p4, .ref qo]) (n := 8) (Nat.le_of_ble_eq_true rfl)
  rw [lg_entry_eq]
  generalize (lg_sl ([.ref qa, .int p0, .int p1, .int p2, .int p3, .int p4, .ref qo]) ++ List.replicate (8 - (lg_sl ([.ref qa, .int p0, .int p1, .int p2, .int p3, .int p4, .ref qo])).length) Slot.unset).toArray = ls at hl ⊢
  have hl : lv_has ls 8 [(0, .ref qa), (1, .int p0), (2, .int p1), (3, .int p2), (4, .int p3), (5, .int p4), (6, .ref qo)] := hl
  refine lv_aload hx hb d9_feed_0 (lv_at hl 6 rfl) ?_
  refine lv_iconst (v := 0) hx hb d9_feed_2 (by decide) ?_
  refine lv_aload_n hx hb d9_feed_3 rfl (lv_at hl 0 rfl) ?_
  refine lv_iload_n hx hb d9_feed_4 rfl (lv_at hl 1 rfl) ?_
  refine lv_iload_n hx hb d9_feed_5 rfl (lv_at hl 2 rfl) ?_
  refine lv_iload_n hx hb d9_feed_6 rfl (lv_at hl 3 rfl) ?_
  refine lv_iload hx hb d9_feed_7 (lv_at hl 4 rfl) ?_
  refine lv_iload hx hb d9_feed_9 (lv_at hl 5 rfl) ?_
  refine sw_thr hlt (AsC := [.int p0, .int p1, .int p2, .int p3, .int p4]) (K := [.int 0, .ref qo]) hev rfl hx hb hml hown hts (sw_good mt_52.2.2.1) (hall _ wx_435) mt_52 hall (Nat.le_refl _) (Nat.le_refl _) hw va_S.rf hA hR hk0 hqa ⟨rfl, rfl, rfl, rfl, rfl, trivial⟩ rfl hl.1 (Nat.le_of_ble_eq_true rfl) d9_feed_11 (by show 0 + _ ≤ mc; omega) (by show 0 + _ ≤ ms; omega) (fun ce q z H1 locs1 hw1 hS1 hz1 hk1 hR1 hce hcv hcl => ?_)
  cases sw_z hw hw1 hkd
  rw [List.append_nil] at hw1
  have hc1 := sw_ck hc0 hk1
  have ec : 0 + (hp_c h2 - hp_c h) = mc := by omega
  have es : 0 + (hp_s h2 - hp_s h) = ms := by omega
  rw [ec, es]
  refine sc_catch (own := "RouteHouseLaw") (E := "java/lang/IllegalStateException") (nm := "java/lang/IllegalStateException") hown [] ⟨0, 16, 19, 39⟩ [] htab (fun _ h => absurd h List.not_mem_nil) (by decide) (by decide) (hall _ wx_434) (sx_word (State.WarmedH.refl s) rfl rfl (hxa.1 _ wl_441 rfl rfl)) hce hcv hcl ?_
  refine lv_astore hx hb d9_feed_19 hl (by decide) rfl (fun ls2 hl2 => ?_)
  refine lv_iconst (v := 1) hx hb d9_feed_21 (by decide) ?_
  subst hAe
  exact W.iret hx hb hr (fun t ht hW => ⟨f, trivial, rfl, by rw [ht]; exact sd_w_moved hW.alike hw1, by rw [ht]; exact sw_cmoved hW.alike hc1, hS1.F ht⟩) hS1.2.2 d9_feed_22
theorem wx_461 : (Jvm.Cond.methodLink "RouteHouseLaw" (41 : Nat) ({ cls := "RouteHouse", name := "end", desc := "(I)V" } : Jvm.MethodName)) ∈ tb_all := wd_o2 (i := 221) rfl rfl
theorem wx_460 : (Jvm.Cond.codeWith ({ cls := "RouteHouseLaw", name := "end", desc := "(LRouteHouse;I)I" } : Jvm.MethodName) method_9_code (3 : Nat) (Option.some Jvm.ClassFile.FieldType.int) [((0 : Nat), (5 : Nat), (8 : Nat), (15 : Nat))]) ∈ tb_all := wd_o2 (i := 220) rfl rfl
theorem d9_end_0 : decode method_9_code 0 = .ok (.aload_n 0, 1) := by decide +kernel
theorem d9_end_1 : decode method_9_code 1 = .ok (.iload_n 1, 1) := by decide +kernel
theorem d9_end_2 : decode method_9_code 2 = .ok (.invokevirtual 41, 3) := by decide +kernel
theorem d9_end_5 : decode method_9_code 5 = .ok (.goto 6, 3) := by decide +kernel
theorem d9_end_8 : decode method_9_code 8 = .ok (.astore_n 2, 1) := by decide +kernel
theorem d9_end_9 : decode method_9_code 9 = .ok (.iconst 1, 1) := by decide +kernel
theorem d9_end_10 : decode method_9_code 10 = .ok (.ireturn, 1) := by decide +kernel
theorem d9_end_11 : decode method_9_code 11 = .ok (.iconst 0, 1) := by decide +kernel
theorem d9_end_12 : decode method_9_code 12 = .ok (.ireturn, 1) := by decide +kernel
def yw_end : MethodName := ⟨"RouteHouseLaw", "end", "(LRouteHouse;I)I"⟩
def ww_end : List Jvm.Cond := .codeWith yw_end method_9_code 3 (some .int) [(0, 5, 8, 15)] :: tb_all
set_option maxHeartbeats 4000000 in
set_option maxRecDepth 100000 in
theorem wr_end {l : Launch} (hlt : l.stackTraces = false) (D : va_G) {ad : List Nat} {h : hp_T} {qa qo sz d f0 : Nat} {p0 : Int32} {f : Nat → Int64} {o : ev_O} (hev : ev_m d f0 53 [.ref 0, .int p0] h = some o) (hk0 : hp_k h 0 = some (7, 0)) (hqa : ad[0]? = some qa) (hkd : o.2.1 = h.1) {mc ms : Nat} (hmc : mc + hp_c h = hp_c o.2) (hms : ms + hp_s h = hp_s o.2) (ho : o.1 = .inl none) : Met l yw_end ww_end (sw_rm 53 mc ms) (sw_P D ad h qo f sz [.ref qa, .int p0]) (sw_Q D ad o.2 qo sz 0 (fun f2 => True)) mc ms (sd_fr (qo :: ad) sz) := by
  obtain ⟨r, h2⟩ := o
  cases ho
  have hmc : mc + hp_c h = hp_c h2 := hmc
  have hms : ms + hp_s h = hp_s h2 := hms
  refine va_MetW (cc := method_9_code) (maxL := 3) (ret := some .int) (hh := [(0, 5, 8, 15)]) (by decide +kernel) rfl ?_
  intro p e s m args below meth c s₁ B hml hv
  obtain ⟨rfl, hsz, hw, hc0, hxh, hxa, hg, hn⟩ := hv
  have hx := B.exec
  have hb := B.bytes
  have hr := B.returns
  have hts := atoms_spec (ws := ww_end) B.pre
  have hall : ∀ w ∈ tb_all, w.before _ s = true := fun w h => hts w (List.mem_cons_of_mem _ h)
  have hown : s.vm.findClass "RouteHouseLaw" = some m.cls := findClass_of_methodNamed B.named
  have hlocks := B.notSynchronized
  have htab := sw_tab B (hts _ List.mem_cons_self)
  subst hsz
  have hA : ∀ q, s.heap.size ≤ q → sd_fr (qo :: ad) s.heap.size q := fun q h => Or.inr h
  generalize hAe : sd_fr (qo :: ad) s.heap.size = A at hw hc0 hA
  have hR : sw_R s s.heap := ⟨hxh, hxa, hg, fun _ _ h _ => h⟩
  have hl := lv_entry ([.ref qa, .int p0]) (n := 3) (Nat.le_of_ble_eq_true rfl)
  rw [lg_entry_eq]
  generalize (lg_sl ([.ref qa, .int p0]) ++ List.replicate (3 - (lg_sl ([.ref qa, .int p0])).length) Slot.unset).toArray = ls at hl ⊢
  have hl : lv_has ls 3 [(0, .ref qa), (1, .int p0)] := hl
  refine lv_aload_n hx hb d9_end_0 rfl (lv_at hl 0 rfl) ?_
  refine lv_iload_n hx hb d9_end_1 rfl (lv_at hl 1 rfl) ?_
  refine sw_ret hlt (AsC := [.int p0]) (K := []) hev rfl hx hb hml hown hts (sw_good mt_53.2.2.1) (hall _ wx_461) mt_53 hall (Nat.le_refl _) (Nat.le_refl _) hw va_S.rf hA hR hk0 hqa ⟨rfl, trivial⟩ rfl hl.1 (Nat.le_of_ble_eq_true rfl) d9_end_2 (by show 0 + _ ≤ mc; omega) (by show 0 + _ ≤ ms; omega) (fun w z H1 locs1 hw1 hS1 hq1 hz1 hk1 hR1 => ?_)
  cases sw_z hw hw1 hkd
  rw [List.append_nil] at hw1 hq1
  have hc1 := sw_ck hc0 hk1
  have ec : 0 + (hp_c h2 - hp_c h) = mc := by omega
  have es : 0 + (hp_s h2 - hp_s h) = ms := by omega
  rw [ec, es]
  cases w with
  | some w => exact False.elim hq1
  | none =>
    refine W.eq (g2 := F0 m 5 ls []) rfl ?_
    refine lv_goto (tgt := 11) hx hb d9_end_5 (by decide) ?_
    refine lv_iconst (v := 0) hx hb d9_end_11 (by decide) ?_
    subst hAe
    exact W.iret hx hb hr (fun t ht hW => ⟨_, trivial, rfl, by rw [ht]; exact sd_w_moved hW.alike hw1, by rw [ht]; exact sw_cmoved hW.alike hc1, hS1.F ht⟩) hS1.2.2 d9_end_12
set_option maxHeartbeats 4000000 in
set_option maxRecDepth 100000 in
theorem wt_end_1 {l : Launch} (hlt : l.stackTraces = false) (D : va_G) {ad : List Nat} {h : hp_T} {qa qo sz d f0 : Nat} {p0 : Int32} {f : Nat → Int64} {o : ev_O} (hev : ev_m d f0 53 [.ref 0, .int p0] h = some o) (hk0 : hp_k h 0 = some (7, 0)) (hqa : ad[0]? = some qa) (hkd : o.2.1 = h.1) {mc ms : Nat} (hmc : mc + hp_c h = hp_c o.2) (hms : ms + hp_s h = hp_s o.2) (ho : o.1 = .inr 1) : Met l yw_end ww_end (sw_rm 53 mc ms) (sw_P D ad h qo f sz [.ref qa, .int p0]) (sw_Q D ad o.2 qo sz 1 (fun _ => True)) mc ms (sd_fr (qo :: ad) sz) := by
  obtain ⟨r, h2⟩ := o
  cases ho
  have hmc : mc + hp_c h = hp_c h2 := hmc
  have hms : ms + hp_s h = hp_s h2 := hms
  refine va_MetW (cc := method_9_code) (maxL := 3) (ret := some .int) (hh := [(0, 5, 8, 15)]) (by decide +kernel) rfl ?_
  intro p e s m args below meth c s₁ B hml hv
  obtain ⟨rfl, hsz, hw, hc0, hxh, hxa, hg, hn⟩ := hv
  have hx := B.exec
  have hb := B.bytes
  have hr := B.returns
  have hts := atoms_spec (ws := ww_end) B.pre
  have hall : ∀ w ∈ tb_all, w.before _ s = true := fun w h => hts w (List.mem_cons_of_mem _ h)
  have hown : s.vm.findClass "RouteHouseLaw" = some m.cls := findClass_of_methodNamed B.named
  have hlocks := B.notSynchronized
  have htab := sw_tab B (hts _ List.mem_cons_self)
  subst hsz
  have hA : ∀ q, s.heap.size ≤ q → sd_fr (qo :: ad) s.heap.size q := fun q h => Or.inr h
  generalize hAe : sd_fr (qo :: ad) s.heap.size = A at hw hc0 hA
  have hR : sw_R s s.heap := ⟨hxh, hxa, hg, fun _ _ h _ => h⟩
  have hl := lv_entry ([.ref qa, .int p0]) (n := 3) (Nat.le_of_ble_eq_true rfl)
  rw [lg_entry_eq]
  generalize (lg_sl ([.ref qa, .int p0]) ++ List.replicate (3 - (lg_sl ([.ref qa, .int p0])).length) Slot.unset).toArray = ls at hl ⊢
  have hl : lv_has ls 3 [(0, .ref qa), (1, .int p0)] := hl
  refine lv_aload_n hx hb d9_end_0 rfl (lv_at hl 0 rfl) ?_
  refine lv_iload_n hx hb d9_end_1 rfl (lv_at hl 1 rfl) ?_
  refine sw_thr hlt (AsC := [.int p0]) (K := []) hev rfl hx hb hml hown hts (sw_good mt_53.2.2.1) (hall _ wx_461) mt_53 hall (Nat.le_refl _) (Nat.le_refl _) hw va_S.rf hA hR hk0 hqa ⟨rfl, trivial⟩ rfl hl.1 (Nat.le_of_ble_eq_true rfl) d9_end_2 (by show 0 + _ ≤ mc; omega) (by show 0 + _ ≤ ms; omega) (fun ce q z H1 locs1 hw1 hS1 hz1 hk1 hR1 hce hcv hcl => ?_)
  cases sw_z hw hw1 hkd
  rw [List.append_nil] at hw1
  have hc1 := sw_ck hc0 hk1
  have ec : 0 + (hp_c h2 - hp_c h) = mc := by omega
  have es : 0 + (hp_s h2 - hp_s h) = ms := by omega
  rw [ec, es]
  refine sc_catch (own := "RouteHouseLaw") (E := "java/lang/IllegalArgumentException") (nm := "java/lang/IllegalArgumentException") hown [] ⟨0, 5, 8, 15⟩ [] htab (fun _ h => absurd h List.not_mem_nil) (by decide) (by decide) (hall _ wx_268) (sx_word (State.WarmedH.refl s) rfl rfl (hxa.1 _ wl_347 rfl rfl)) hce hcv hcl ?_
  refine lv_astore_n hx hb d9_end_8 rfl hl (by decide) rfl (fun ls2 hl2 => ?_)
  refine lv_iconst (v := 1) hx hb d9_end_9 (by decide) ?_
  subst hAe
  exact W.iret hx hb hr (fun t ht hW => ⟨f, trivial, rfl, by rw [ht]; exact sd_w_moved hW.alike hw1, by rw [ht]; exact sw_cmoved hW.alike hc1, hS1.F ht⟩) hS1.2.2 d9_end_10
theorem wx_469 : (Jvm.Cond.methodLink "RouteHouseLaw" (45 : Nat) ({ cls := "RouteHouse", name := "sum", desc := "(I)V" } : Jvm.MethodName)) ∈ tb_all := wd_o2 (i := 229) rfl rfl
theorem wx_468 : (Jvm.Cond.codeWith ({ cls := "RouteHouseLaw", name := "sum", desc := "(LRouteHouse;I)I" } : Jvm.MethodName) method_10_code (3 : Nat) (Option.some Jvm.ClassFile.FieldType.int) [((0 : Nat), (5 : Nat), (8 : Nat), (15 : Nat))]) ∈ tb_all := wd_o2 (i := 228) rfl rfl
theorem d9_sum_0 : decode method_10_code 0 = .ok (.aload_n 0, 1) := by decide +kernel
theorem d9_sum_1 : decode method_10_code 1 = .ok (.iload_n 1, 1) := by decide +kernel
theorem d9_sum_2 : decode method_10_code 2 = .ok (.invokevirtual 45, 3) := by decide +kernel
theorem d9_sum_5 : decode method_10_code 5 = .ok (.goto 6, 3) := by decide +kernel
theorem d9_sum_8 : decode method_10_code 8 = .ok (.astore_n 2, 1) := by decide +kernel
theorem d9_sum_9 : decode method_10_code 9 = .ok (.iconst 1, 1) := by decide +kernel
theorem d9_sum_10 : decode method_10_code 10 = .ok (.ireturn, 1) := by decide +kernel
theorem d9_sum_11 : decode method_10_code 11 = .ok (.iconst 0, 1) := by decide +kernel
theorem d9_sum_12 : decode method_10_code 12 = .ok (.ireturn, 1) := by decide +kernel
def yw_sum : MethodName := ⟨"RouteHouseLaw", "sum", "(LRouteHouse;I)I"⟩
def ww_sum : List Jvm.Cond := .codeWith yw_sum method_10_code 3 (some .int) [(0, 5, 8, 15)] :: tb_all
set_option maxHeartbeats 4000000 in
set_option maxRecDepth 100000 in
theorem wr_sum {l : Launch} (hlt : l.stackTraces = false) (D : va_G) {ad : List Nat} {h : hp_T} {qa qo sz d f0 : Nat} {p0 : Int32} {f : Nat → Int64} {o : ev_O} (hev : ev_m d f0 54 [.ref 0, .int p0] h = some o) (hk0 : hp_k h 0 = some (7, 0)) (hqa : ad[0]? = some qa) (hkd : o.2.1 = h.1) {mc ms : Nat} (hmc : mc + hp_c h = hp_c o.2) (hms : ms + hp_s h = hp_s o.2) (ho : o.1 = .inl none) : Met l yw_sum ww_sum (sw_rm 54 mc ms) (sw_P D ad h qo f sz [.ref qa, .int p0]) (sw_Q D ad o.2 qo sz 0 (fun f2 => True)) mc ms (sd_fr (qo :: ad) sz) := by
  obtain ⟨r, h2⟩ := o
  cases ho
  have hmc : mc + hp_c h = hp_c h2 := hmc
  have hms : ms + hp_s h = hp_s h2 := hms
  refine va_MetW (cc := method_10_code) (maxL := 3) (ret := some .int) (hh := [(0, 5, 8, 15)]) (by decide +kernel) rfl ?_
  intro p e s m args below meth c s₁ B hml hv
  obtain ⟨rfl, hsz, hw, hc0, hxh, hxa, hg, hn⟩ := hv
  have hx := B.exec
  have hb := B.bytes
  have hr := B.returns
  have hts := atoms_spec (ws := ww_sum) B.pre
  have hall : ∀ w ∈ tb_all, w.before _ s = true := fun w h => hts w (List.mem_cons_of_mem _ h)
  have hown : s.vm.findClass "RouteHouseLaw" = some m.cls := findClass_of_methodNamed B.named
  have hlocks := B.notSynchronized
  have htab := sw_tab B (hts _ List.mem_cons_self)
  subst hsz
  have hA : ∀ q, s.heap.size ≤ q → sd_fr (qo :: ad) s.heap.size q := fun q h => Or.inr h
  generalize hAe : sd_fr (qo :: ad) s.heap.size = A at hw hc0 hA
  have hR : sw_R s s.heap := ⟨hxh, hxa, hg, fun _ _ h _ => h⟩
  have hl := lv_entry ([.ref qa, .int p0]) (n := 3) (Nat.le_of_ble_eq_true rfl)
  rw [lg_entry_eq]
  generalize (lg_sl ([.ref qa, .int p0]) ++ List.replicate (3 - (lg_sl ([.ref qa, .int p0])).length) Slot.unset).toArray = ls at hl ⊢
  have hl : lv_has ls 3 [(0, .ref qa), (1, .int p0)] := hl
  refine lv_aload_n hx hb d9_sum_0 rfl (lv_at hl 0 rfl) ?_
  refine lv_iload_n hx hb d9_sum_1 rfl (lv_at hl 1 rfl) ?_
  refine sw_ret hlt (AsC := [.int p0]) (K := []) hev rfl hx hb hml hown hts (sw_good mt_54.2.2.1) (hall _ wx_469) mt_54 hall (Nat.le_refl _) (Nat.le_refl _) hw va_S.rf hA hR hk0 hqa ⟨rfl, trivial⟩ rfl hl.1 (Nat.le_of_ble_eq_true rfl) d9_sum_2 (by show 0 + _ ≤ mc; omega) (by show 0 + _ ≤ ms; omega) (fun w z H1 locs1 hw1 hS1 hq1 hz1 hk1 hR1 => ?_)
  cases sw_z hw hw1 hkd
  rw [List.append_nil] at hw1 hq1
  have hc1 := sw_ck hc0 hk1
  have ec : 0 + (hp_c h2 - hp_c h) = mc := by omega
  have es : 0 + (hp_s h2 - hp_s h) = ms := by omega
  rw [ec, es]
  cases w with
  | some w => exact False.elim hq1
  | none =>
    refine W.eq (g2 := F0 m 5 ls []) rfl ?_
    refine lv_goto (tgt := 11) hx hb d9_sum_5 (by decide) ?_
    refine lv_iconst (v := 0) hx hb d9_sum_11 (by decide) ?_
    subst hAe
    exact W.iret hx hb hr (fun t ht hW => ⟨_, trivial, rfl, by rw [ht]; exact sd_w_moved hW.alike hw1, by rw [ht]; exact sw_cmoved hW.alike hc1, hS1.F ht⟩) hS1.2.2 d9_sum_12
set_option maxHeartbeats 4000000 in
set_option maxRecDepth 100000 in
theorem wt_sum_1 {l : Launch} (hlt : l.stackTraces = false) (D : va_G) {ad : List Nat} {h : hp_T} {qa qo sz d f0 : Nat} {p0 : Int32} {f : Nat → Int64} {o : ev_O} (hev : ev_m d f0 54 [.ref 0, .int p0] h = some o) (hk0 : hp_k h 0 = some (7, 0)) (hqa : ad[0]? = some qa) (hkd : o.2.1 = h.1) {mc ms : Nat} (hmc : mc + hp_c h = hp_c o.2) (hms : ms + hp_s h = hp_s o.2) (ho : o.1 = .inr 1) : Met l yw_sum ww_sum (sw_rm 54 mc ms) (sw_P D ad h qo f sz [.ref qa, .int p0]) (sw_Q D ad o.2 qo sz 1 (fun _ => True)) mc ms (sd_fr (qo :: ad) sz) := by
  obtain ⟨r, h2⟩ := o
  cases ho
  have hmc : mc + hp_c h = hp_c h2 := hmc
  have hms : ms + hp_s h = hp_s h2 := hms
  refine va_MetW (cc := method_10_code) (maxL := 3) (ret := some .int) (hh := [(0, 5, 8, 15)]) (by decide +kernel) rfl ?_
  intro p e s m args below meth c s₁ B hml hv
  obtain ⟨rfl, hsz, hw, hc0, hxh, hxa, hg, hn⟩ := hv
  have hx := B.exec
  have hb := B.bytes
  have hr := B.returns
  have hts := atoms_spec (ws := ww_sum) B.pre
  have hall : ∀ w ∈ tb_all, w.before _ s = true := fun w h => hts w (List.mem_cons_of_mem _ h)
  have hown : s.vm.findClass "RouteHouseLaw" = some m.cls := findClass_of_methodNamed B.named
  have hlocks := B.notSynchronized
  have htab := sw_tab B (hts _ List.mem_cons_self)
  subst hsz
  have hA : ∀ q, s.heap.size ≤ q → sd_fr (qo :: ad) s.heap.size q := fun q h => Or.inr h
  generalize hAe : sd_fr (qo :: ad) s.heap.size = A at hw hc0 hA
  have hR : sw_R s s.heap := ⟨hxh, hxa, hg, fun _ _ h _ => h⟩
  have hl := lv_entry ([.ref qa, .int p0]) (n := 3) (Nat.le_of_ble_eq_true rfl)
  rw [lg_entry_eq]
  generalize (lg_sl ([.ref qa, .int p0]) ++ List.replicate (3 - (lg_sl ([.ref qa, .int p0])).length) Slot.unset).toArray = ls at hl ⊢
  have hl : lv_has ls 3 [(0, .ref qa), (1, .int p0)] := hl
  refine lv_aload_n hx hb d9_sum_0 rfl (lv_at hl 0 rfl) ?_
  refine lv_iload_n hx hb d9_sum_1 rfl (lv_at hl 1 rfl) ?_
  refine sw_thr hlt (AsC := [.int p0]) (K := []) hev rfl hx hb hml hown hts (sw_good mt_54.2.2.1) (hall _ wx_469) mt_54 hall (Nat.le_refl _) (Nat.le_refl _) hw va_S.rf hA hR hk0 hqa ⟨rfl, trivial⟩ rfl hl.1 (Nat.le_of_ble_eq_true rfl) d9_sum_2 (by show 0 + _ ≤ mc; omega) (by show 0 + _ ≤ ms; omega) (fun ce q z H1 locs1 hw1 hS1 hz1 hk1 hR1 hce hcv hcl => ?_)
  cases sw_z hw hw1 hkd
  rw [List.append_nil] at hw1
  have hc1 := sw_ck hc0 hk1
  have ec : 0 + (hp_c h2 - hp_c h) = mc := by omega
  have es : 0 + (hp_s h2 - hp_s h) = ms := by omega
  rw [ec, es]
  refine sc_catch (own := "RouteHouseLaw") (E := "java/lang/IllegalArgumentException") (nm := "java/lang/IllegalArgumentException") hown [] ⟨0, 5, 8, 15⟩ [] htab (fun _ h => absurd h List.not_mem_nil) (by decide) (by decide) (hall _ wx_268) (sx_word (State.WarmedH.refl s) rfl rfl (hxa.1 _ wl_347 rfl rfl)) hce hcv hcl ?_
  refine lv_astore_n hx hb d9_sum_8 rfl hl (by decide) rfl (fun ls2 hl2 => ?_)
  refine lv_iconst (v := 1) hx hb d9_sum_9 (by decide) ?_
  subst hAe
  exact W.iret hx hb hr (fun t ht hW => ⟨f, trivial, rfl, by rw [ht]; exact sd_w_moved hW.alike hw1, by rw [ht]; exact sw_cmoved hW.alike hc1, hS1.F ht⟩) hS1.2.2 d9_sum_10
theorem wx_484 : (Jvm.Cond.methodLink "RouteHouseLaw" (48 : Nat) ({ cls := "RouteHouse", name := "copy", desc := "(I)I" } : Jvm.MethodName)) ∈ tb_all := wd_o3 (i := 4) rfl rfl
theorem wx_483 : (Jvm.Cond.codeWith ({ cls := "RouteHouseLaw", name := "copy", desc := "(LRouteHouse;I[J)I" } : Jvm.MethodName) method_11_code (4 : Nat) (Option.some Jvm.ClassFile.FieldType.int) [((0 : Nat), (9 : Nat), (12 : Nat), (13 : Nat))]) ∈ tb_all := wd_o3 (i := 3) rfl rfl
theorem d9_copy_0 : decode method_11_code 0 = .ok (.aload_n 2, 1) := by decide +kernel
theorem d9_copy_1 : decode method_11_code 1 = .ok (.iconst 0, 1) := by decide +kernel
theorem d9_copy_2 : decode method_11_code 2 = .ok (.aload_n 0, 1) := by decide +kernel
theorem d9_copy_3 : decode method_11_code 3 = .ok (.iload_n 1, 1) := by decide +kernel
theorem d9_copy_4 : decode method_11_code 4 = .ok (.invokevirtual 48, 3) := by decide +kernel
theorem d9_copy_7 : decode method_11_code 7 = .ok (.i2l, 1) := by decide +kernel
theorem d9_copy_8 : decode method_11_code 8 = .ok (.lastore, 1) := by decide +kernel
theorem d9_copy_9 : decode method_11_code 9 = .ok (.goto 6, 3) := by decide +kernel
theorem d9_copy_12 : decode method_11_code 12 = .ok (.astore_n 3, 1) := by decide +kernel
theorem d9_copy_13 : decode method_11_code 13 = .ok (.iconst 1, 1) := by decide +kernel
theorem d9_copy_14 : decode method_11_code 14 = .ok (.ireturn, 1) := by decide +kernel
theorem d9_copy_15 : decode method_11_code 15 = .ok (.iconst 0, 1) := by decide +kernel
theorem d9_copy_16 : decode method_11_code 16 = .ok (.ireturn, 1) := by decide +kernel
def yw_copy : MethodName := ⟨"RouteHouseLaw", "copy", "(LRouteHouse;I[J)I"⟩
def ww_copy : List Jvm.Cond := .codeWith yw_copy method_11_code 4 (some .int) [(0, 9, 12, 13)] :: tb_all
set_option maxHeartbeats 4000000 in
set_option maxRecDepth 100000 in
theorem wr_copy {l : Launch} (hlt : l.stackTraces = false) (D : va_G) {ad : List Nat} {h : hp_T} {qa qo sz d f0 : Nat} {p0 : Int32} {f : Nat → Int64} {o : ev_O} (hev : ev_m d f0 55 [.ref 0, .int p0] h = some o) (hk0 : hp_k h 0 = some (7, 0)) (hqa : ad[0]? = some qa) (hkd : o.2.1 = h.1) {mc ms : Nat} (hmc : mc + hp_c h = hp_c o.2) (hms : ms + hp_s h = hp_s o.2) {v : Int32} (ho : o.1 = .inl (some (.int v))) : Met l yw_copy ww_copy (sw_rm 55 mc ms) (sw_P D ad h qo f sz [.ref qa, .int p0, .ref qo]) (sw_Q D ad o.2 qo sz 0 (fun f2 => f2 0 = v.toInt64)) mc ms (sd_fr (qo :: ad) sz) := by
  obtain ⟨r, h2⟩ := o
  cases ho
  have hmc : mc + hp_c h = hp_c h2 := hmc
  have hms : ms + hp_s h = hp_s h2 := hms
  refine va_MetW (cc := method_11_code) (maxL := 4) (ret := some .int) (hh := [(0, 9, 12, 13)]) (by decide +kernel) rfl ?_
  intro p e s m args below meth c s₁ B hml hv
  obtain ⟨rfl, hsz, hw, hc0, hxh, hxa, hg, hn⟩ := hv
  have hx := B.exec
  have hb := B.bytes
  have hr := B.returns
  have hts := atoms_spec (ws := ww_copy) B.pre
  have hall : ∀ w ∈ tb_all, w.before _ s = true := fun w h => hts w (List.mem_cons_of_mem _ h)
  have hown : s.vm.findClass "RouteHouseLaw" = some m.cls := findClass_of_methodNamed B.named
  have hlocks := B.notSynchronized
  have htab := sw_tab B (hts _ List.mem_cons_self)
  subst hsz
  have hA : ∀ q, s.heap.size ≤ q → sd_fr (qo :: ad) s.heap.size q := fun q h => Or.inr h
  generalize hAe : sd_fr (qo :: ad) s.heap.size = A at hw hc0 hA
  have hR : sw_R s s.heap := ⟨hxh, hxa, hg, fun _ _ h _ => h⟩
  have hl := lv_entry ([.ref qa, .int p0, .ref qo]) (n := 4) (Nat.le_of_ble_eq_true rfl)
  rw [lg_entry_eq]
  generalize (lg_sl ([.ref qa, .int p0, .ref qo]) ++ List.replicate (4 - (lg_sl ([.ref qa, .int p0, .ref qo])).length) Slot.unset).toArray = ls at hl ⊢
  have hl : lv_has ls 4 [(0, .ref qa), (1, .int p0), (2, .ref qo)] := hl
  refine lv_aload_n hx hb d9_copy_0 rfl (lv_at hl 2 rfl) ?_
  refine lv_iconst (v := 0) hx hb d9_copy_1 (by decide) ?_
  refine lv_aload_n hx hb d9_copy_2 rfl (lv_at hl 0 rfl) ?_
  refine lv_iload_n hx hb d9_copy_3 rfl (lv_at hl 1 rfl) ?_
  refine sw_ret hlt (AsC := [.int p0]) (K := [.int 0, .ref qo]) hev rfl hx hb hml hown hts (sw_good mt_55.2.2.1) (hall _ wx_484) mt_55 hall (Nat.le_refl _) (Nat.le_refl _) hw va_S.rf hA hR hk0 hqa ⟨rfl, trivial⟩ rfl hl.1 (Nat.le_of_ble_eq_true rfl) d9_copy_4 (by show 0 + _ ≤ mc; omega) (by show 0 + _ ≤ ms; omega) (fun w z H1 locs1 hw1 hS1 hq1 hz1 hk1 hR1 => ?_)
  cases sw_z hw hw1 hkd
  rw [List.append_nil] at hw1 hq1
  have hc1 := sw_ck hc0 hk1
  have ec : 0 + (hp_c h2 - hp_c h) = mc := by omega
  have es : 0 + (hp_s h2 - hp_s h) = ms := by omega
  rw [ec, es]
  cases w with
  | none => exact False.elim hq1
  | some w =>
    have hq2 : w = .int v := hq1.1
    subst hq2
    refine W.eq (g2 := F0 m 7 ls [.int v, .int 0, .ref qo]) rfl ?_
    refine lv_i2l hx hb d9_copy_7 rfl ?_
    refine sw_last hx hb hw1 hc1 hS1 d9_copy_8 (fun H2 locs2 hw2 hc2 hS2 => ?_)
    refine lv_goto (tgt := 15) hx hb d9_copy_9 (by decide) ?_
    refine lv_iconst (v := 0) hx hb d9_copy_15 (by decide) ?_
    subst hAe
    exact W.iret hx hb hr (fun t ht hW => ⟨_, pk_uLs, rfl, by rw [ht]; exact sd_w_moved hW.alike hw2, by rw [ht]; exact sw_cmoved hW.alike hc2, hS2.F ht⟩) hS2.2.2 d9_copy_16
set_option maxHeartbeats 4000000 in
set_option maxRecDepth 100000 in
theorem wt_copy_0 {l : Launch} (hlt : l.stackTraces = false) (D : va_G) {ad : List Nat} {h : hp_T} {qa qo sz d f0 : Nat} {p0 : Int32} {f : Nat → Int64} {o : ev_O} (hev : ev_m d f0 55 [.ref 0, .int p0] h = some o) (hk0 : hp_k h 0 = some (7, 0)) (hqa : ad[0]? = some qa) (hkd : o.2.1 = h.1) {mc ms : Nat} (hmc : mc + hp_c h = hp_c o.2) (hms : ms + hp_s h = hp_s o.2) (ho : o.1 = .inr 0) : Met l yw_copy ww_copy (sw_rm 55 mc ms) (sw_P D ad h qo f sz [.ref qa, .int p0, .ref qo]) (sw_Q D ad o.2 qo sz 1 (fun _ => True)) mc ms (sd_fr (qo :: ad) sz) := by
  obtain ⟨r, h2⟩ := o
  cases ho
  have hmc : mc + hp_c h = hp_c h2 := hmc
  have hms : ms + hp_s h = hp_s h2 := hms
  refine va_MetW (cc := method_11_code) (maxL := 4) (ret := some .int) (hh := [(0, 9, 12, 13)]) (by decide +kernel) rfl ?_
  intro p e s m args below meth c s₁ B hml hv
  obtain ⟨rfl, hsz, hw, hc0, hxh, hxa, hg, hn⟩ := hv
  have hx := B.exec
  have hb := B.bytes
  have hr := B.returns
  have hts := atoms_spec (ws := ww_copy) B.pre
  have hall : ∀ w ∈ tb_all, w.before _ s = true := fun w h => hts w (List.mem_cons_of_mem _ h)
  have hown : s.vm.findClass "RouteHouseLaw" = some m.cls := findClass_of_methodNamed B.named
  have hlocks := B.notSynchronized
  have htab := sw_tab B (hts _ List.mem_cons_self)
  subst hsz
  have hA : ∀ q, s.heap.size ≤ q → sd_fr (qo :: ad) s.heap.size q := fun q h => Or.inr h
  generalize hAe : sd_fr (qo :: ad) s.heap.size = A at hw hc0 hA
  have hR : sw_R s s.heap := ⟨hxh, hxa, hg, fun _ _ h _ => h⟩
  have hl := lv_entry ([.ref qa, .int p0, .ref qo]) (n := 4) (Nat.le_of_ble_eq_true rfl)
  rw [lg_entry_eq]
  generalize (lg_sl ([.ref qa, .int p0, .ref qo]) ++ List.replicate (4 - (lg_sl ([.ref qa, .int p0, .ref qo])).length) Slot.unset).toArray = ls at hl ⊢
  have hl : lv_has ls 4 [(0, .ref qa), (1, .int p0), (2, .ref qo)] := hl
  refine lv_aload_n hx hb d9_copy_0 rfl (lv_at hl 2 rfl) ?_
  refine lv_iconst (v := 0) hx hb d9_copy_1 (by decide) ?_
  refine lv_aload_n hx hb d9_copy_2 rfl (lv_at hl 0 rfl) ?_
  refine lv_iload_n hx hb d9_copy_3 rfl (lv_at hl 1 rfl) ?_
  refine sw_thr hlt (AsC := [.int p0]) (K := [.int 0, .ref qo]) hev rfl hx hb hml hown hts (sw_good mt_55.2.2.1) (hall _ wx_484) mt_55 hall (Nat.le_refl _) (Nat.le_refl _) hw va_S.rf hA hR hk0 hqa ⟨rfl, trivial⟩ rfl hl.1 (Nat.le_of_ble_eq_true rfl) d9_copy_4 (by show 0 + _ ≤ mc; omega) (by show 0 + _ ≤ ms; omega) (fun ce q z H1 locs1 hw1 hS1 hz1 hk1 hR1 hce hcv hcl => ?_)
  cases sw_z hw hw1 hkd
  rw [List.append_nil] at hw1
  have hc1 := sw_ck hc0 hk1
  have ec : 0 + (hp_c h2 - hp_c h) = mc := by omega
  have es : 0 + (hp_s h2 - hp_s h) = ms := by omega
  rw [ec, es]
  refine sc_catch (own := "RouteHouseLaw") (E := "java/lang/IndexOutOfBoundsException") (nm := "java/lang/IndexOutOfBoundsException") hown [] ⟨0, 9, 12, 13⟩ [] htab (fun _ h => absurd h List.not_mem_nil) (by decide) (by decide) (hall _ wx_267) (sx_word (State.WarmedH.refl s) rfl rfl (hxa.1 _ wl_279 rfl rfl)) hce hcv hcl ?_
  refine lv_astore_n hx hb d9_copy_12 rfl hl (by decide) rfl (fun ls2 hl2 => ?_)
  refine lv_iconst (v := 1) hx hb d9_copy_13 (by decide) ?_
  subst hAe
  exact W.iret hx hb hr (fun t ht hW => ⟨f, trivial, rfl, by rw [ht]; exact sd_w_moved hW.alike hw1, by rw [ht]; exact sw_cmoved hW.alike hc1, hS1.F ht⟩) hS1.2.2 d9_copy_14
theorem wx_499 : (Jvm.Cond.methodLink "RouteHouseLaw" (52 : Nat) ({ cls := "RouteHouse", name := "receive", desc := "(I)I" } : Jvm.MethodName)) ∈ tb_all := wd_o3 (i := 19) rfl rfl
theorem wx_498 : (Jvm.Cond.codeWith ({ cls := "RouteHouseLaw", name := "receive", desc := "(LRouteHouse;I[J)I" } : Jvm.MethodName) method_12_code (4 : Nat) (Option.some Jvm.ClassFile.FieldType.int) [((0 : Nat), (9 : Nat), (12 : Nat), (13 : Nat))]) ∈ tb_all := wd_o3 (i := 18) rfl rfl
theorem d9_receive_0 : decode method_12_code 0 = .ok (.aload_n 2, 1) := by decide +kernel
theorem d9_receive_1 : decode method_12_code 1 = .ok (.iconst 0, 1) := by decide +kernel
theorem d9_receive_2 : decode method_12_code 2 = .ok (.aload_n 0, 1) := by decide +kernel
theorem d9_receive_3 : decode method_12_code 3 = .ok (.iload_n 1, 1) := by decide +kernel
theorem d9_receive_4 : decode method_12_code 4 = .ok (.invokevirtual 52, 3) := by decide +kernel
theorem d9_receive_7 : decode method_12_code 7 = .ok (.i2l, 1) := by decide +kernel
theorem d9_receive_8 : decode method_12_code 8 = .ok (.lastore, 1) := by decide +kernel
theorem d9_receive_9 : decode method_12_code 9 = .ok (.goto 6, 3) := by decide +kernel
theorem d9_receive_12 : decode method_12_code 12 = .ok (.astore_n 3, 1) := by decide +kernel
theorem d9_receive_13 : decode method_12_code 13 = .ok (.iconst 1, 1) := by decide +kernel
theorem d9_receive_14 : decode method_12_code 14 = .ok (.ireturn, 1) := by decide +kernel
theorem d9_receive_15 : decode method_12_code 15 = .ok (.iconst 0, 1) := by decide +kernel
theorem d9_receive_16 : decode method_12_code 16 = .ok (.ireturn, 1) := by decide +kernel
def yw_receive : MethodName := ⟨"RouteHouseLaw", "receive", "(LRouteHouse;I[J)I"⟩
def ww_receive : List Jvm.Cond := .codeWith yw_receive method_12_code 4 (some .int) [(0, 9, 12, 13)] :: tb_all
set_option maxHeartbeats 4000000 in
set_option maxRecDepth 100000 in
theorem wr_receive {l : Launch} (hlt : l.stackTraces = false) (D : va_G) {ad : List Nat} {h : hp_T} {qa qo sz d f0 : Nat} {p0 : Int32} {f : Nat → Int64} {o : ev_O} (hev : ev_m d f0 56 [.ref 0, .int p0] h = some o) (hk0 : hp_k h 0 = some (7, 0)) (hqa : ad[0]? = some qa) (hkd : o.2.1 = h.1) {mc ms : Nat} (hmc : mc + hp_c h = hp_c o.2) (hms : ms + hp_s h = hp_s o.2) {v : Int32} (ho : o.1 = .inl (some (.int v))) : Met l yw_receive ww_receive (sw_rm 56 mc ms) (sw_P D ad h qo f sz [.ref qa, .int p0, .ref qo]) (sw_Q D ad o.2 qo sz 0 (fun f2 => f2 0 = v.toInt64)) mc ms (sd_fr (qo :: ad) sz) := by
  obtain ⟨r, h2⟩ := o
  cases ho
  have hmc : mc + hp_c h = hp_c h2 := hmc
  have hms : ms + hp_s h = hp_s h2 := hms
  refine va_MetW (cc := method_12_code) (maxL := 4) (ret := some .int) (hh := [(0, 9, 12, 13)]) (by decide +kernel) rfl ?_
  intro p e s m args below meth c s₁ B hml hv
  obtain ⟨rfl, hsz, hw, hc0, hxh, hxa, hg, hn⟩ := hv
  have hx := B.exec
  have hb := B.bytes
  have hr := B.returns
  have hts := atoms_spec (ws := ww_receive) B.pre
  have hall : ∀ w ∈ tb_all, w.before _ s = true := fun w h => hts w (List.mem_cons_of_mem _ h)
  have hown : s.vm.findClass "RouteHouseLaw" = some m.cls := findClass_of_methodNamed B.named
  have hlocks := B.notSynchronized
  have htab := sw_tab B (hts _ List.mem_cons_self)
  subst hsz
  have hA : ∀ q, s.heap.size ≤ q → sd_fr (qo :: ad) s.heap.size q := fun q h => Or.inr h
  generalize hAe : sd_fr (qo :: ad) s.heap.size = A at hw hc0 hA
  have hR : sw_R s s.heap := ⟨hxh, hxa, hg, fun _ _ h _ => h⟩
  have hl := lv_entry ([.ref qa, .int p0, .ref qo]) (n := 4) (Nat.le_of_ble_eq_true rfl)
  rw [lg_entry_eq]
  generalize (lg_sl ([.ref qa, .int p0, .ref qo]) ++ List.replicate (4 - (lg_sl ([.ref qa, .int p0, .ref qo])).length) Slot.unset).toArray = ls at hl ⊢
  have hl : lv_has ls 4 [(0, .ref qa), (1, .int p0), (2, .ref qo)] := hl
  refine lv_aload_n hx hb d9_receive_0 rfl (lv_at hl 2 rfl) ?_
  refine lv_iconst (v := 0) hx hb d9_receive_1 (by decide) ?_
  refine lv_aload_n hx hb d9_receive_2 rfl (lv_at hl 0 rfl) ?_
  refine lv_iload_n hx hb d9_receive_3 rfl (lv_at hl 1 rfl) ?_
  refine sw_ret hlt (AsC := [.int p0]) (K := [.int 0, .ref qo]) hev rfl hx hb hml hown hts (sw_good mt_56.2.2.1) (hall _ wx_499) mt_56 hall (Nat.le_refl _) (Nat.le_refl _) hw va_S.rf hA hR hk0 hqa ⟨rfl, trivial⟩ rfl hl.1 (Nat.le_of_ble_eq_true rfl) d9_receive_4 (by show 0 + _ ≤ mc; omega) (by show 0 + _ ≤ ms; omega) (fun w z H1 locs1 hw1 hS1 hq1 hz1 hk1 hR1 => ?_)
  cases sw_z hw hw1 hkd
  rw [List.append_nil] at hw1 hq1
  have hc1 := sw_ck hc0 hk1
  have ec : 0 + (hp_c h2 - hp_c h) = mc := by omega
  have es : 0 + (hp_s h2 - hp_s h) = ms := by omega
  rw [ec, es]
  cases w with
  | none => exact False.elim hq1
  | some w =>
    have hq2 : w = .int v := hq1.1
    subst hq2
    refine W.eq (g2 := F0 m 7 ls [.int v, .int 0, .ref qo]) rfl ?_
    refine lv_i2l hx hb d9_receive_7 rfl ?_
    refine sw_last hx hb hw1 hc1 hS1 d9_receive_8 (fun H2 locs2 hw2 hc2 hS2 => ?_)
    refine lv_goto (tgt := 15) hx hb d9_receive_9 (by decide) ?_
    refine lv_iconst (v := 0) hx hb d9_receive_15 (by decide) ?_
    subst hAe
    exact W.iret hx hb hr (fun t ht hW => ⟨_, pk_uLs, rfl, by rw [ht]; exact sd_w_moved hW.alike hw2, by rw [ht]; exact sw_cmoved hW.alike hc2, hS2.F ht⟩) hS2.2.2 d9_receive_16
set_option maxHeartbeats 4000000 in
set_option maxRecDepth 100000 in
theorem wt_receive_0 {l : Launch} (hlt : l.stackTraces = false) (D : va_G) {ad : List Nat} {h : hp_T} {qa qo sz d f0 : Nat} {p0 : Int32} {f : Nat → Int64} {o : ev_O} (hev : ev_m d f0 56 [.ref 0, .int p0] h = some o) (hk0 : hp_k h 0 = some (7, 0)) (hqa : ad[0]? = some qa) (hkd : o.2.1 = h.1) {mc ms : Nat} (hmc : mc + hp_c h = hp_c o.2) (hms : ms + hp_s h = hp_s o.2) (ho : o.1 = .inr 0) : Met l yw_receive ww_receive (sw_rm 56 mc ms) (sw_P D ad h qo f sz [.ref qa, .int p0, .ref qo]) (sw_Q D ad o.2 qo sz 1 (fun _ => True)) mc ms (sd_fr (qo :: ad) sz) := by
  obtain ⟨r, h2⟩ := o
  cases ho
  have hmc : mc + hp_c h = hp_c h2 := hmc
  have hms : ms + hp_s h = hp_s h2 := hms
  refine va_MetW (cc := method_12_code) (maxL := 4) (ret := some .int) (hh := [(0, 9, 12, 13)]) (by decide +kernel) rfl ?_
  intro p e s m args below meth c s₁ B hml hv
  obtain ⟨rfl, hsz, hw, hc0, hxh, hxa, hg, hn⟩ := hv
  have hx := B.exec
  have hb := B.bytes
  have hr := B.returns
  have hts := atoms_spec (ws := ww_receive) B.pre
  have hall : ∀ w ∈ tb_all, w.before _ s = true := fun w h => hts w (List.mem_cons_of_mem _ h)
  have hown : s.vm.findClass "RouteHouseLaw" = some m.cls := findClass_of_methodNamed B.named
  have hlocks := B.notSynchronized
  have htab := sw_tab B (hts _ List.mem_cons_self)
  subst hsz
  have hA : ∀ q, s.heap.size ≤ q → sd_fr (qo :: ad) s.heap.size q := fun q h => Or.inr h
  generalize hAe : sd_fr (qo :: ad) s.heap.size = A at hw hc0 hA
  have hR : sw_R s s.heap := ⟨hxh, hxa, hg, fun _ _ h _ => h⟩
  have hl := lv_entry ([.ref qa, .int p0, .ref qo]) (n := 4) (Nat.le_of_ble_eq_true rfl)
  rw [lg_entry_eq]
  generalize (lg_sl ([.ref qa, .int p0, .ref qo]) ++ List.replicate (4 - (lg_sl ([.ref qa, .int p0, .ref qo])).length) Slot.unset).toArray = ls at hl ⊢
  have hl : lv_has ls 4 [(0, .ref qa), (1, .int p0), (2, .ref qo)] := hl
  refine lv_aload_n hx hb d9_receive_0 rfl (lv_at hl 2 rfl) ?_
  refine lv_iconst (v := 0) hx hb d9_receive_1 (by decide) ?_
  refine lv_aload_n hx hb d9_receive_2 rfl (lv_at hl 0 rfl) ?_
  refine lv_iload_n hx hb d9_receive_3 rfl (lv_at hl 1 rfl) ?_
  refine sw_thr hlt (AsC := [.int p0]) (K := [.int 0, .ref qo]) hev rfl hx hb hml hown hts (sw_good mt_56.2.2.1) (hall _ wx_499) mt_56 hall (Nat.le_refl _) (Nat.le_refl _) hw va_S.rf hA hR hk0 hqa ⟨rfl, trivial⟩ rfl hl.1 (Nat.le_of_ble_eq_true rfl) d9_receive_4 (by show 0 + _ ≤ mc; omega) (by show 0 + _ ≤ ms; omega) (fun ce q z H1 locs1 hw1 hS1 hz1 hk1 hR1 hce hcv hcl => ?_)
  cases sw_z hw hw1 hkd
  rw [List.append_nil] at hw1
  have hc1 := sw_ck hc0 hk1
  have ec : 0 + (hp_c h2 - hp_c h) = mc := by omega
  have es : 0 + (hp_s h2 - hp_s h) = ms := by omega
  rw [ec, es]
  refine sc_catch (own := "RouteHouseLaw") (E := "java/lang/IndexOutOfBoundsException") (nm := "java/lang/IndexOutOfBoundsException") hown [] ⟨0, 9, 12, 13⟩ [] htab (fun _ h => absurd h List.not_mem_nil) (by decide) (by decide) (hall _ wx_267) (sx_word (State.WarmedH.refl s) rfl rfl (hxa.1 _ wl_279 rfl rfl)) hce hcv hcl ?_
  refine lv_astore_n hx hb d9_receive_12 rfl hl (by decide) rfl (fun ls2 hl2 => ?_)
  refine lv_iconst (v := 1) hx hb d9_receive_13 (by decide) ?_
  subst hAe
  exact W.iret hx hb hr (fun t ht hW => ⟨f, trivial, rfl, by rw [ht]; exact sd_w_moved hW.alike hw1, by rw [ht]; exact sw_cmoved hW.alike hc1, hS1.F ht⟩) hS1.2.2 d9_receive_14
theorem wx_712 : (Jvm.Cond.methodLink "RouteHouseLaw" (55 : Nat) ({ cls := "RouteHouse", name := "pass", desc := "(I)I" } : Jvm.MethodName)) ∈ tb_all := wd_o3 (i := 232) rfl rfl
theorem wx_711 : (Jvm.Cond.codeWith ({ cls := "RouteHouseLaw", name := "pass", desc := "(LRouteHouse;I[J)I" } : Jvm.MethodName) method_13_code (4 : Nat) (Option.some Jvm.ClassFile.FieldType.int) [((0 : Nat), (9 : Nat), (12 : Nat), (15 : Nat))]) ∈ tb_all := wd_o3 (i := 231) rfl rfl
theorem d9_pass_0 : decode method_13_code 0 = .ok (.aload_n 2, 1) := by decide +kernel
theorem d9_pass_1 : decode method_13_code 1 = .ok (.iconst 0, 1) := by decide +kernel
theorem d9_pass_2 : decode method_13_code 2 = .ok (.aload_n 0, 1) := by decide +kernel
theorem d9_pass_3 : decode method_13_code 3 = .ok (.iload_n 1, 1) := by decide +kernel
theorem d9_pass_4 : decode method_13_code 4 = .ok (.invokevirtual 55, 3) := by decide +kernel
theorem d9_pass_7 : decode method_13_code 7 = .ok (.i2l, 1) := by decide +kernel
theorem d9_pass_8 : decode method_13_code 8 = .ok (.lastore, 1) := by decide +kernel
theorem d9_pass_9 : decode method_13_code 9 = .ok (.goto 6, 3) := by decide +kernel
theorem d9_pass_12 : decode method_13_code 12 = .ok (.astore_n 3, 1) := by decide +kernel
theorem d9_pass_13 : decode method_13_code 13 = .ok (.iconst 1, 1) := by decide +kernel
theorem d9_pass_14 : decode method_13_code 14 = .ok (.ireturn, 1) := by decide +kernel
theorem d9_pass_15 : decode method_13_code 15 = .ok (.iconst 0, 1) := by decide +kernel
theorem d9_pass_16 : decode method_13_code 16 = .ok (.ireturn, 1) := by decide +kernel
def yw_pass : MethodName := ⟨"RouteHouseLaw", "pass", "(LRouteHouse;I[J)I"⟩
def ww_pass : List Jvm.Cond := .codeWith yw_pass method_13_code 4 (some .int) [(0, 9, 12, 15)] :: tb_all
set_option maxHeartbeats 4000000 in
set_option maxRecDepth 100000 in
theorem wr_pass {l : Launch} (hlt : l.stackTraces = false) (D : va_G) {ad : List Nat} {h : hp_T} {qa qo sz d f0 : Nat} {p0 : Int32} {f : Nat → Int64} {o : ev_O} (hev : ev_m d f0 57 [.ref 0, .int p0] h = some o) (hk0 : hp_k h 0 = some (7, 0)) (hqa : ad[0]? = some qa) (hkd : o.2.1 = h.1) {mc ms : Nat} (hmc : mc + hp_c h = hp_c o.2) (hms : ms + hp_s h = hp_s o.2) {v : Int32} (ho : o.1 = .inl (some (.int v))) : Met l yw_pass ww_pass (sw_rm 57 mc ms) (sw_P D ad h qo f sz [.ref qa, .int p0, .ref qo]) (sw_Q D ad o.2 qo sz 0 (fun f2 => f2 0 = v.toInt64)) mc ms (sd_fr (qo :: ad) sz) := by
  obtain ⟨r, h2⟩ := o
  cases ho
  have hmc : mc + hp_c h = hp_c h2 := hmc
  have hms : ms + hp_s h = hp_s h2 := hms
  refine va_MetW (cc := method_13_code) (maxL := 4) (ret := some .int) (hh := [(0, 9, 12, 15)]) (by decide +kernel) rfl ?_
  intro p e s m args below meth c s₁ B hml hv
  obtain ⟨rfl, hsz, hw, hc0, hxh, hxa, hg, hn⟩ := hv
  have hx := B.exec
  have hb := B.bytes
  have hr := B.returns
  have hts := atoms_spec (ws := ww_pass) B.pre
  have hall : ∀ w ∈ tb_all, w.before _ s = true := fun w h => hts w (List.mem_cons_of_mem _ h)
  have hown : s.vm.findClass "RouteHouseLaw" = some m.cls := findClass_of_methodNamed B.named
  have hlocks := B.notSynchronized
  have htab := sw_tab B (hts _ List.mem_cons_self)
  subst hsz
  have hA : ∀ q, s.heap.size ≤ q → sd_fr (qo :: ad) s.heap.size q := fun q h => Or.inr h
  generalize hAe : sd_fr (qo :: ad) s.heap.size = A at hw hc0 hA
  have hR : sw_R s s.heap := ⟨hxh, hxa, hg, fun _ _ h _ => h⟩
  have hl := lv_entry ([.ref qa, .int p0, .ref qo]) (n := 4) (Nat.le_of_ble_eq_true rfl)
  rw [lg_entry_eq]
  generalize (lg_sl ([.ref qa, .int p0, .ref qo]) ++ List.replicate (4 - (lg_sl ([.ref qa, .int p0, .ref qo])).length) Slot.unset).toArray = ls at hl ⊢
  have hl : lv_has ls 4 [(0, .ref qa), (1, .int p0), (2, .ref qo)] := hl
  refine lv_aload_n hx hb d9_pass_0 rfl (lv_at hl 2 rfl) ?_
  refine lv_iconst (v := 0) hx hb d9_pass_1 (by decide) ?_
  refine lv_aload_n hx hb d9_pass_2 rfl (lv_at hl 0 rfl) ?_
  refine lv_iload_n hx hb d9_pass_3 rfl (lv_at hl 1 rfl) ?_
  refine sw_ret hlt (AsC := [.int p0]) (K := [.int 0, .ref qo]) hev rfl hx hb hml hown hts (sw_good mt_57.2.2.1) (hall _ wx_712) mt_57 hall (Nat.le_refl _) (Nat.le_refl _) hw va_S.rf hA hR hk0 hqa ⟨rfl, trivial⟩ rfl hl.1 (Nat.le_of_ble_eq_true rfl) d9_pass_4 (by show 0 + _ ≤ mc; omega) (by show 0 + _ ≤ ms; omega) (fun w z H1 locs1 hw1 hS1 hq1 hz1 hk1 hR1 => ?_)
  cases sw_z hw hw1 hkd
  rw [List.append_nil] at hw1 hq1
  have hc1 := sw_ck hc0 hk1
  have ec : 0 + (hp_c h2 - hp_c h) = mc := by omega
  have es : 0 + (hp_s h2 - hp_s h) = ms := by omega
  rw [ec, es]
  cases w with
  | none => exact False.elim hq1
  | some w =>
    have hq2 : w = .int v := hq1.1
    subst hq2
    refine W.eq (g2 := F0 m 7 ls [.int v, .int 0, .ref qo]) rfl ?_
    refine lv_i2l hx hb d9_pass_7 rfl ?_
    refine sw_last hx hb hw1 hc1 hS1 d9_pass_8 (fun H2 locs2 hw2 hc2 hS2 => ?_)
    refine lv_goto (tgt := 15) hx hb d9_pass_9 (by decide) ?_
    refine lv_iconst (v := 0) hx hb d9_pass_15 (by decide) ?_
    subst hAe
    exact W.iret hx hb hr (fun t ht hW => ⟨_, pk_uLs, rfl, by rw [ht]; exact sd_w_moved hW.alike hw2, by rw [ht]; exact sw_cmoved hW.alike hc2, hS2.F ht⟩) hS2.2.2 d9_pass_16
set_option maxHeartbeats 4000000 in
set_option maxRecDepth 100000 in
theorem wt_pass_1 {l : Launch} (hlt : l.stackTraces = false) (D : va_G) {ad : List Nat} {h : hp_T} {qa qo sz d f0 : Nat} {p0 : Int32} {f : Nat → Int64} {o : ev_O} (hev : ev_m d f0 57 [.ref 0, .int p0] h = some o) (hk0 : hp_k h 0 = some (7, 0)) (hqa : ad[0]? = some qa) (hkd : o.2.1 = h.1) {mc ms : Nat} (hmc : mc + hp_c h = hp_c o.2) (hms : ms + hp_s h = hp_s o.2) (ho : o.1 = .inr 1) : Met l yw_pass ww_pass (sw_rm 57 mc ms) (sw_P D ad h qo f sz [.ref qa, .int p0, .ref qo]) (sw_Q D ad o.2 qo sz 1 (fun _ => True)) mc ms (sd_fr (qo :: ad) sz) := by
  obtain ⟨r, h2⟩ := o
  cases ho
  have hmc : mc + hp_c h = hp_c h2 := hmc
  have hms : ms + hp_s h = hp_s h2 := hms
  refine va_MetW (cc := method_13_code) (maxL := 4) (ret := some .int) (hh := [(0, 9, 12, 15)]) (by decide +kernel) rfl ?_
  intro p e s m args below meth c s₁ B hml hv
  obtain ⟨rfl, hsz, hw, hc0, hxh, hxa, hg, hn⟩ := hv
  have hx := B.exec
  have hb := B.bytes
  have hr := B.returns
  have hts := atoms_spec (ws := ww_pass) B.pre
  have hall : ∀ w ∈ tb_all, w.before _ s = true := fun w h => hts w (List.mem_cons_of_mem _ h)
  have hown : s.vm.findClass "RouteHouseLaw" = some m.cls := findClass_of_methodNamed B.named
  have hlocks := B.notSynchronized
  have htab := sw_tab B (hts _ List.mem_cons_self)
  subst hsz
  have hA : ∀ q, s.heap.size ≤ q → sd_fr (qo :: ad) s.heap.size q := fun q h => Or.inr h
  generalize hAe : sd_fr (qo :: ad) s.heap.size = A at hw hc0 hA
  have hR : sw_R s s.heap := ⟨hxh, hxa, hg, fun _ _ h _ => h⟩
  have hl := lv_entry ([.ref qa, .int p0, .ref qo]) (n := 4) (Nat.le_of_ble_eq_true rfl)
  rw [lg_entry_eq]
  generalize (lg_sl ([.ref qa, .int p0, .ref qo]) ++ List.replicate (4 - (lg_sl ([.ref qa, .int p0, .ref qo])).length) Slot.unset).toArray = ls at hl ⊢
  have hl : lv_has ls 4 [(0, .ref qa), (1, .int p0), (2, .ref qo)] := hl
  refine lv_aload_n hx hb d9_pass_0 rfl (lv_at hl 2 rfl) ?_
  refine lv_iconst (v := 0) hx hb d9_pass_1 (by decide) ?_
  refine lv_aload_n hx hb d9_pass_2 rfl (lv_at hl 0 rfl) ?_
  refine lv_iload_n hx hb d9_pass_3 rfl (lv_at hl 1 rfl) ?_
  refine sw_thr hlt (AsC := [.int p0]) (K := [.int 0, .ref qo]) hev rfl hx hb hml hown hts (sw_good mt_57.2.2.1) (hall _ wx_712) mt_57 hall (Nat.le_refl _) (Nat.le_refl _) hw va_S.rf hA hR hk0 hqa ⟨rfl, trivial⟩ rfl hl.1 (Nat.le_of_ble_eq_true rfl) d9_pass_4 (by show 0 + _ ≤ mc; omega) (by show 0 + _ ≤ ms; omega) (fun ce q z H1 locs1 hw1 hS1 hz1 hk1 hR1 hce hcv hcl => ?_)
  cases sw_z hw hw1 hkd
  rw [List.append_nil] at hw1
  have hc1 := sw_ck hc0 hk1
  have ec : 0 + (hp_c h2 - hp_c h) = mc := by omega
  have es : 0 + (hp_s h2 - hp_s h) = ms := by omega
  rw [ec, es]
  refine sc_catch (own := "RouteHouseLaw") (E := "java/lang/IllegalArgumentException") (nm := "java/lang/IllegalArgumentException") hown [] ⟨0, 9, 12, 15⟩ [] htab (fun _ h => absurd h List.not_mem_nil) (by decide) (by decide) (hall _ wx_268) (sx_word (State.WarmedH.refl s) rfl rfl (hxa.1 _ wl_347 rfl rfl)) hce hcv hcl ?_
  refine lv_astore_n hx hb d9_pass_12 rfl hl (by decide) rfl (fun ls2 hl2 => ?_)
  refine lv_iconst (v := 1) hx hb d9_pass_13 (by decide) ?_
  subst hAe
  exact W.iret hx hb hr (fun t ht hW => ⟨f, trivial, rfl, by rw [ht]; exact sd_w_moved hW.alike hw1, by rw [ht]; exact sw_cmoved hW.alike hc1, hS1.F ht⟩) hS1.2.2 d9_pass_14
theorem wx_729 : (Jvm.Cond.methodLink "RouteHouseLaw" (58 : Nat) ({ cls := "RouteHouse", name := "sent", desc := "(II)I" } : Jvm.MethodName)) ∈ tb_all := wd_o4 (i := 9) rfl rfl
theorem wx_728 : (Jvm.Cond.codeWith ({ cls := "RouteHouseLaw", name := "sent", desc := "(LRouteHouse;II[J)I" } : Jvm.MethodName) method_14_code (5 : Nat) (Option.some Jvm.ClassFile.FieldType.int) [((0 : Nat), (10 : Nat), (13 : Nat), (13 : Nat)), ((0 : Nat), (10 : Nat), (17 : Nat), (15 : Nat))]) ∈ tb_all := wd_o4 (i := 8) rfl rfl
theorem d9_sent_0 : decode method_14_code 0 = .ok (.aload_n 3, 1) := by decide +kernel
theorem d9_sent_1 : decode method_14_code 1 = .ok (.iconst 0, 1) := by decide +kernel
theorem d9_sent_2 : decode method_14_code 2 = .ok (.aload_n 0, 1) := by decide +kernel
theorem d9_sent_3 : decode method_14_code 3 = .ok (.iload_n 1, 1) := by decide +kernel
theorem d9_sent_4 : decode method_14_code 4 = .ok (.iload_n 2, 1) := by decide +kernel
theorem d9_sent_5 : decode method_14_code 5 = .ok (.invokevirtual 58, 3) := by decide +kernel
theorem d9_sent_8 : decode method_14_code 8 = .ok (.i2l, 1) := by decide +kernel
theorem d9_sent_9 : decode method_14_code 9 = .ok (.lastore, 1) := by decide +kernel
theorem d9_sent_10 : decode method_14_code 10 = .ok (.goto 11, 3) := by decide +kernel
theorem d9_sent_13 : decode method_14_code 13 = .ok (.astore 4, 2) := by decide +kernel
theorem d9_sent_15 : decode method_14_code 15 = .ok (.iconst 1, 1) := by decide +kernel
theorem d9_sent_16 : decode method_14_code 16 = .ok (.ireturn, 1) := by decide +kernel
theorem d9_sent_17 : decode method_14_code 17 = .ok (.astore 4, 2) := by decide +kernel
theorem d9_sent_19 : decode method_14_code 19 = .ok (.iconst 2, 1) := by decide +kernel
theorem d9_sent_20 : decode method_14_code 20 = .ok (.ireturn, 1) := by decide +kernel
theorem d9_sent_21 : decode method_14_code 21 = .ok (.iconst 0, 1) := by decide +kernel
theorem d9_sent_22 : decode method_14_code 22 = .ok (.ireturn, 1) := by decide +kernel
def yw_sent : MethodName := ⟨"RouteHouseLaw", "sent", "(LRouteHouse;II[J)I"⟩
def ww_sent : List Jvm.Cond := .codeWith yw_sent method_14_code 5 (some .int) [(0, 10, 13, 13), (0, 10, 17, 15)] :: tb_all
set_option maxHeartbeats 4000000 in
set_option maxRecDepth 100000 in
theorem wr_sent {l : Launch} (hlt : l.stackTraces = false) (D : va_G) {ad : List Nat} {h : hp_T} {qa qo sz d f0 : Nat} {p0 p1 : Int32} {f : Nat → Int64} {o : ev_O} (hev : ev_m d f0 58 [.ref 0, .int p0, .int p1] h = some o) (hk0 : hp_k h 0 = some (7, 0)) (hqa : ad[0]? = some qa) (hkd : o.2.1 = h.1) {mc ms : Nat} (hmc : mc + hp_c h = hp_c o.2) (hms : ms + hp_s h = hp_s o.2) {v : Int32} (ho : o.1 = .inl (some (.int v))) : Met l yw_sent ww_sent (sw_rm 58 mc ms) (sw_P D ad h qo f sz [.ref qa, .int p0, .int p1, .ref qo]) (sw_Q D ad o.2 qo sz 0 (fun f2 => f2 0 = v.toInt64)) mc ms (sd_fr (qo :: ad) sz) := by
  obtain ⟨r, h2⟩ := o
  cases ho
  have hmc : mc + hp_c h = hp_c h2 := hmc
  have hms : ms + hp_s h = hp_s h2 := hms
  refine va_MetW (cc := method_14_code) (maxL := 5) (ret := some .int) (hh := [(0, 10, 13, 13), (0, 10, 17, 15)]) (by decide +kernel) rfl ?_
  intro p e s m args below meth c s₁ B hml hv
  obtain ⟨rfl, hsz, hw, hc0, hxh, hxa, hg, hn⟩ := hv
  have hx := B.exec
  have hb := B.bytes
  have hr := B.returns
  have hts := atoms_spec (ws := ww_sent) B.pre
  have hall : ∀ w ∈ tb_all, w.before _ s = true := fun w h => hts w (List.mem_cons_of_mem _ h)
  have hown : s.vm.findClass "RouteHouseLaw" = some m.cls := findClass_of_methodNamed B.named
  have hlocks := B.notSynchronized
  have htab := sw_tab B (hts _ List.mem_cons_self)
  subst hsz
  have hA : ∀ q, s.heap.size ≤ q → sd_fr (qo :: ad) s.heap.size q := fun q h => Or.inr h
  generalize hAe : sd_fr (qo :: ad) s.heap.size = A at hw hc0 hA
  have hR : sw_R s s.heap := ⟨hxh, hxa, hg, fun _ _ h _ => h⟩
  have hl := lv_entry ([.ref qa, .int p0, .int p1, .ref qo]) (n := 5) (Nat.le_of_ble_eq_true rfl)
  rw [lg_entry_eq]
  generalize (lg_sl ([.ref qa, .int p0, .int p1, .ref qo]) ++ List.replicate (5 - (lg_sl ([.ref qa, .int p0, .int p1, .ref qo])).length) Slot.unset).toArray = ls at hl ⊢
  have hl : lv_has ls 5 [(0, .ref qa), (1, .int p0), (2, .int p1), (3, .ref qo)] := hl
  refine lv_aload_n hx hb d9_sent_0 rfl (lv_at hl 3 rfl) ?_
  refine lv_iconst (v := 0) hx hb d9_sent_1 (by decide) ?_
  refine lv_aload_n hx hb d9_sent_2 rfl (lv_at hl 0 rfl) ?_
  refine lv_iload_n hx hb d9_sent_3 rfl (lv_at hl 1 rfl) ?_
  refine lv_iload_n hx hb d9_sent_4 rfl (lv_at hl 2 rfl) ?_
  refine sw_ret hlt (AsC := [.int p0, .int p1]) (K := [.int 0, .ref qo]) hev rfl hx hb hml hown hts (sw_good mt_58.2.2.1) (hall _ wx_729) mt_58 hall (Nat.le_refl _) (Nat.le_refl _) hw va_S.rf hA hR hk0 hqa ⟨rfl, rfl, trivial⟩ rfl hl.1 (Nat.le_of_ble_eq_true rfl) d9_sent_5 (by show 0 + _ ≤ mc; omega) (by show 0 + _ ≤ ms; omega) (fun w z H1 locs1 hw1 hS1 hq1 hz1 hk1 hR1 => ?_)
  cases sw_z hw hw1 hkd
  rw [List.append_nil] at hw1 hq1
  have hc1 := sw_ck hc0 hk1
  have ec : 0 + (hp_c h2 - hp_c h) = mc := by omega
  have es : 0 + (hp_s h2 - hp_s h) = ms := by omega
  rw [ec, es]
  cases w with
  | none => exact False.elim hq1
  | some w =>
    have hq2 : w = .int v := hq1.1
    subst hq2
    refine W.eq (g2 := F0 m 8 ls [.int v, .int 0, .ref qo]) rfl ?_
    refine lv_i2l hx hb d9_sent_8 rfl ?_
    refine sw_last hx hb hw1 hc1 hS1 d9_sent_9 (fun H2 locs2 hw2 hc2 hS2 => ?_)
    refine lv_goto (tgt := 21) hx hb d9_sent_10 (by decide) ?_
    refine lv_iconst (v := 0) hx hb d9_sent_21 (by decide) ?_
    subst hAe
    exact W.iret hx hb hr (fun t ht hW => ⟨_, pk_uLs, rfl, by rw [ht]; exact sd_w_moved hW.alike hw2, by rw [ht]; exact sw_cmoved hW.alike hc2, hS2.F ht⟩) hS2.2.2 d9_sent_22
set_option maxHeartbeats 4000000 in
set_option maxRecDepth 100000 in
theorem wt_sent_0 {l : Launch} (hlt : l.stackTraces = false) (D : va_G) {ad : List Nat} {h : hp_T} {qa qo sz d f0 : Nat} {p0 p1 : Int32} {f : Nat → Int64} {o : ev_O} (hev : ev_m d f0 58 [.ref 0, .int p0, .int p1] h = some o) (hk0 : hp_k h 0 = some (7, 0)) (hqa : ad[0]? = some qa) (hkd : o.2.1 = h.1) {mc ms : Nat} (hmc : mc + hp_c h = hp_c o.2) (hms : ms + hp_s h = hp_s o.2) (ho : o.1 = .inr 0) : Met l yw_sent ww_sent (sw_rm 58 mc ms) (sw_P D ad h qo f sz [.ref qa, .int p0, .int p1, .ref qo]) (sw_Q D ad o.2 qo sz 1 (fun _ => True)) mc ms (sd_fr (qo :: ad) sz) := by
  obtain ⟨r, h2⟩ := o
  cases ho
  have hmc : mc + hp_c h = hp_c h2 := hmc
  have hms : ms + hp_s h = hp_s h2 := hms
  refine va_MetW (cc := method_14_code) (maxL := 5) (ret := some .int) (hh := [(0, 10, 13, 13), (0, 10, 17, 15)]) (by decide +kernel) rfl ?_
  intro p e s m args below meth c s₁ B hml hv
  obtain ⟨rfl, hsz, hw, hc0, hxh, hxa, hg, hn⟩ := hv
  have hx := B.exec
  have hb := B.bytes
  have hr := B.returns
  have hts := atoms_spec (ws := ww_sent) B.pre
  have hall : ∀ w ∈ tb_all, w.before _ s = true := fun w h => hts w (List.mem_cons_of_mem _ h)
  have hown : s.vm.findClass "RouteHouseLaw" = some m.cls := findClass_of_methodNamed B.named
  have hlocks := B.notSynchronized
  have htab := sw_tab B (hts _ List.mem_cons_self)
  subst hsz
  have hA : ∀ q, s.heap.size ≤ q → sd_fr (qo :: ad) s.heap.size q := fun q h => Or.inr h
  generalize hAe : sd_fr (qo :: ad) s.heap.size = A at hw hc0 hA
  have hR : sw_R s s.heap := ⟨hxh, hxa, hg, fun _ _ h _ => h⟩
  have hl := lv_entry ([.ref qa, .int p0, .int p1, .ref qo]) (n := 5) (Nat.le_of_ble_eq_true rfl)
  rw [lg_entry_eq]
  generalize (lg_sl ([.ref qa, .int p0, .int p1, .ref qo]) ++ List.replicate (5 - (lg_sl ([.ref qa, .int p0, .int p1, .ref qo])).length) Slot.unset).toArray = ls at hl ⊢
  have hl : lv_has ls 5 [(0, .ref qa), (1, .int p0), (2, .int p1), (3, .ref qo)] := hl
  refine lv_aload_n hx hb d9_sent_0 rfl (lv_at hl 3 rfl) ?_
  refine lv_iconst (v := 0) hx hb d9_sent_1 (by decide) ?_
  refine lv_aload_n hx hb d9_sent_2 rfl (lv_at hl 0 rfl) ?_
  refine lv_iload_n hx hb d9_sent_3 rfl (lv_at hl 1 rfl) ?_
  refine lv_iload_n hx hb d9_sent_4 rfl (lv_at hl 2 rfl) ?_
  refine sw_thr hlt (AsC := [.int p0, .int p1]) (K := [.int 0, .ref qo]) hev rfl hx hb hml hown hts (sw_good mt_58.2.2.1) (hall _ wx_729) mt_58 hall (Nat.le_refl _) (Nat.le_refl _) hw va_S.rf hA hR hk0 hqa ⟨rfl, rfl, trivial⟩ rfl hl.1 (Nat.le_of_ble_eq_true rfl) d9_sent_5 (by show 0 + _ ≤ mc; omega) (by show 0 + _ ≤ ms; omega) (fun ce q z H1 locs1 hw1 hS1 hz1 hk1 hR1 hce hcv hcl => ?_)
  cases sw_z hw hw1 hkd
  rw [List.append_nil] at hw1
  have hc1 := sw_ck hc0 hk1
  have ec : 0 + (hp_c h2 - hp_c h) = mc := by omega
  have es : 0 + (hp_s h2 - hp_s h) = ms := by omega
  rw [ec, es]
  refine sc_catch (own := "RouteHouseLaw") (E := "java/lang/IndexOutOfBoundsException") (nm := "java/lang/IndexOutOfBoundsException") hown [] ⟨0, 10, 13, 13⟩ [⟨0, 10, 17, 15⟩] htab (fun _ h => absurd h List.not_mem_nil) (by decide) (by decide) (hall _ wx_267) (sx_word (State.WarmedH.refl s) rfl rfl (hxa.1 _ wl_279 rfl rfl)) hce hcv hcl ?_
  refine lv_astore hx hb d9_sent_13 hl (by decide) rfl (fun ls2 hl2 => ?_)
  refine lv_iconst (v := 1) hx hb d9_sent_15 (by decide) ?_
  subst hAe
  exact W.iret hx hb hr (fun t ht hW => ⟨f, trivial, rfl, by rw [ht]; exact sd_w_moved hW.alike hw1, by rw [ht]; exact sw_cmoved hW.alike hc1, hS1.F ht⟩) hS1.2.2 d9_sent_16
set_option maxHeartbeats 4000000 in
set_option maxRecDepth 100000 in
theorem wt_sent_1 {l : Launch} (hlt : l.stackTraces = false) (D : va_G) {ad : List Nat} {h : hp_T} {qa qo sz d f0 : Nat} {p0 p1 : Int32} {f : Nat → Int64} {o : ev_O} (hev : ev_m d f0 58 [.ref 0, .int p0, .int p1] h = some o) (hk0 : hp_k h 0 = some (7, 0)) (hqa : ad[0]? = some qa) (hkd : o.2.1 = h.1) {mc ms : Nat} (hmc : mc + hp_c h = hp_c o.2) (hms : ms + hp_s h = hp_s o.2) (ho : o.1 = .inr 1) : Met l yw_sent ww_sent (sw_rm 58 mc ms) (sw_P D ad h qo f sz [.ref qa, .int p0, .int p1, .ref qo]) (sw_Q D ad o.2 qo sz 2 (fun _ => True)) mc ms (sd_fr (qo :: ad) sz) := by
  obtain ⟨r, h2⟩ := o
  cases ho
  have hmc : mc + hp_c h = hp_c h2 := hmc
  have hms : ms + hp_s h = hp_s h2 := hms
  refine va_MetW (cc := method_14_code) (maxL := 5) (ret := some .int) (hh := [(0, 10, 13, 13), (0, 10, 17, 15)]) (by decide +kernel) rfl ?_
  intro p e s m args below meth c s₁ B hml hv
  obtain ⟨rfl, hsz, hw, hc0, hxh, hxa, hg, hn⟩ := hv
  have hx := B.exec
  have hb := B.bytes
  have hr := B.returns
  have hts := atoms_spec (ws := ww_sent) B.pre
  have hall : ∀ w ∈ tb_all, w.before _ s = true := fun w h => hts w (List.mem_cons_of_mem _ h)
  have hown : s.vm.findClass "RouteHouseLaw" = some m.cls := findClass_of_methodNamed B.named
  have hlocks := B.notSynchronized
  have htab := sw_tab B (hts _ List.mem_cons_self)
  subst hsz
  have hA : ∀ q, s.heap.size ≤ q → sd_fr (qo :: ad) s.heap.size q := fun q h => Or.inr h
  generalize hAe : sd_fr (qo :: ad) s.heap.size = A at hw hc0 hA
  have hR : sw_R s s.heap := ⟨hxh, hxa, hg, fun _ _ h _ => h⟩
  have hl := lv_entry ([.ref qa, .int p0, .int p1, .ref qo]) (n := 5) (Nat.le_of_ble_eq_true rfl)
  rw [lg_entry_eq]
  generalize (lg_sl ([.ref qa, .int p0, .int p1, .ref qo]) ++ List.replicate (5 - (lg_sl ([.ref qa, .int p0, .int p1, .ref qo])).length) Slot.unset).toArray = ls at hl ⊢
  have hl : lv_has ls 5 [(0, .ref qa), (1, .int p0), (2, .int p1), (3, .ref qo)] := hl
  refine lv_aload_n hx hb d9_sent_0 rfl (lv_at hl 3 rfl) ?_
  refine lv_iconst (v := 0) hx hb d9_sent_1 (by decide) ?_
  refine lv_aload_n hx hb d9_sent_2 rfl (lv_at hl 0 rfl) ?_
  refine lv_iload_n hx hb d9_sent_3 rfl (lv_at hl 1 rfl) ?_
  refine lv_iload_n hx hb d9_sent_4 rfl (lv_at hl 2 rfl) ?_
  refine sw_thr hlt (AsC := [.int p0, .int p1]) (K := [.int 0, .ref qo]) hev rfl hx hb hml hown hts (sw_good mt_58.2.2.1) (hall _ wx_729) mt_58 hall (Nat.le_refl _) (Nat.le_refl _) hw va_S.rf hA hR hk0 hqa ⟨rfl, rfl, trivial⟩ rfl hl.1 (Nat.le_of_ble_eq_true rfl) d9_sent_5 (by show 0 + _ ≤ mc; omega) (by show 0 + _ ≤ ms; omega) (fun ce q z H1 locs1 hw1 hS1 hz1 hk1 hR1 hce hcv hcl => ?_)
  cases sw_z hw hw1 hkd
  rw [List.append_nil] at hw1
  have hc1 := sw_ck hc0 hk1
  have ec : 0 + (hp_c h2 - hp_c h) = mc := by omega
  have es : 0 + (hp_s h2 - hp_s h) = ms := by omega
  rw [ec, es]
  refine sc_catch (own := "RouteHouseLaw") (E := "java/lang/IllegalArgumentException") (nm := "java/lang/IllegalArgumentException") hown [⟨0, 10, 13, 13⟩] ⟨0, 10, 17, 15⟩ [] htab (List.forall_mem_cons.mpr ⟨⟨by decide, by decide, "java/lang/IndexOutOfBoundsException", hall _ wx_267, hn.2.1⟩, fun _ h => absurd h List.not_mem_nil⟩) (by decide) (by decide) (hall _ wx_268) (sx_word (State.WarmedH.refl s) rfl rfl (hxa.1 _ wl_347 rfl rfl)) hce hcv hcl ?_
  refine lv_astore hx hb d9_sent_17 hl (by decide) rfl (fun ls2 hl2 => ?_)
  refine lv_iconst (v := 2) hx hb d9_sent_19 (by decide) ?_
  subst hAe
  exact W.iret hx hb hr (fun t ht hW => ⟨f, trivial, rfl, by rw [ht]; exact sd_w_moved hW.alike hw1, by rw [ht]; exact sw_cmoved hW.alike hc1, hS1.F ht⟩) hS1.2.2 d9_sent_20
theorem wx_737 : (Jvm.Cond.methodLink "RouteHouseLaw" (61 : Nat) ({ cls := "RouteHouse", name := "out", desc := "(II)I" } : Jvm.MethodName)) ∈ tb_all := wd_o4 (i := 17) rfl rfl
theorem wx_736 : (Jvm.Cond.codeWith ({ cls := "RouteHouseLaw", name := "out", desc := "(LRouteHouse;II[J)I" } : Jvm.MethodName) method_15_code (5 : Nat) (Option.some Jvm.ClassFile.FieldType.int) [((0 : Nat), (10 : Nat), (13 : Nat), (13 : Nat))]) ∈ tb_all := wd_o4 (i := 16) rfl rfl
theorem d9_out_0 : decode method_15_code 0 = .ok (.aload_n 3, 1) := by decide +kernel
theorem d9_out_1 : decode method_15_code 1 = .ok (.iconst 0, 1) := by decide +kernel
theorem d9_out_2 : decode method_15_code 2 = .ok (.aload_n 0, 1) := by decide +kernel
theorem d9_out_3 : decode method_15_code 3 = .ok (.iload_n 1, 1) := by decide +kernel
theorem d9_out_4 : decode method_15_code 4 = .ok (.iload_n 2, 1) := by decide +kernel
theorem d9_out_5 : decode method_15_code 5 = .ok (.invokevirtual 61, 3) := by decide +kernel
theorem d9_out_8 : decode method_15_code 8 = .ok (.i2l, 1) := by decide +kernel
theorem d9_out_9 : decode method_15_code 9 = .ok (.lastore, 1) := by decide +kernel
theorem d9_out_10 : decode method_15_code 10 = .ok (.goto 7, 3) := by decide +kernel
theorem d9_out_13 : decode method_15_code 13 = .ok (.astore 4, 2) := by decide +kernel
theorem d9_out_15 : decode method_15_code 15 = .ok (.iconst 1, 1) := by decide +kernel
theorem d9_out_16 : decode method_15_code 16 = .ok (.ireturn, 1) := by decide +kernel
theorem d9_out_17 : decode method_15_code 17 = .ok (.iconst 0, 1) := by decide +kernel
theorem d9_out_18 : decode method_15_code 18 = .ok (.ireturn, 1) := by decide +kernel
def yw_out : MethodName := ⟨"RouteHouseLaw", "out", "(LRouteHouse;II[J)I"⟩
def ww_out : List Jvm.Cond := .codeWith yw_out method_15_code 5 (some .int) [(0, 10, 13, 13)] :: tb_all
set_option maxHeartbeats 4000000 in
set_option maxRecDepth 100000 in
theorem wr_out {l : Launch} (hlt : l.stackTraces = false) (D : va_G) {ad : List Nat} {h : hp_T} {qa qo sz d f0 : Nat} {p0 p1 : Int32} {f : Nat → Int64} {o : ev_O} (hev : ev_m d f0 59 [.ref 0, .int p0, .int p1] h = some o) (hk0 : hp_k h 0 = some (7, 0)) (hqa : ad[0]? = some qa) (hkd : o.2.1 = h.1) {mc ms : Nat} (hmc : mc + hp_c h = hp_c o.2) (hms : ms + hp_s h = hp_s o.2) {v : Int32} (ho : o.1 = .inl (some (.int v))) : Met l yw_out ww_out (sw_rm 59 mc ms) (sw_P D ad h qo f sz [.ref qa, .int p0, .int p1, .ref qo]) (sw_Q D ad o.2 qo sz 0 (fun f2 => f2 0 = v.toInt64)) mc ms (sd_fr (qo :: ad) sz) := by
  obtain ⟨r, h2⟩ := o
  cases ho
  have hmc : mc + hp_c h = hp_c h2 := hmc
  have hms : ms + hp_s h = hp_s h2 := hms
  refine va_MetW (cc := method_15_code) (maxL := 5) (ret := some .int) (hh := [(0, 10, 13, 13)]) (by decide +kernel) rfl ?_
  intro p e s m args below meth c s₁ B hml hv
  obtain ⟨rfl, hsz, hw, hc0, hxh, hxa, hg, hn⟩ := hv
  have hx := B.exec
  have hb := B.bytes
  have hr := B.returns
  have hts := atoms_spec (ws := ww_out) B.pre
  have hall : ∀ w ∈ tb_all, w.before _ s = true := fun w h => hts w (List.mem_cons_of_mem _ h)
  have hown : s.vm.findClass "RouteHouseLaw" = some m.cls := findClass_of_methodNamed B.named
  have hlocks := B.notSynchronized
  have htab := sw_tab B (hts _ List.mem_cons_self)
  subst hsz
  have hA : ∀ q, s.heap.size ≤ q → sd_fr (qo :: ad) s.heap.size q := fun q h => Or.inr h
  generalize hAe : sd_fr (qo :: ad) s.heap.size = A at hw hc0 hA
  have hR : sw_R s s.heap := ⟨hxh, hxa, hg, fun _ _ h _ => h⟩
  have hl := lv_entry ([.ref qa, .int p0, .int p1, .ref qo]) (n := 5) (Nat.le_of_ble_eq_true rfl)
  rw [lg_entry_eq]
  generalize (lg_sl ([.ref qa, .int p0, .int p1, .ref qo]) ++ List.replicate (5 - (lg_sl ([.ref qa, .int p0, .int p1, .ref qo])).length) Slot.unset).toArray = ls at hl ⊢
  have hl : lv_has ls 5 [(0, .ref qa), (1, .int p0), (2, .int p1), (3, .ref qo)] := hl
  refine lv_aload_n hx hb d9_out_0 rfl (lv_at hl 3 rfl) ?_
  refine lv_iconst (v := 0) hx hb d9_out_1 (by decide) ?_
  refine lv_aload_n hx hb d9_out_2 rfl (lv_at hl 0 rfl) ?_
  refine lv_iload_n hx hb d9_out_3 rfl (lv_at hl 1 rfl) ?_
  refine lv_iload_n hx hb d9_out_4 rfl (lv_at hl 2 rfl) ?_
  refine sw_ret hlt (AsC := [.int p0, .int p1]) (K := [.int 0, .ref qo]) hev rfl hx hb hml hown hts (sw_good mt_59.2.2.1) (hall _ wx_737) mt_59 hall (Nat.le_refl _) (Nat.le_refl _) hw va_S.rf hA hR hk0 hqa ⟨rfl, rfl, trivial⟩ rfl hl.1 (Nat.le_of_ble_eq_true rfl) d9_out_5 (by show 0 + _ ≤ mc; omega) (by show 0 + _ ≤ ms; omega) (fun w z H1 locs1 hw1 hS1 hq1 hz1 hk1 hR1 => ?_)
  cases sw_z hw hw1 hkd
  rw [List.append_nil] at hw1 hq1
  have hc1 := sw_ck hc0 hk1
  have ec : 0 + (hp_c h2 - hp_c h) = mc := by omega
  have es : 0 + (hp_s h2 - hp_s h) = ms := by omega
  rw [ec, es]
  cases w with
  | none => exact False.elim hq1
  | some w =>
    have hq2 : w = .int v := hq1.1
    subst hq2
    refine W.eq (g2 := F0 m 8 ls [.int v, .int 0, .ref qo]) rfl ?_
    refine lv_i2l hx hb d9_out_8 rfl ?_
    refine sw_last hx hb hw1 hc1 hS1 d9_out_9 (fun H2 locs2 hw2 hc2 hS2 => ?_)
    refine lv_goto (tgt := 17) hx hb d9_out_10 (by decide) ?_
    refine lv_iconst (v := 0) hx hb d9_out_17 (by decide) ?_
    subst hAe
    exact W.iret hx hb hr (fun t ht hW => ⟨_, pk_uLs, rfl, by rw [ht]; exact sd_w_moved hW.alike hw2, by rw [ht]; exact sw_cmoved hW.alike hc2, hS2.F ht⟩) hS2.2.2 d9_out_18
set_option maxHeartbeats 4000000 in
set_option maxRecDepth 100000 in
theorem wt_out_0 {l : Launch} (hlt : l.stackTraces = false) (D : va_G) {ad : List Nat} {h : hp_T} {qa qo sz d f0 : Nat} {p0 p1 : Int32} {f : Nat → Int64} {o : ev_O} (hev : ev_m d f0 59 [.ref 0, .int p0, .int p1] h = some o) (hk0 : hp_k h 0 = some (7, 0)) (hqa : ad[0]? = some qa) (hkd : o.2.1 = h.1) {mc ms : Nat} (hmc : mc + hp_c h = hp_c o.2) (hms : ms + hp_s h = hp_s o.2) (ho : o.1 = .inr 0) : Met l yw_out ww_out (sw_rm 59 mc ms) (sw_P D ad h qo f sz [.ref qa, .int p0, .int p1, .ref qo]) (sw_Q D ad o.2 qo sz 1 (fun _ => True)) mc ms (sd_fr (qo :: ad) sz) := by
  obtain ⟨r, h2⟩ := o
  cases ho
  have hmc : mc + hp_c h = hp_c h2 := hmc
  have hms : ms + hp_s h = hp_s h2 := hms
  refine va_MetW (cc := method_15_code) (maxL := 5) (ret := some .int) (hh := [(0, 10, 13, 13)]) (by decide +kernel) rfl ?_
  intro p e s m args below meth c s₁ B hml hv
  obtain ⟨rfl, hsz, hw, hc0, hxh, hxa, hg, hn⟩ := hv
  have hx := B.exec
  have hb := B.bytes
  have hr := B.returns
  have hts := atoms_spec (ws := ww_out) B.pre
  have hall : ∀ w ∈ tb_all, w.before _ s = true := fun w h => hts w (List.mem_cons_of_mem _ h)
  have hown : s.vm.findClass "RouteHouseLaw" = some m.cls := findClass_of_methodNamed B.named
  have hlocks := B.notSynchronized
  have htab := sw_tab B (hts _ List.mem_cons_self)
  subst hsz
  have hA : ∀ q, s.heap.size ≤ q → sd_fr (qo :: ad) s.heap.size q := fun q h => Or.inr h
  generalize hAe : sd_fr (qo :: ad) s.heap.size = A at hw hc0 hA
  have hR : sw_R s s.heap := ⟨hxh, hxa, hg, fun _ _ h _ => h⟩
  have hl := lv_entry ([.ref qa, .int p0, .int p1, .ref qo]) (n := 5) (Nat.le_of_ble_eq_true rfl)
  rw [lg_entry_eq]
  generalize (lg_sl ([.ref qa, .int p0, .int p1, .ref qo]) ++ List.replicate (5 - (lg_sl ([.ref qa, .int p0, .int p1, .ref qo])).length) Slot.unset).toArray = ls at hl ⊢
  have hl : lv_has ls 5 [(0, .ref qa), (1, .int p0), (2, .int p1), (3, .ref qo)] := hl
  refine lv_aload_n hx hb d9_out_0 rfl (lv_at hl 3 rfl) ?_
  refine lv_iconst (v := 0) hx hb d9_out_1 (by decide) ?_
  refine lv_aload_n hx hb d9_out_2 rfl (lv_at hl 0 rfl) ?_
  refine lv_iload_n hx hb d9_out_3 rfl (lv_at hl 1 rfl) ?_
  refine lv_iload_n hx hb d9_out_4 rfl (lv_at hl 2 rfl) ?_
  refine sw_thr hlt (AsC := [.int p0, .int p1]) (K := [.int 0, .ref qo]) hev rfl hx hb hml hown hts (sw_good mt_59.2.2.1) (hall _ wx_737) mt_59 hall (Nat.le_refl _) (Nat.le_refl _) hw va_S.rf hA hR hk0 hqa ⟨rfl, rfl, trivial⟩ rfl hl.1 (Nat.le_of_ble_eq_true rfl) d9_out_5 (by show 0 + _ ≤ mc; omega) (by show 0 + _ ≤ ms; omega) (fun ce q z H1 locs1 hw1 hS1 hz1 hk1 hR1 hce hcv hcl => ?_)
  cases sw_z hw hw1 hkd
  rw [List.append_nil] at hw1
  have hc1 := sw_ck hc0 hk1
  have ec : 0 + (hp_c h2 - hp_c h) = mc := by omega
  have es : 0 + (hp_s h2 - hp_s h) = ms := by omega
  rw [ec, es]
  refine sc_catch (own := "RouteHouseLaw") (E := "java/lang/IndexOutOfBoundsException") (nm := "java/lang/IndexOutOfBoundsException") hown [] ⟨0, 10, 13, 13⟩ [] htab (fun _ h => absurd h List.not_mem_nil) (by decide) (by decide) (hall _ wx_267) (sx_word (State.WarmedH.refl s) rfl rfl (hxa.1 _ wl_279 rfl rfl)) hce hcv hcl ?_
  refine lv_astore hx hb d9_out_13 hl (by decide) rfl (fun ls2 hl2 => ?_)
  refine lv_iconst (v := 1) hx hb d9_out_15 (by decide) ?_
  subst hAe
  exact W.iret hx hb hr (fun t ht hW => ⟨f, trivial, rfl, by rw [ht]; exact sd_w_moved hW.alike hw1, by rw [ht]; exact sw_cmoved hW.alike hc1, hS1.F ht⟩) hS1.2.2 d9_out_16
theorem wx_745 : (Jvm.Cond.methodLink "RouteHouseLaw" (64 : Nat) ({ cls := "RouteHouse", name := "about", desc := "(I)I" } : Jvm.MethodName)) ∈ tb_all := wd_o4 (i := 25) rfl rfl
theorem wx_744 : (Jvm.Cond.codeWith ({ cls := "RouteHouseLaw", name := "about", desc := "(LRouteHouse;I[J)I" } : Jvm.MethodName) method_16_code (4 : Nat) (Option.some Jvm.ClassFile.FieldType.int) [((0 : Nat), (9 : Nat), (12 : Nat), (15 : Nat))]) ∈ tb_all := wd_o4 (i := 24) rfl rfl
theorem d9_about_0 : decode method_16_code 0 = .ok (.aload_n 2, 1) := by decide +kernel
theorem d9_about_1 : decode method_16_code 1 = .ok (.iconst 0, 1) := by decide +kernel
theorem d9_about_2 : decode method_16_code 2 = .ok (.aload_n 0, 1) := by decide +kernel
theorem d9_about_3 : decode method_16_code 3 = .ok (.iload_n 1, 1) := by decide +kernel
theorem d9_about_4 : decode method_16_code 4 = .ok (.invokevirtual 64, 3) := by decide +kernel
theorem d9_about_7 : decode method_16_code 7 = .ok (.i2l, 1) := by decide +kernel
theorem d9_about_8 : decode method_16_code 8 = .ok (.lastore, 1) := by decide +kernel
theorem d9_about_9 : decode method_16_code 9 = .ok (.goto 6, 3) := by decide +kernel
theorem d9_about_12 : decode method_16_code 12 = .ok (.astore_n 3, 1) := by decide +kernel
theorem d9_about_13 : decode method_16_code 13 = .ok (.iconst 1, 1) := by decide +kernel
theorem d9_about_14 : decode method_16_code 14 = .ok (.ireturn, 1) := by decide +kernel
theorem d9_about_15 : decode method_16_code 15 = .ok (.iconst 0, 1) := by decide +kernel
theorem d9_about_16 : decode method_16_code 16 = .ok (.ireturn, 1) := by decide +kernel
def yw_about : MethodName := ⟨"RouteHouseLaw", "about", "(LRouteHouse;I[J)I"⟩
def ww_about : List Jvm.Cond := .codeWith yw_about method_16_code 4 (some .int) [(0, 9, 12, 15)] :: tb_all
set_option maxHeartbeats 4000000 in
set_option maxRecDepth 100000 in
theorem wr_about {l : Launch} (hlt : l.stackTraces = false) (D : va_G) {ad : List Nat} {h : hp_T} {qa qo sz d f0 : Nat} {p0 : Int32} {f : Nat → Int64} {o : ev_O} (hev : ev_m d f0 61 [.ref 0, .int p0] h = some o) (hk0 : hp_k h 0 = some (7, 0)) (hqa : ad[0]? = some qa) (hkd : o.2.1 = h.1) {mc ms : Nat} (hmc : mc + hp_c h = hp_c o.2) (hms : ms + hp_s h = hp_s o.2) {v : Int32} (ho : o.1 = .inl (some (.int v))) : Met l yw_about ww_about (sw_rm 61 mc ms) (sw_P D ad h qo f sz [.ref qa, .int p0, .ref qo]) (sw_Q D ad o.2 qo sz 0 (fun f2 => f2 0 = v.toInt64)) mc ms (sd_fr (qo :: ad) sz) := by
  obtain ⟨r, h2⟩ := o
  cases ho
  have hmc : mc + hp_c h = hp_c h2 := hmc
  have hms : ms + hp_s h = hp_s h2 := hms
  refine va_MetW (cc := method_16_code) (maxL := 4) (ret := some .int) (hh := [(0, 9, 12, 15)]) (by decide +kernel) rfl ?_
  intro p e s m args below meth c s₁ B hml hv
  obtain ⟨rfl, hsz, hw, hc0, hxh, hxa, hg, hn⟩ := hv
  have hx := B.exec
  have hb := B.bytes
  have hr := B.returns
  have hts := atoms_spec (ws := ww_about) B.pre
  have hall : ∀ w ∈ tb_all, w.before _ s = true := fun w h => hts w (List.mem_cons_of_mem _ h)
  have hown : s.vm.findClass "RouteHouseLaw" = some m.cls := findClass_of_methodNamed B.named
  have hlocks := B.notSynchronized
  have htab := sw_tab B (hts _ List.mem_cons_self)
  subst hsz
  have hA : ∀ q, s.heap.size ≤ q → sd_fr (qo :: ad) s.heap.size q := fun q h => Or.inr h
  generalize hAe : sd_fr (qo :: ad) s.heap.size = A at hw hc0 hA
  have hR : sw_R s s.heap := ⟨hxh, hxa, hg, fun _ _ h _ => h⟩
  have hl := lv_entry ([.ref qa, .int p0, .ref qo]) (n := 4) (Nat.le_of_ble_eq_true rfl)
  rw [lg_entry_eq]
  generalize (lg_sl ([.ref qa, .int p0, .ref qo]) ++ List.replicate (4 - (lg_sl ([.ref qa, .int p0, .ref qo])).length) Slot.unset).toArray = ls at hl ⊢
  have hl : lv_has ls 4 [(0, .ref qa), (1, .int p0), (2, .ref qo)] := hl
  refine lv_aload_n hx hb d9_about_0 rfl (lv_at hl 2 rfl) ?_
  refine lv_iconst (v := 0) hx hb d9_about_1 (by decide) ?_
  refine lv_aload_n hx hb d9_about_2 rfl (lv_at hl 0 rfl) ?_
  refine lv_iload_n hx hb d9_about_3 rfl (lv_at hl 1 rfl) ?_
  refine sw_ret hlt (AsC := [.int p0]) (K := [.int 0, .ref qo]) hev rfl hx hb hml hown hts (sw_good mt_61.2.2.1) (hall _ wx_745) mt_61 hall (Nat.le_refl _) (Nat.le_refl _) hw va_S.rf hA hR hk0 hqa ⟨rfl, trivial⟩ rfl hl.1 (Nat.le_of_ble_eq_true rfl) d9_about_4 (by show 0 + _ ≤ mc; omega) (by show 0 + _ ≤ ms; omega) (fun w z H1 locs1 hw1 hS1 hq1 hz1 hk1 hR1 => ?_)
  cases sw_z hw hw1 hkd
  rw [List.append_nil] at hw1 hq1
  have hc1 := sw_ck hc0 hk1
  have ec : 0 + (hp_c h2 - hp_c h) = mc := by omega
  have es : 0 + (hp_s h2 - hp_s h) = ms := by omega
  rw [ec, es]
  cases w with
  | none => exact False.elim hq1
  | some w =>
    have hq2 : w = .int v := hq1.1
    subst hq2
    refine W.eq (g2 := F0 m 7 ls [.int v, .int 0, .ref qo]) rfl ?_
    refine lv_i2l hx hb d9_about_7 rfl ?_
    refine sw_last hx hb hw1 hc1 hS1 d9_about_8 (fun H2 locs2 hw2 hc2 hS2 => ?_)
    refine lv_goto (tgt := 15) hx hb d9_about_9 (by decide) ?_
    refine lv_iconst (v := 0) hx hb d9_about_15 (by decide) ?_
    subst hAe
    exact W.iret hx hb hr (fun t ht hW => ⟨_, pk_uLs, rfl, by rw [ht]; exact sd_w_moved hW.alike hw2, by rw [ht]; exact sw_cmoved hW.alike hc2, hS2.F ht⟩) hS2.2.2 d9_about_16
set_option maxHeartbeats 4000000 in
set_option maxRecDepth 100000 in
theorem wt_about_1 {l : Launch} (hlt : l.stackTraces = false) (D : va_G) {ad : List Nat} {h : hp_T} {qa qo sz d f0 : Nat} {p0 : Int32} {f : Nat → Int64} {o : ev_O} (hev : ev_m d f0 61 [.ref 0, .int p0] h = some o) (hk0 : hp_k h 0 = some (7, 0)) (hqa : ad[0]? = some qa) (hkd : o.2.1 = h.1) {mc ms : Nat} (hmc : mc + hp_c h = hp_c o.2) (hms : ms + hp_s h = hp_s o.2) (ho : o.1 = .inr 1) : Met l yw_about ww_about (sw_rm 61 mc ms) (sw_P D ad h qo f sz [.ref qa, .int p0, .ref qo]) (sw_Q D ad o.2 qo sz 1 (fun _ => True)) mc ms (sd_fr (qo :: ad) sz) := by
  obtain ⟨r, h2⟩ := o
  cases ho
  have hmc : mc + hp_c h = hp_c h2 := hmc
  have hms : ms + hp_s h = hp_s h2 := hms
  refine va_MetW (cc := method_16_code) (maxL := 4) (ret := some .int) (hh := [(0, 9, 12, 15)]) (by decide +kernel) rfl ?_
  intro p e s m args below meth c s₁ B hml hv
  obtain ⟨rfl, hsz, hw, hc0, hxh, hxa, hg, hn⟩ := hv
  have hx := B.exec
  have hb := B.bytes
  have hr := B.returns
  have hts := atoms_spec (ws := ww_about) B.pre
  have hall : ∀ w ∈ tb_all, w.before _ s = true := fun w h => hts w (List.mem_cons_of_mem _ h)
  have hown : s.vm.findClass "RouteHouseLaw" = some m.cls := findClass_of_methodNamed B.named
  have hlocks := B.notSynchronized
  have htab := sw_tab B (hts _ List.mem_cons_self)
  subst hsz
  have hA : ∀ q, s.heap.size ≤ q → sd_fr (qo :: ad) s.heap.size q := fun q h => Or.inr h
  generalize hAe : sd_fr (qo :: ad) s.heap.size = A at hw hc0 hA
  have hR : sw_R s s.heap := ⟨hxh, hxa, hg, fun _ _ h _ => h⟩
  have hl := lv_entry ([.ref qa, .int p0, .ref qo]) (n := 4) (Nat.le_of_ble_eq_true rfl)
  rw [lg_entry_eq]
  generalize (lg_sl ([.ref qa, .int p0, .ref qo]) ++ List.replicate (4 - (lg_sl ([.ref qa, .int p0, .ref qo])).length) Slot.unset).toArray = ls at hl ⊢
  have hl : lv_has ls 4 [(0, .ref qa), (1, .int p0), (2, .ref qo)] := hl
  refine lv_aload_n hx hb d9_about_0 rfl (lv_at hl 2 rfl) ?_
  refine lv_iconst (v := 0) hx hb d9_about_1 (by decide) ?_
  refine lv_aload_n hx hb d9_about_2 rfl (lv_at hl 0 rfl) ?_
  refine lv_iload_n hx hb d9_about_3 rfl (lv_at hl 1 rfl) ?_
  refine sw_thr hlt (AsC := [.int p0]) (K := [.int 0, .ref qo]) hev rfl hx hb hml hown hts (sw_good mt_61.2.2.1) (hall _ wx_745) mt_61 hall (Nat.le_refl _) (Nat.le_refl _) hw va_S.rf hA hR hk0 hqa ⟨rfl, trivial⟩ rfl hl.1 (Nat.le_of_ble_eq_true rfl) d9_about_4 (by show 0 + _ ≤ mc; omega) (by show 0 + _ ≤ ms; omega) (fun ce q z H1 locs1 hw1 hS1 hz1 hk1 hR1 hce hcv hcl => ?_)
  cases sw_z hw hw1 hkd
  rw [List.append_nil] at hw1
  have hc1 := sw_ck hc0 hk1
  have ec : 0 + (hp_c h2 - hp_c h) = mc := by omega
  have es : 0 + (hp_s h2 - hp_s h) = ms := by omega
  rw [ec, es]
  refine sc_catch (own := "RouteHouseLaw") (E := "java/lang/IllegalArgumentException") (nm := "java/lang/IllegalArgumentException") hown [] ⟨0, 9, 12, 15⟩ [] htab (fun _ h => absurd h List.not_mem_nil) (by decide) (by decide) (hall _ wx_268) (sx_word (State.WarmedH.refl s) rfl rfl (hxa.1 _ wl_347 rfl rfl)) hce hcv hcl ?_
  refine lv_astore_n hx hb d9_about_12 rfl hl (by decide) rfl (fun ls2 hl2 => ?_)
  refine lv_iconst (v := 1) hx hb d9_about_13 (by decide) ?_
  subst hAe
  exact W.iret hx hb hr (fun t ht hW => ⟨f, trivial, rfl, by rw [ht]; exact sd_w_moved hW.alike hw1, by rw [ht]; exact sw_cmoved hW.alike hc1, hS1.F ht⟩) hS1.2.2 d9_about_14
end
section
section LawRows
variable {p : Program} {l : Launch} {e : Env} {R : Room} {s : State} {m : MethodId} {args : Array Value} {below : List Frame} {meth : Method} {c : Code} {H : Heap} {locs : List Loc} {cells slots : Nat} {Q : State → Prop} {cc : ByteArray} {nL pc : Nat} {ls : Array Slot} {rest : List Value} {D : va_G} {A : Nat → Prop} {ad : List Nat} {h h2 : hp_T} {qo : Nat} {f : Nat → Int64}
-- script[i + k]
theorem lq_arg (hx : p.tables.exec = Jvm.exec) (hb : c.code = cc) {b L i : Nat} {xs : Nat → Int32} (hX : va_X b L xs s s.heap) (hbl : b < s.heap.size) (hbA : ¬ A b) (hSt : va_S A s.heap H locs) (h0 : ls[0]? = some (.val (.ref b))) (h4 : ls[4]? = some (.val (.int (nI i)))) (hL : L < 100000) (k : Nat) (hk : i + k < L) {z : Int} (hz : Int32.ofInt z = nI k)
    (d0 : decode cc pc = .ok (.aload_n 0, 1)) (d1 : decode cc (pc + 1) = .ok (.iload 4, 2)) (d3 : decode cc (pc + 3) = .ok (.iconst z, 1)) (d4 : decode cc (pc + 4) = .ok (.iadd, 1)) (d5 : decode cc (pc + 5) = .ok (.iaload, 1))
    (kk : W p l e R s m args below meth c H locs cells slots Q (F0 m (pc + 6) ls (.int (xs (i + k)) :: rest))) : W p l e R s m args below meth c H locs cells slots Q (F0 m pc ls rest) := by
  refine lv_aload_n hx hb d0 rfl h0 ?_
  refine lv_iload hx hb d1 h4 ?_
  refine lv_iconst hx hb d3 hz ?_
  refine lv_iadd hx hb d4 ?_
  rw [nI_add]
  refine va_sld hx hb hX hbl hbA hSt (vp_in_nI hk (by omega)) d5 ?_
  rw [nI_clamp (by omega)]
  exact kk
-- x != 0 as a value
theorem lq_bool (hx : p.tables.exec = Jvm.exec) (hb : c.code = cc) {x : Int32} (d0 : decode cc pc = .ok (.ifCond .eq 7, 3)) (d3 : decode cc (pc + 3) = .ok (.iconst 1, 1)) (d4 : decode cc (pc + 4) = .ok (.goto 4, 3)) (d7 : decode cc (pc + 7) = .ok (.iconst 0, 1))
    (kk : W p l e R s m args below meth c H locs cells slots Q (F0 m (pc + 8) ls (.int (if x = 0 then 0 else 1) :: rest))) : W p l e R s m args below meth c H locs cells slots Q (F0 m pc ls (.int x :: rest)) := by
  refine lv_if_eq (tgt := pc + 7) hx hb d0 (by omega) (fun h9 => ?_) (fun h9 => ?_)
  · rw [if_pos h9] at kk
    exact lv_iconst (v := 0) hx hb d7 (by decide) kk
  · rw [if_neg h9] at kk
    refine lv_iconst (v := 1) hx hb d3 (by decide) ?_
    exact lv_goto (tgt := pc + 8) hx hb d4 (by omega) kk
-- a wrapper, called by invokestatic
theorem sw_stat {k x mc ms maxL : Nat} {y : MethodName} {bytes : ByteArray} {hh : List (Nat × Nat × Nat × Nat)} {as : List Value} {r : Int32} {g : (Nat → Int64) → Prop} {own : String} (hx : p.tables.exec = Jvm.exec) (hb : c.code = cc) (hml : c.maxLocals = nL) (hown : s.vm.findClass own = some m.cls)
    (hM : Met l y (.codeWith y bytes maxL (some .int) hh :: tb_all) (sw_rm k mc ms) (sw_P D ad h qo f H.size as) (sw_Q D ad h2 qo H.size r g) mc ms (sd_fr (qo :: ad) H.size))
    (hall : ∀ w ∈ tb_all, w.before args s = true) (hcw : Jvm.Cond.codeWith y bytes maxL (some .int) hh ∈ tb_all) (hl : Jvm.Cond.methodLink own x y ∈ tb_all) (hst : Jvm.Cond.static y ∈ tb_all) (hini : Jvm.Cond.initialized y.cls ∈ tb_all) (hd : y.cls ≠ "java/lang/invoke/MethodHandle" ∧ y.cls ≠ "java/lang/invoke/VarHandle" ∧ (parseMethodDescriptor y.desc).map (fun d => d.parameters.length) = some as.length)
    (hrf : tb_rf k + 1 + 1 ≤ R.frames) (hrl : 8 + (maxL + 11) + (8 + (tb_ml k + 11) + tb_rl k) ≤ R.locals)
    (hw : sd_w D A ad h s H) (hc : sw_c D A ad qo f s H) (hSt : va_S A s.heap H locs) (hA : ∀ q, s.heap.size ≤ q → A q) (hR : sw_R s H) (hn : sw_n s) (hsz : ls.size = nL) (hK : (rest.map fun v => v.category).sum ≤ 8) (hdg : decode cc pc = .ok (.invokestatic x, 3)) (hRc : cells + mc ≤ R.cells) (hRs : slots + ms ≤ R.slots)
    (kk : ∀ (f2 : Nat → Int64) (H1 : Heap) (locs1 : List Loc), g f2 → sd_w D A ad h2 s H1 → sw_c D A ad qo f2 s H1 → va_S A s.heap H1 locs1 → sw_R s H1 → W p l e R s m args below meth c H1 locs1 (cells + mc) (slots + ms) Q (F0 m (pc + 3) ls (.int r :: rest))) :
    W p l e R s m args below meth c H locs cells slots Q (F0 m pc ls (as.reverse ++ rest)) := by
  have hgw : ∀ w ∈ (Jvm.Cond.codeWith y bytes maxL (some .int) hh :: tb_all), w ∈ tb_all := fun w h => (List.mem_cons.mp h).elim (fun e => by rw [e]; exact hcw) id
  have hws : ∀ w ∈ (Jvm.Cond.codeWith y bytes maxL (some .int) hh :: tb_all), ∀ (a' : Array Value) (U : State), s.WarmedH U.vm → w.before a' U = true := fun w h a' U hW => word_at hW (good_of_word (List.mem_filter.mp (hgw w h)).2) (hall w (hgw w h))
  have hini9 := hall _ hini
  have hK9 : Back l R p e below s args y 3 8 (PreOf R mc ms (sw_P D ad h qo f H.size as)) (PostOf (sw_Q D ad h2 qo H.size r g) mc ms (sd_fr (qo :: ad) H.size)) := va_backW (hh := hh) (bytes := bytes) (maxL := maxL) (ret := some .int) hM sw_Pblind rfl rfl hrf hrl hws List.mem_cons_self (fun a' U hW => word_at hW (good_of_word (List.mem_filter.mp hini).2) hini9)
  have hcode := hall _ hcw
  obtain ⟨mk, methM, cM, hnamed, hmethM, -, -, -, -, -, -, hsigM⟩ := Cond.codeWith_spec hcode
  have hstatic : methM.isStatic = true := Cond.static_spec hnamed hmethM (hall _ hst)
  obtain ⟨kP, hkP, -⟩ := className_of_methodNamed hnamed
  have hinitP : kP.init = .initialized := Cond.initialized_spec (findClass_of_methodNamed hnamed) hkP hini9
  have hlen : as.length = methM.sig.parameters.length := by
    have h9 := hd.2.2
    rw [hsigM] at h9
    exact (Option.some.inj h9).symm
  intro T hT X
  obtain ⟨vm₁, X₁, hstep₁⟩ := X.invokestatic hx hown (hall _ hl) hnamed hmethM hstatic hkP hinitP ⟨hd.1, hd.2.1⟩ (g := F0 m pc ls (as.reverse ++ rest)) rfl (argsL := as) (rest := rest) hlen rfl (by rw [hb]; exact hdg)
  have hsub : ∀ q, sd_fr (qo :: ad) H.size q → A q := by
    intro q h9
    rcases h9 with h9 | h9
    · rcases List.mem_cons.mp h9 with rfl | h9
      · obtain ⟨cL, -, -, h3, -⟩ := hc; exact h3
      · exact (sd_w_at hw q h9).1
    · exact hA q (Nat.le_trans hSt.1 h9)
  have hpre : sw_P D ad h qo f H.size as as.toArray (T.setVm vm₁) := by
    obtain ⟨hxh, hxa, hg, hk9⟩ := hR
    have hW := X₁.warmed
    have hT2 : (T.setVm vm₁).heap = H := hT
    refine ⟨rfl, by rw [hT2], ?_, ?_, sx_hmoved hxh hW.alike (fun a cell h1 h2 => by rw [hT2]; exact hk9 a cell h1 h2), ⟨fun w hw ho hk9 => sx_word hW ho hk9 (hxa.1 w hw ho hk9), fun C hC => va_AO.moved hW.alike (hxa.2 C hC)⟩, fun q hq => ?_, sw_nmoved hW.alike hn⟩
    · rw [hT2]; exact sd_w_moved hW.alike (sd_w_own hw (fun q h9 => Or.inl (List.mem_cons_of_mem _ h9)))
    · rw [hT2]; exact sw_cmoved hW.alike (sw_cown hc (Or.inl List.mem_cons_self))
    · obtain ⟨sa, h6⟩ := hg q hq
      exact ⟨sa, vk_R.warm hW h6⟩
  obtain ⟨v, ⟨U', l2, c2, s2⟩, X', ⟨g', mk2, t, Lc, e1, e2, hq, h1, hL, h2, h3⟩, st⟩ := hK9 m meth c ⟨T.setVm vm₁, locs, cells, slots⟩ (F0 m pc ls rest) (.invokestatic x) mk as.toArray X₁ rfl (by rw [hml]; exact hsz) (by rw [hb]; exact hdg) (lv_room hK) (X₁.named hnamed) ⟨hRc, hRs, hpre⟩
  dsimp only [Pt.U, Pt.locs, Pt.cells, Pt.slots] at X' e1 e2 h1 h2 h3 st
  subst h1; subst h2; subst h3
  obtain ⟨f2, g1, g2, g3, g4, g5⟩ := hq
  cases g2
  have hvm : s.vm.Alike t.vm := by rw [← e2]; exact X'.warmed.alike
  have hkS := sd_keepS (H := H) (H1 := t.heap) (by show T.heap = H; exact hT) rfl hSt hsub hL g5
  have hR1 : sw_R s t.heap := by
    obtain ⟨z1, z2, z3, z4⟩ := hR
    refine ⟨z1, z2, z3, fun a cell y1 y2 => ?_⟩
    have y3 := z4 a cell y1 y2
    have y4 : ¬ sd_fr (qo :: ad) H.size a := by
      intro y5
      rcases y5 with y5 | y5
      · rcases List.mem_cons.mp y5 with rfl | y5
        · obtain ⟨cL, -, y6, -⟩ := hc
          have y7 : H[a]? = some (vp_cell cL (1, .inr (.inl f))) := y6 0 _ rfl
          rw [y7] at y3; cases y3; cases y2
        · rw [sd_w_ns hw a y5 cell y3] at y2; cases y2
      · have y8 : a < H.size := (Array.getElem?_eq_some_iff.mp y3).1
        omega
    have y9 := g5.2 a (by show a < T.heap.size; rw [hT]; exact (Array.getElem?_eq_some_iff.mp y3).1) y4
    rw [y9]
    show T.heap[a]? = some cell
    rw [hT]; exact y3
  have hB : ∀ q, q ∈ ad → A q := fun q h9 => (sd_w_at hw q h9).1
  obtain ⟨t2, a1, b1⟩ := kk f2 t.heap (locs ++ Lc) g1 (sd_w_moved hvm.symm (sd_w_own g3 hB)) (sw_cmoved hvm.symm (sw_cown g4 (by obtain ⟨cL, -, -, h3, -⟩ := hc; exact h3))) hkS hR1 U' e1 X'
  refine ⟨t2, ?_, b1⟩
  exact hstep₁ _ fun acts => by rw [doInvoke_state]; exact st.trans a1
end LawRows
end
section
-- a run of the evaluator, at some depth with some fuel
def pr_ (k : Nat) (as : List Value) (h : hp_T) (o : ev_O) : Prop := ∃ d f : Nat, ev_m d f k as h = some o
-- a call on the class and the same call on the reference: void, int (or boolean)
def pu_v (kC kM : Nat) (cd : Nat → Option Int32) (as : List Value) (h : hp_T) (J : hp_T → Prop) : Prop := ∃ (o : ev_O) (h2 : hp_T) (r : Int32), pr_ kC (.ref 0 :: as) h o ∧ o.2.1 = h.1 ∧ ((o.1 = .inl none ∧ r = 0) ∨ ∃ q, o.1 = .inr q ∧ cd q = some r) ∧ pr_ kM (.ref 52 :: as) o.2 (.inl none, h2) ∧ h2.1 = h.1 ∧ pr_ 74 [.ref 52] h2 (.inl (some (.int r)), h2) ∧ J h2
def pu_i (bo : Bool) (kC kM : Nat) (cd : Nat → Option Int32) (as : List Value) (h : hp_T) (J : hp_T → Prop) : Prop := ∃ (o : ev_O) (h2 : hp_T) (r b : Int32), pr_ kC (.ref 0 :: as) h o ∧ o.2.1 = h.1 ∧ ((o.1 = .inl (some (.int b)) ∧ r = 0 ∧ (bo = true → b = 0 ∨ b = 1)) ∨ ∃ q, o.1 = .inr q ∧ cd q = some r) ∧ pr_ kM (.ref 52 :: as) o.2 (.inl (some (.int b)), h2) ∧ h2.1 = h.1 ∧ pr_ 74 [.ref 52] h2 (.inl (some (.int r)), h2) ∧ J h2
def pu_d (kC kM : Nat) (as : List Value) (h : hp_T) (J : hp_T → Prop) : Prop := ∃ (h1 h2 : hp_T) (v : Int32), pr_ kC (.ref 0 :: as) h (.inl (some (.int v)), h1) ∧ h1.1 = h.1 ∧ pr_ kM (.ref 52 :: as) h1 (.inl (some (.int v)), h2) ∧ h2.1 = h.1 ∧ J h2
theorem sw_Qm {l : Launch} {y : MethodName} {ws : List Jvm.Cond} {rm : Room} {Pc : Array Value → State → Prop} {D : va_G} {ad : List Nat} {h : hp_T} {qo sz mc ms : Nat} {r : Int32} {g g2 : (Nat → Int64) → Prop} {free : Addr → Prop} (hM : Met l y ws rm Pc (sw_Q D ad h qo sz r g) mc ms free) (hg : ∀ f, g f → g2 f) : Met l y ws rm Pc (sw_Q D ad h qo sz r g2) mc ms free := by
  refine MetFree.mono hM (fun _ _ h => h) (fun _ _ _ _ _ h => h) (fun a st o t _ hq => ?_)
  obtain ⟨⟨f, h1, h2⟩, h3⟩ := hq
  exact ⟨⟨f, hg f h1, h2⟩, h3⟩
theorem sw_good2 {k : Nat} (hc : Jvm.Cond.code (tb_y k) (tb_b k) (tb_ml k) (tb_rt k) ∈ tb_all) : GoodIn tb_all (sd_ws k) := by
  intro w hw
  have h8 : w ∈ tb_all := by
    rcases List.mem_cons.mp hw with rfl | h
    · exact hc
    · exact h
  exact ⟨h8, good_of_word (List.mem_filter.mp h8).2⟩
def cd_port : Nat → Option Int32 := fun q => if q = 0 then some 1 else if q = 1 then some 2 else none
theorem wo_port {l : Launch} (hlt : l.stackTraces = false) (D : va_G) {ad : List Nat} {h : hp_T} {qa qo sz : Nat} {p0 p1 p2 r : Int32} {f : Nat → Int64} {o : ev_O} (hev : pr_ 47 [.ref 0, .int p0, .int p1, .int p2] h o) (hk0 : hp_k h 0 = some (7, 0)) (hqa : ad[0]? = some qa) (hkd : o.2.1 = h.1) {mc ms : Nat} (hmc : mc + hp_c h = hp_c o.2) (hms : ms + hp_s h = hp_s o.2) (ho : (o.1 = .inl none ∧ r = 0) ∨ ∃ q, o.1 = .inr q ∧ cd_port q = some r) : Met l yw_port ww_port (sw_rm 47 mc ms) (sw_P D ad h qo f sz [.ref qa, .int p0, .int p1, .int p2]) (sw_Q D ad o.2 qo sz r (fun _ => True)) mc ms (sd_fr (qo :: ad) sz) := by
  obtain ⟨d, f0, hev⟩ := hev
  rcases ho with ⟨h1, rfl⟩ | ⟨q, h1, h2⟩
  · exact sw_Qm (wr_port hlt D hev hk0 hqa hkd hmc hms h1) (fun _ h9 => trivial)
  · unfold cd_port at h2
    split at h2
    · rename_i e9
      subst e9
      cases h2
      exact sw_Qm (wt_port_0 hlt D hev hk0 hqa hkd hmc hms h1) (fun _ _ => trivial)
    · skip
      split at h2
      · rename_i e9
        subst e9
        cases h2
        exact sw_Qm (wt_port_1 hlt D hev hk0 hqa hkd hmc hms h1) (fun _ _ => trivial)
      · cases h2
def cd_up : Nat → Option Int32 := fun q => if q = 0 then some 1 else none
theorem wo_up {l : Launch} (hlt : l.stackTraces = false) (D : va_G) {ad : List Nat} {h : hp_T} {qa qo sz : Nat} {p0 p1 r b : Int32} {f : Nat → Int64} {o : ev_O} (hev : pr_ 48 [.ref 0, .int p0, .int p1] h o) (hk0 : hp_k h 0 = some (7, 0)) (hqa : ad[0]? = some qa) (hkd : o.2.1 = h.1) {mc ms : Nat} (hmc : mc + hp_c h = hp_c o.2) (hms : ms + hp_s h = hp_s o.2) (ho : (o.1 = .inl (some (.int b)) ∧ r = 0 ∧ (b = 0 ∨ b = 1)) ∨ ∃ q, o.1 = .inr q ∧ cd_up q = some r) : Met l yw_up ww_up (sw_rm 48 mc ms) (sw_P D ad h qo f sz [.ref qa, .int p0, .int p1, .ref qo]) (sw_Q D ad o.2 qo sz r (fun f2 => r = 0 → f2 0 = b.toInt64)) mc ms (sd_fr (qo :: ad) sz) := by
  obtain ⟨d, f0, hev⟩ := hev
  rcases ho with ⟨h1, rfl, h3⟩ | ⟨q, h1, h2⟩
  · exact sw_Qm (wr_up hlt D hev hk0 hqa hkd hmc hms h3 h1) (fun _ h9 => fun _ => h9)
  · unfold cd_up at h2
    split at h2
    · rename_i e9
      subst e9
      cases h2
      exact sw_Qm (wt_up_0 hlt D hev hk0 hqa hkd hmc hms h1) (fun _ _ => fun h9 => absurd h9 (by decide))
    · cases h2
def cd_route : Nat → Option Int32 := fun q => if q = 1 then some 1 else if q = 0 then some 2 else if q = 2 then some 3 else none
theorem wo_route {l : Launch} (hlt : l.stackTraces = false) (D : va_G) {ad : List Nat} {h : hp_T} {qa qo sz : Nat} {p0 p1 p2 p3 r b : Int32} {f : Nat → Int64} {o : ev_O} (hev : pr_ 49 [.ref 0, .int p0, .int p1, .int p2, .int p3] h o) (hk0 : hp_k h 0 = some (7, 0)) (hqa : ad[0]? = some qa) (hkd : o.2.1 = h.1) {mc ms : Nat} (hmc : mc + hp_c h = hp_c o.2) (hms : ms + hp_s h = hp_s o.2) (ho : (o.1 = .inl (some (.int b)) ∧ r = 0) ∨ ∃ q, o.1 = .inr q ∧ cd_route q = some r) : Met l yw_route ww_route (sw_rm 49 mc ms) (sw_P D ad h qo f sz [.ref qa, .int p0, .int p1, .int p2, .int p3, .ref qo]) (sw_Q D ad o.2 qo sz r (fun f2 => r = 0 → f2 0 = b.toInt64)) mc ms (sd_fr (qo :: ad) sz) := by
  obtain ⟨d, f0, hev⟩ := hev
  rcases ho with ⟨h1, rfl⟩ | ⟨q, h1, h2⟩
  · exact sw_Qm (wr_route hlt D hev hk0 hqa hkd hmc hms h1) (fun _ h9 => fun _ => h9)
  · unfold cd_route at h2
    split at h2
    · rename_i e9
      subst e9
      cases h2
      exact sw_Qm (wt_route_1 hlt D hev hk0 hqa hkd hmc hms h1) (fun _ _ => fun h9 => absurd h9 (by decide))
    · skip
      split at h2
      · rename_i e9
        subst e9
        cases h2
        exact sw_Qm (wt_route_0 hlt D hev hk0 hqa hkd hmc hms h1) (fun _ _ => fun h9 => absurd h9 (by decide))
      · skip
        split at h2
        · rename_i e9
          subst e9
          cases h2
          exact sw_Qm (wt_route_2 hlt D hev hk0 hqa hkd hmc hms h1) (fun _ _ => fun h9 => absurd h9 (by decide))
        · cases h2
def cd_unroute : Nat → Option Int32 := fun q => if q = 1 then some 1 else none
theorem wo_unroute {l : Launch} (hlt : l.stackTraces = false) (D : va_G) {ad : List Nat} {h : hp_T} {qa qo sz : Nat} {p0 p1 r b : Int32} {f : Nat → Int64} {o : ev_O} (hev : pr_ 50 [.ref 0, .int p0, .int p1] h o) (hk0 : hp_k h 0 = some (7, 0)) (hqa : ad[0]? = some qa) (hkd : o.2.1 = h.1) {mc ms : Nat} (hmc : mc + hp_c h = hp_c o.2) (hms : ms + hp_s h = hp_s o.2) (ho : (o.1 = .inl (some (.int b)) ∧ r = 0 ∧ (b = 0 ∨ b = 1)) ∨ ∃ q, o.1 = .inr q ∧ cd_unroute q = some r) : Met l yw_unroute ww_unroute (sw_rm 50 mc ms) (sw_P D ad h qo f sz [.ref qa, .int p0, .int p1, .ref qo]) (sw_Q D ad o.2 qo sz r (fun f2 => r = 0 → f2 0 = b.toInt64)) mc ms (sd_fr (qo :: ad) sz) := by
  obtain ⟨d, f0, hev⟩ := hev
  rcases ho with ⟨h1, rfl, h3⟩ | ⟨q, h1, h2⟩
  · exact sw_Qm (wr_unroute hlt D hev hk0 hqa hkd hmc hms h3 h1) (fun _ h9 => fun _ => h9)
  · unfold cd_unroute at h2
    split at h2
    · rename_i e9
      subst e9
      cases h2
      exact sw_Qm (wt_unroute_1 hlt D hev hk0 hqa hkd hmc hms h1) (fun _ _ => fun h9 => absurd h9 (by decide))
    · cases h2
def cd_lookup : Nat → Option Int32 := fun q => if q = 1 then some 1 else none
theorem wo_lookup {l : Launch} (hlt : l.stackTraces = false) (D : va_G) {ad : List Nat} {h : hp_T} {qa qo sz : Nat} {p0 p1 r b : Int32} {f : Nat → Int64} {o : ev_O} (hev : pr_ 51 [.ref 0, .int p0, .int p1] h o) (hk0 : hp_k h 0 = some (7, 0)) (hqa : ad[0]? = some qa) (hkd : o.2.1 = h.1) {mc ms : Nat} (hmc : mc + hp_c h = hp_c o.2) (hms : ms + hp_s h = hp_s o.2) (ho : (o.1 = .inl (some (.int b)) ∧ r = 0) ∨ ∃ q, o.1 = .inr q ∧ cd_lookup q = some r) : Met l yw_lookup ww_lookup (sw_rm 51 mc ms) (sw_P D ad h qo f sz [.ref qa, .int p0, .int p1, .ref qo]) (sw_Q D ad o.2 qo sz r (fun f2 => r = 0 → f2 0 = b.toInt64)) mc ms (sd_fr (qo :: ad) sz) := by
  obtain ⟨d, f0, hev⟩ := hev
  rcases ho with ⟨h1, rfl⟩ | ⟨q, h1, h2⟩
  · exact sw_Qm (wr_lookup hlt D hev hk0 hqa hkd hmc hms h1) (fun _ h9 => fun _ => h9)
  · unfold cd_lookup at h2
    split at h2
    · rename_i e9
      subst e9
      cases h2
      exact sw_Qm (wt_lookup_1 hlt D hev hk0 hqa hkd hmc hms h1) (fun _ _ => fun h9 => absurd h9 (by decide))
    · cases h2
def cd_feed : Nat → Option Int32 := fun q => if q = 3 then some 1 else none
theorem wo_feed {l : Launch} (hlt : l.stackTraces = false) (D : va_G) {ad : List Nat} {h : hp_T} {qa qo sz : Nat} {p0 p1 p2 p3 p4 r b : Int32} {f : Nat → Int64} {o : ev_O} (hev : pr_ 52 [.ref 0, .int p0, .int p1, .int p2, .int p3, .int p4] h o) (hk0 : hp_k h 0 = some (7, 0)) (hqa : ad[0]? = some qa) (hkd : o.2.1 = h.1) {mc ms : Nat} (hmc : mc + hp_c h = hp_c o.2) (hms : ms + hp_s h = hp_s o.2) (ho : (o.1 = .inl (some (.int b)) ∧ r = 0) ∨ ∃ q, o.1 = .inr q ∧ cd_feed q = some r) : Met l yw_feed ww_feed (sw_rm 52 mc ms) (sw_P D ad h qo f sz [.ref qa, .int p0, .int p1, .int p2, .int p3, .int p4, .ref qo]) (sw_Q D ad o.2 qo sz r (fun f2 => r = 0 → f2 0 = b.toInt64)) mc ms (sd_fr (qo :: ad) sz) := by
  obtain ⟨d, f0, hev⟩ := hev
  rcases ho with ⟨h1, rfl⟩ | ⟨q, h1, h2⟩
  · exact sw_Qm (wr_feed hlt D hev hk0 hqa hkd hmc hms h1) (fun _ h9 => fun _ => h9)
  · unfold cd_feed at h2
    split at h2
    · rename_i e9
      subst e9
      cases h2
      exact sw_Qm (wt_feed_3 hlt D hev hk0 hqa hkd hmc hms h1) (fun _ _ => fun h9 => absurd h9 (by decide))
    · cases h2
def cd_end : Nat → Option Int32 := fun q => if q = 1 then some 1 else none
theorem wo_end {l : Launch} (hlt : l.stackTraces = false) (D : va_G) {ad : List Nat} {h : hp_T} {qa qo sz : Nat} {p0 r : Int32} {f : Nat → Int64} {o : ev_O} (hev : pr_ 53 [.ref 0, .int p0] h o) (hk0 : hp_k h 0 = some (7, 0)) (hqa : ad[0]? = some qa) (hkd : o.2.1 = h.1) {mc ms : Nat} (hmc : mc + hp_c h = hp_c o.2) (hms : ms + hp_s h = hp_s o.2) (ho : (o.1 = .inl none ∧ r = 0) ∨ ∃ q, o.1 = .inr q ∧ cd_end q = some r) : Met l yw_end ww_end (sw_rm 53 mc ms) (sw_P D ad h qo f sz [.ref qa, .int p0]) (sw_Q D ad o.2 qo sz r (fun _ => True)) mc ms (sd_fr (qo :: ad) sz) := by
  obtain ⟨d, f0, hev⟩ := hev
  rcases ho with ⟨h1, rfl⟩ | ⟨q, h1, h2⟩
  · exact sw_Qm (wr_end hlt D hev hk0 hqa hkd hmc hms h1) (fun _ h9 => trivial)
  · unfold cd_end at h2
    split at h2
    · rename_i e9
      subst e9
      cases h2
      exact sw_Qm (wt_end_1 hlt D hev hk0 hqa hkd hmc hms h1) (fun _ _ => trivial)
    · cases h2
def cd_sum : Nat → Option Int32 := fun q => if q = 1 then some 1 else none
theorem wo_sum {l : Launch} (hlt : l.stackTraces = false) (D : va_G) {ad : List Nat} {h : hp_T} {qa qo sz : Nat} {p0 r : Int32} {f : Nat → Int64} {o : ev_O} (hev : pr_ 54 [.ref 0, .int p0] h o) (hk0 : hp_k h 0 = some (7, 0)) (hqa : ad[0]? = some qa) (hkd : o.2.1 = h.1) {mc ms : Nat} (hmc : mc + hp_c h = hp_c o.2) (hms : ms + hp_s h = hp_s o.2) (ho : (o.1 = .inl none ∧ r = 0) ∨ ∃ q, o.1 = .inr q ∧ cd_sum q = some r) : Met l yw_sum ww_sum (sw_rm 54 mc ms) (sw_P D ad h qo f sz [.ref qa, .int p0]) (sw_Q D ad o.2 qo sz r (fun _ => True)) mc ms (sd_fr (qo :: ad) sz) := by
  obtain ⟨d, f0, hev⟩ := hev
  rcases ho with ⟨h1, rfl⟩ | ⟨q, h1, h2⟩
  · exact sw_Qm (wr_sum hlt D hev hk0 hqa hkd hmc hms h1) (fun _ h9 => trivial)
  · unfold cd_sum at h2
    split at h2
    · rename_i e9
      subst e9
      cases h2
      exact sw_Qm (wt_sum_1 hlt D hev hk0 hqa hkd hmc hms h1) (fun _ _ => trivial)
    · cases h2
def cd_copy : Nat → Option Int32 := fun q => if q = 0 then some 1 else none
theorem wo_copy {l : Launch} (hlt : l.stackTraces = false) (D : va_G) {ad : List Nat} {h : hp_T} {qa qo sz : Nat} {p0 r b : Int32} {f : Nat → Int64} {o : ev_O} (hev : pr_ 55 [.ref 0, .int p0] h o) (hk0 : hp_k h 0 = some (7, 0)) (hqa : ad[0]? = some qa) (hkd : o.2.1 = h.1) {mc ms : Nat} (hmc : mc + hp_c h = hp_c o.2) (hms : ms + hp_s h = hp_s o.2) (ho : (o.1 = .inl (some (.int b)) ∧ r = 0) ∨ ∃ q, o.1 = .inr q ∧ cd_copy q = some r) : Met l yw_copy ww_copy (sw_rm 55 mc ms) (sw_P D ad h qo f sz [.ref qa, .int p0, .ref qo]) (sw_Q D ad o.2 qo sz r (fun f2 => r = 0 → f2 0 = b.toInt64)) mc ms (sd_fr (qo :: ad) sz) := by
  obtain ⟨d, f0, hev⟩ := hev
  rcases ho with ⟨h1, rfl⟩ | ⟨q, h1, h2⟩
  · exact sw_Qm (wr_copy hlt D hev hk0 hqa hkd hmc hms h1) (fun _ h9 => fun _ => h9)
  · unfold cd_copy at h2
    split at h2
    · rename_i e9
      subst e9
      cases h2
      exact sw_Qm (wt_copy_0 hlt D hev hk0 hqa hkd hmc hms h1) (fun _ _ => fun h9 => absurd h9 (by decide))
    · cases h2
def cd_receive : Nat → Option Int32 := fun q => if q = 0 then some 1 else none
theorem wo_receive {l : Launch} (hlt : l.stackTraces = false) (D : va_G) {ad : List Nat} {h : hp_T} {qa qo sz : Nat} {p0 r b : Int32} {f : Nat → Int64} {o : ev_O} (hev : pr_ 56 [.ref 0, .int p0] h o) (hk0 : hp_k h 0 = some (7, 0)) (hqa : ad[0]? = some qa) (hkd : o.2.1 = h.1) {mc ms : Nat} (hmc : mc + hp_c h = hp_c o.2) (hms : ms + hp_s h = hp_s o.2) (ho : (o.1 = .inl (some (.int b)) ∧ r = 0) ∨ ∃ q, o.1 = .inr q ∧ cd_receive q = some r) : Met l yw_receive ww_receive (sw_rm 56 mc ms) (sw_P D ad h qo f sz [.ref qa, .int p0, .ref qo]) (sw_Q D ad o.2 qo sz r (fun f2 => r = 0 → f2 0 = b.toInt64)) mc ms (sd_fr (qo :: ad) sz) := by
  obtain ⟨d, f0, hev⟩ := hev
  rcases ho with ⟨h1, rfl⟩ | ⟨q, h1, h2⟩
  · exact sw_Qm (wr_receive hlt D hev hk0 hqa hkd hmc hms h1) (fun _ h9 => fun _ => h9)
  · unfold cd_receive at h2
    split at h2
    · rename_i e9
      subst e9
      cases h2
      exact sw_Qm (wt_receive_0 hlt D hev hk0 hqa hkd hmc hms h1) (fun _ _ => fun h9 => absurd h9 (by decide))
    · cases h2
def cd_pass : Nat → Option Int32 := fun q => if q = 1 then some 1 else none
theorem wo_pass {l : Launch} (hlt : l.stackTraces = false) (D : va_G) {ad : List Nat} {h : hp_T} {qa qo sz : Nat} {p0 r b : Int32} {f : Nat → Int64} {o : ev_O} (hev : pr_ 57 [.ref 0, .int p0] h o) (hk0 : hp_k h 0 = some (7, 0)) (hqa : ad[0]? = some qa) (hkd : o.2.1 = h.1) {mc ms : Nat} (hmc : mc + hp_c h = hp_c o.2) (hms : ms + hp_s h = hp_s o.2) (ho : (o.1 = .inl (some (.int b)) ∧ r = 0) ∨ ∃ q, o.1 = .inr q ∧ cd_pass q = some r) : Met l yw_pass ww_pass (sw_rm 57 mc ms) (sw_P D ad h qo f sz [.ref qa, .int p0, .ref qo]) (sw_Q D ad o.2 qo sz r (fun f2 => r = 0 → f2 0 = b.toInt64)) mc ms (sd_fr (qo :: ad) sz) := by
  obtain ⟨d, f0, hev⟩ := hev
  rcases ho with ⟨h1, rfl⟩ | ⟨q, h1, h2⟩
  · exact sw_Qm (wr_pass hlt D hev hk0 hqa hkd hmc hms h1) (fun _ h9 => fun _ => h9)
  · unfold cd_pass at h2
    split at h2
    · rename_i e9
      subst e9
      cases h2
      exact sw_Qm (wt_pass_1 hlt D hev hk0 hqa hkd hmc hms h1) (fun _ _ => fun h9 => absurd h9 (by decide))
    · cases h2
def cd_sent : Nat → Option Int32 := fun q => if q = 0 then some 1 else if q = 1 then some 2 else none
theorem wo_sent {l : Launch} (hlt : l.stackTraces = false) (D : va_G) {ad : List Nat} {h : hp_T} {qa qo sz : Nat} {p0 p1 r b : Int32} {f : Nat → Int64} {o : ev_O} (hev : pr_ 58 [.ref 0, .int p0, .int p1] h o) (hk0 : hp_k h 0 = some (7, 0)) (hqa : ad[0]? = some qa) (hkd : o.2.1 = h.1) {mc ms : Nat} (hmc : mc + hp_c h = hp_c o.2) (hms : ms + hp_s h = hp_s o.2) (ho : (o.1 = .inl (some (.int b)) ∧ r = 0) ∨ ∃ q, o.1 = .inr q ∧ cd_sent q = some r) : Met l yw_sent ww_sent (sw_rm 58 mc ms) (sw_P D ad h qo f sz [.ref qa, .int p0, .int p1, .ref qo]) (sw_Q D ad o.2 qo sz r (fun f2 => r = 0 → f2 0 = b.toInt64)) mc ms (sd_fr (qo :: ad) sz) := by
  obtain ⟨d, f0, hev⟩ := hev
  rcases ho with ⟨h1, rfl⟩ | ⟨q, h1, h2⟩
  · exact sw_Qm (wr_sent hlt D hev hk0 hqa hkd hmc hms h1) (fun _ h9 => fun _ => h9)
  · unfold cd_sent at h2
    split at h2
    · rename_i e9
      subst e9
      cases h2
      exact sw_Qm (wt_sent_0 hlt D hev hk0 hqa hkd hmc hms h1) (fun _ _ => fun h9 => absurd h9 (by decide))
    · skip
      split at h2
      · rename_i e9
        subst e9
        cases h2
        exact sw_Qm (wt_sent_1 hlt D hev hk0 hqa hkd hmc hms h1) (fun _ _ => fun h9 => absurd h9 (by decide))
      · cases h2
def cd_out : Nat → Option Int32 := fun q => if q = 0 then some 1 else none
theorem wo_out {l : Launch} (hlt : l.stackTraces = false) (D : va_G) {ad : List Nat} {h : hp_T} {qa qo sz : Nat} {p0 p1 r b : Int32} {f : Nat → Int64} {o : ev_O} (hev : pr_ 59 [.ref 0, .int p0, .int p1] h o) (hk0 : hp_k h 0 = some (7, 0)) (hqa : ad[0]? = some qa) (hkd : o.2.1 = h.1) {mc ms : Nat} (hmc : mc + hp_c h = hp_c o.2) (hms : ms + hp_s h = hp_s o.2) (ho : (o.1 = .inl (some (.int b)) ∧ r = 0) ∨ ∃ q, o.1 = .inr q ∧ cd_out q = some r) : Met l yw_out ww_out (sw_rm 59 mc ms) (sw_P D ad h qo f sz [.ref qa, .int p0, .int p1, .ref qo]) (sw_Q D ad o.2 qo sz r (fun f2 => r = 0 → f2 0 = b.toInt64)) mc ms (sd_fr (qo :: ad) sz) := by
  obtain ⟨d, f0, hev⟩ := hev
  rcases ho with ⟨h1, rfl⟩ | ⟨q, h1, h2⟩
  · exact sw_Qm (wr_out hlt D hev hk0 hqa hkd hmc hms h1) (fun _ h9 => fun _ => h9)
  · unfold cd_out at h2
    split at h2
    · rename_i e9
      subst e9
      cases h2
      exact sw_Qm (wt_out_0 hlt D hev hk0 hqa hkd hmc hms h1) (fun _ _ => fun h9 => absurd h9 (by decide))
    · cases h2
def cd_about : Nat → Option Int32 := fun q => if q = 1 then some 1 else none
theorem wo_about {l : Launch} (hlt : l.stackTraces = false) (D : va_G) {ad : List Nat} {h : hp_T} {qa qo sz : Nat} {p0 r b : Int32} {f : Nat → Int64} {o : ev_O} (hev : pr_ 61 [.ref 0, .int p0] h o) (hk0 : hp_k h 0 = some (7, 0)) (hqa : ad[0]? = some qa) (hkd : o.2.1 = h.1) {mc ms : Nat} (hmc : mc + hp_c h = hp_c o.2) (hms : ms + hp_s h = hp_s o.2) (ho : (o.1 = .inl (some (.int b)) ∧ r = 0) ∨ ∃ q, o.1 = .inr q ∧ cd_about q = some r) : Met l yw_about ww_about (sw_rm 61 mc ms) (sw_P D ad h qo f sz [.ref qa, .int p0, .ref qo]) (sw_Q D ad o.2 qo sz r (fun f2 => r = 0 → f2 0 = b.toInt64)) mc ms (sd_fr (qo :: ad) sz) := by
  obtain ⟨d, f0, hev⟩ := hev
  rcases ho with ⟨h1, rfl⟩ | ⟨q, h1, h2⟩
  · exact sw_Qm (wr_about hlt D hev hk0 hqa hkd hmc hms h1) (fun _ h9 => fun _ => h9)
  · unfold cd_about at h2
    split at h2
    · rename_i e9
      subst e9
      cases h2
      exact sw_Qm (wt_about_1 hlt D hev hk0 hqa hkd hmc hms h1) (fun _ _ => fun h9 => absurd h9 (by decide))
    · cases h2
def pu_step (J : hp_T → Prop) (h : hp_T) (w a1 a2 a3 a4 a5 : Int32) : Prop :=
  (w &&& 15 = 0 → pu_v 47 77 cd_port [.int a1, .int a2, .int a3] h J) ∧
  (w &&& 15 = 1 → pu_i true 48 78 cd_up [.int a1, .int (if a2 = 0 then 0 else 1)] h J) ∧
  (w &&& 15 = 2 → pu_i false 49 81 cd_route [.int a1, .int a2, .int a3, .int a4] h J) ∧
  (w &&& 15 = 3 → pu_i true 50 82 cd_unroute [.int a1, .int a2] h J) ∧
  (w &&& 15 = 4 → pu_i false 51 84 cd_lookup [.int a1, .int a2] h J) ∧
  (w &&& 15 = 5 → pu_i false 52 85 cd_feed [.int a1, .int a2, .int a3, .int a4, .int a5] h J) ∧
  (w &&& 15 = 6 → pu_v 53 86 cd_end [.int a1] h J) ∧
  (w &&& 15 = 7 → pu_v 54 92 cd_sum [.int a1] h J) ∧
  (w &&& 15 = 8 → pu_i false 55 93 cd_copy [.int a1] h J) ∧
  (w &&& 15 = 9 → pu_i false 56 112 cd_receive [.int a1] h J) ∧
  (w &&& 15 = 10 → pu_i false 57 114 cd_pass [.int a1] h J) ∧
  (w &&& 15 = 11 → pu_i false 58 115 cd_sent [.int a1, .int a2] h J) ∧
  (w &&& 15 = 12 → pu_i false 59 116 cd_out [.int a1, .int a2] h J) ∧
  (w &&& 15 = 13 → pu_d 60 117 [.int a1] h J) ∧
  (w &&& 15 = 14 → pu_i false 61 118 cd_about [.int a1] h J) ∧
  (w &&& 15 = 15 → J h)
end
section
theorem dl_0 : decode code 0 = .ok (.new 8, 3) := by decide +kernel
theorem dl_3 : decode code 3 = .ok (.dup, 1) := by decide +kernel
theorem dl_4 : decode code 4 = .ok (.invokespecial 67, 3) := by decide +kernel
theorem dl_7 : decode code 7 = .ok (.astore_n 1, 1) := by decide +kernel
theorem dl_8 : decode code 8 = .ok (.new 68, 3) := by decide +kernel
theorem dl_11 : decode code 11 = .ok (.dup, 1) := by decide +kernel
theorem dl_12 : decode code 12 = .ok (.invokespecial 70, 3) := by decide +kernel
theorem dl_15 : decode code 15 = .ok (.astore_n 2, 1) := by decide +kernel
theorem dl_16 : decode code 16 = .ok (.iconst 1, 1) := by decide +kernel
theorem dl_17 : decode code 17 = .ok (.newarray .long, 2) := by decide +kernel
theorem dl_19 : decode code 19 = .ok (.astore_n 3, 1) := by decide +kernel
theorem dl_20 : decode code 20 = .ok (.iconst 0, 1) := by decide +kernel
theorem dl_21 : decode code 21 = .ok (.istore 4, 2) := by decide +kernel
theorem dl_23 : decode code 23 = .ok (.iload 4, 2) := by decide +kernel
theorem dl_25 : decode code 25 = .ok (.aload_n 0, 1) := by decide +kernel
theorem dl_26 : decode code 26 = .ok (.arraylength, 1) := by decide +kernel
theorem dl_27 : decode code 27 = .ok (.bipush 6, 2) := by decide +kernel
theorem dl_29 : decode code 29 = .ok (.isub, 1) := by decide +kernel
theorem dl_30 : decode code 30 = .ok (.if_icmp .gt 1039, 3) := by decide +kernel
theorem dl_33 : decode code 33 = .ok (.aload_n 0, 1) := by decide +kernel
theorem dl_34 : decode code 34 = .ok (.iload 4, 2) := by decide +kernel
theorem dl_36 : decode code 36 = .ok (.iaload, 1) := by decide +kernel
theorem dl_37 : decode code 37 = .ok (.bipush 15, 2) := by decide +kernel
theorem dl_39 : decode code 39 = .ok (.iand, 1) := by decide +kernel
theorem dl_40 : decode code 40 = .ok (.tableswitch 1023 0 14 #[76, 136, 227, 319, 394, 462, 566, 602, 638, 694, 750, 806, 874, 942, 967], 76) := by decide +kernel
theorem dl_116 : decode code 116 = .ok (.aload_n 1, 1) := by decide +kernel
theorem dl_117 : decode code 117 = .ok (.aload_n 0, 1) := by decide +kernel
theorem dl_118 : decode code 118 = .ok (.iload 4, 2) := by decide +kernel
theorem dl_120 : decode code 120 = .ok (.iconst 1, 1) := by decide +kernel
theorem dl_121 : decode code 121 = .ok (.iadd, 1) := by decide +kernel
theorem dl_122 : decode code 122 = .ok (.iaload, 1) := by decide +kernel
theorem dl_123 : decode code 123 = .ok (.aload_n 0, 1) := by decide +kernel
theorem dl_124 : decode code 124 = .ok (.iload 4, 2) := by decide +kernel
theorem dl_126 : decode code 126 = .ok (.iconst 2, 1) := by decide +kernel
theorem dl_127 : decode code 127 = .ok (.iadd, 1) := by decide +kernel
theorem dl_128 : decode code 128 = .ok (.iaload, 1) := by decide +kernel
theorem dl_129 : decode code 129 = .ok (.aload_n 0, 1) := by decide +kernel
theorem dl_130 : decode code 130 = .ok (.iload 4, 2) := by decide +kernel
theorem dl_132 : decode code 132 = .ok (.iconst 3, 1) := by decide +kernel
theorem dl_133 : decode code 133 = .ok (.iadd, 1) := by decide +kernel
theorem dl_134 : decode code 134 = .ok (.iaload, 1) := by decide +kernel
theorem dl_135 : decode code 135 = .ok (.invokestatic 71, 3) := by decide +kernel
theorem dl_138 : decode code 138 = .ok (.istore 5, 2) := by decide +kernel
theorem dl_140 : decode code 140 = .ok (.aload_n 2, 1) := by decide +kernel
theorem dl_141 : decode code 141 = .ok (.aload_n 0, 1) := by decide +kernel
theorem dl_142 : decode code 142 = .ok (.iload 4, 2) := by decide +kernel
theorem dl_144 : decode code 144 = .ok (.iconst 1, 1) := by decide +kernel
theorem dl_145 : decode code 145 = .ok (.iadd, 1) := by decide +kernel
theorem dl_146 : decode code 146 = .ok (.iaload, 1) := by decide +kernel
theorem dl_147 : decode code 147 = .ok (.aload_n 0, 1) := by decide +kernel
theorem dl_148 : decode code 148 = .ok (.iload 4, 2) := by decide +kernel
theorem dl_150 : decode code 150 = .ok (.iconst 2, 1) := by decide +kernel
theorem dl_151 : decode code 151 = .ok (.iadd, 1) := by decide +kernel
theorem dl_152 : decode code 152 = .ok (.iaload, 1) := by decide +kernel
theorem dl_153 : decode code 153 = .ok (.aload_n 0, 1) := by decide +kernel
theorem dl_154 : decode code 154 = .ok (.iload 4, 2) := by decide +kernel
theorem dl_156 : decode code 156 = .ok (.iconst 3, 1) := by decide +kernel
theorem dl_157 : decode code 157 = .ok (.iadd, 1) := by decide +kernel
theorem dl_158 : decode code 158 = .ok (.iaload, 1) := by decide +kernel
theorem dl_159 : decode code 159 = .ok (.invokevirtual 76, 3) := by decide +kernel
theorem dl_162 : decode code 162 = .ok (.aload_n 2, 1) := by decide +kernel
theorem dl_163 : decode code 163 = .ok (.invokevirtual 77, 3) := by decide +kernel
theorem dl_166 : decode code 166 = .ok (.iload 5, 2) := by decide +kernel
theorem dl_168 : decode code 168 = .ok (.if_icmp .eq 5, 3) := by decide +kernel
theorem dl_171 : decode code 171 = .ok (.iconst 0, 1) := by decide +kernel
theorem dl_172 : decode code 172 = .ok (.ireturn, 1) := by decide +kernel
theorem dl_173 : decode code 173 = .ok (.goto 890, 3) := by decide +kernel
theorem dl_176 : decode code 176 = .ok (.aload_n 1, 1) := by decide +kernel
theorem dl_177 : decode code 177 = .ok (.aload_n 0, 1) := by decide +kernel
theorem dl_178 : decode code 178 = .ok (.iload 4, 2) := by decide +kernel
theorem dl_180 : decode code 180 = .ok (.iconst 1, 1) := by decide +kernel
theorem dl_181 : decode code 181 = .ok (.iadd, 1) := by decide +kernel
theorem dl_182 : decode code 182 = .ok (.iaload, 1) := by decide +kernel
theorem dl_183 : decode code 183 = .ok (.aload_n 0, 1) := by decide +kernel
theorem dl_184 : decode code 184 = .ok (.iload 4, 2) := by decide +kernel
theorem dl_186 : decode code 186 = .ok (.iconst 2, 1) := by decide +kernel
theorem dl_187 : decode code 187 = .ok (.iadd, 1) := by decide +kernel
theorem dl_188 : decode code 188 = .ok (.iaload, 1) := by decide +kernel
theorem dl_189 : decode code 189 = .ok (.ifCond .eq 7, 3) := by decide +kernel
theorem dl_192 : decode code 192 = .ok (.iconst 1, 1) := by decide +kernel
theorem dl_193 : decode code 193 = .ok (.goto 4, 3) := by decide +kernel
theorem dl_196 : decode code 196 = .ok (.iconst 0, 1) := by decide +kernel
theorem dl_197 : decode code 197 = .ok (.aload_n 3, 1) := by decide +kernel
theorem dl_198 : decode code 198 = .ok (.invokestatic 81, 3) := by decide +kernel
theorem dl_201 : decode code 201 = .ok (.istore 5, 2) := by decide +kernel
theorem dl_203 : decode code 203 = .ok (.aload_n 2, 1) := by decide +kernel
theorem dl_204 : decode code 204 = .ok (.aload_n 0, 1) := by decide +kernel
theorem dl_205 : decode code 205 = .ok (.iload 4, 2) := by decide +kernel
theorem dl_207 : decode code 207 = .ok (.iconst 1, 1) := by decide +kernel
theorem dl_208 : decode code 208 = .ok (.iadd, 1) := by decide +kernel
theorem dl_209 : decode code 209 = .ok (.iaload, 1) := by decide +kernel
theorem dl_210 : decode code 210 = .ok (.aload_n 0, 1) := by decide +kernel
theorem dl_211 : decode code 211 = .ok (.iload 4, 2) := by decide +kernel
theorem dl_213 : decode code 213 = .ok (.iconst 2, 1) := by decide +kernel
theorem dl_214 : decode code 214 = .ok (.iadd, 1) := by decide +kernel
theorem dl_215 : decode code 215 = .ok (.iaload, 1) := by decide +kernel
theorem dl_216 : decode code 216 = .ok (.ifCond .eq 7, 3) := by decide +kernel
theorem dl_219 : decode code 219 = .ok (.iconst 1, 1) := by decide +kernel
theorem dl_220 : decode code 220 = .ok (.goto 4, 3) := by decide +kernel
theorem dl_223 : decode code 223 = .ok (.iconst 0, 1) := by decide +kernel
theorem dl_224 : decode code 224 = .ok (.invokevirtual 84, 3) := by decide +kernel
theorem dl_227 : decode code 227 = .ok (.istore 6, 2) := by decide +kernel
theorem dl_229 : decode code 229 = .ok (.aload_n 2, 1) := by decide +kernel
theorem dl_230 : decode code 230 = .ok (.invokevirtual 77, 3) := by decide +kernel
theorem dl_233 : decode code 233 = .ok (.iload 5, 2) := by decide +kernel
theorem dl_235 : decode code 235 = .ok (.if_icmp .eq 5, 3) := by decide +kernel
theorem dl_238 : decode code 238 = .ok (.iconst 0, 1) := by decide +kernel
theorem dl_239 : decode code 239 = .ok (.ireturn, 1) := by decide +kernel
theorem dl_240 : decode code 240 = .ok (.iload 5, 2) := by decide +kernel
theorem dl_242 : decode code 242 = .ok (.ifCond .ne 22, 3) := by decide +kernel
theorem dl_245 : decode code 245 = .ok (.aload_n 3, 1) := by decide +kernel
theorem dl_246 : decode code 246 = .ok (.iconst 0, 1) := by decide +kernel
theorem dl_247 : decode code 247 = .ok (.laload, 1) := by decide +kernel
theorem dl_248 : decode code 248 = .ok (.iload 6, 2) := by decide +kernel
theorem dl_250 : decode code 250 = .ok (.ifCond .eq 7, 3) := by decide +kernel
theorem dl_253 : decode code 253 = .ok (.lconst 1, 1) := by decide +kernel
theorem dl_254 : decode code 254 = .ok (.goto 4, 3) := by decide +kernel
theorem dl_257 : decode code 257 = .ok (.lconst 0, 1) := by decide +kernel
theorem dl_258 : decode code 258 = .ok (.lcmp, 1) := by decide +kernel
theorem dl_259 : decode code 259 = .ok (.ifCond .eq 5, 3) := by decide +kernel
theorem dl_262 : decode code 262 = .ok (.iconst 0, 1) := by decide +kernel
theorem dl_263 : decode code 263 = .ok (.ireturn, 1) := by decide +kernel
theorem dl_264 : decode code 264 = .ok (.goto 799, 3) := by decide +kernel
theorem dl_267 : decode code 267 = .ok (.aload_n 1, 1) := by decide +kernel
theorem dl_268 : decode code 268 = .ok (.aload_n 0, 1) := by decide +kernel
theorem dl_269 : decode code 269 = .ok (.iload 4, 2) := by decide +kernel
theorem dl_271 : decode code 271 = .ok (.iconst 1, 1) := by decide +kernel
theorem dl_272 : decode code 272 = .ok (.iadd, 1) := by decide +kernel
theorem dl_273 : decode code 273 = .ok (.iaload, 1) := by decide +kernel
theorem dl_274 : decode code 274 = .ok (.aload_n 0, 1) := by decide +kernel
theorem dl_275 : decode code 275 = .ok (.iload 4, 2) := by decide +kernel
theorem dl_277 : decode code 277 = .ok (.iconst 2, 1) := by decide +kernel
theorem dl_278 : decode code 278 = .ok (.iadd, 1) := by decide +kernel
theorem dl_279 : decode code 279 = .ok (.iaload, 1) := by decide +kernel
theorem dl_280 : decode code 280 = .ok (.aload_n 0, 1) := by decide +kernel
theorem dl_281 : decode code 281 = .ok (.iload 4, 2) := by decide +kernel
theorem dl_283 : decode code 283 = .ok (.iconst 3, 1) := by decide +kernel
theorem dl_284 : decode code 284 = .ok (.iadd, 1) := by decide +kernel
theorem dl_285 : decode code 285 = .ok (.iaload, 1) := by decide +kernel
theorem dl_286 : decode code 286 = .ok (.aload_n 0, 1) := by decide +kernel
theorem dl_287 : decode code 287 = .ok (.iload 4, 2) := by decide +kernel
theorem dl_289 : decode code 289 = .ok (.iconst 4, 1) := by decide +kernel
theorem dl_290 : decode code 290 = .ok (.iadd, 1) := by decide +kernel
theorem dl_291 : decode code 291 = .ok (.iaload, 1) := by decide +kernel
theorem dl_292 : decode code 292 = .ok (.aload_n 3, 1) := by decide +kernel
theorem dl_293 : decode code 293 = .ok (.invokestatic 85, 3) := by decide +kernel
theorem dl_296 : decode code 296 = .ok (.istore 5, 2) := by decide +kernel
theorem dl_298 : decode code 298 = .ok (.aload_n 2, 1) := by decide +kernel
theorem dl_299 : decode code 299 = .ok (.aload_n 0, 1) := by decide +kernel
theorem dl_300 : decode code 300 = .ok (.iload 4, 2) := by decide +kernel
theorem dl_302 : decode code 302 = .ok (.iconst 1, 1) := by decide +kernel
theorem dl_303 : decode code 303 = .ok (.iadd, 1) := by decide +kernel
theorem dl_304 : decode code 304 = .ok (.iaload, 1) := by decide +kernel
theorem dl_305 : decode code 305 = .ok (.aload_n 0, 1) := by decide +kernel
theorem dl_306 : decode code 306 = .ok (.iload 4, 2) := by decide +kernel
theorem dl_308 : decode code 308 = .ok (.iconst 2, 1) := by decide +kernel
theorem dl_309 : decode code 309 = .ok (.iadd, 1) := by decide +kernel
theorem dl_310 : decode code 310 = .ok (.iaload, 1) := by decide +kernel
theorem dl_311 : decode code 311 = .ok (.aload_n 0, 1) := by decide +kernel
theorem dl_312 : decode code 312 = .ok (.iload 4, 2) := by decide +kernel
theorem dl_314 : decode code 314 = .ok (.iconst 3, 1) := by decide +kernel
theorem dl_315 : decode code 315 = .ok (.iadd, 1) := by decide +kernel
theorem dl_316 : decode code 316 = .ok (.iaload, 1) := by decide +kernel
theorem dl_317 : decode code 317 = .ok (.aload_n 0, 1) := by decide +kernel
theorem dl_318 : decode code 318 = .ok (.iload 4, 2) := by decide +kernel
theorem dl_320 : decode code 320 = .ok (.iconst 4, 1) := by decide +kernel
theorem dl_321 : decode code 321 = .ok (.iadd, 1) := by decide +kernel
theorem dl_322 : decode code 322 = .ok (.iaload, 1) := by decide +kernel
theorem dl_323 : decode code 323 = .ok (.invokevirtual 88, 3) := by decide +kernel
theorem dl_326 : decode code 326 = .ok (.istore 6, 2) := by decide +kernel
theorem dl_328 : decode code 328 = .ok (.aload_n 2, 1) := by decide +kernel
theorem dl_329 : decode code 329 = .ok (.invokevirtual 77, 3) := by decide +kernel
theorem dl_332 : decode code 332 = .ok (.iload 5, 2) := by decide +kernel
theorem dl_334 : decode code 334 = .ok (.if_icmp .eq 5, 3) := by decide +kernel
theorem dl_337 : decode code 337 = .ok (.iconst 0, 1) := by decide +kernel
theorem dl_338 : decode code 338 = .ok (.ireturn, 1) := by decide +kernel
theorem dl_339 : decode code 339 = .ok (.iload 5, 2) := by decide +kernel
theorem dl_341 : decode code 341 = .ok (.ifCond .ne 15, 3) := by decide +kernel
theorem dl_344 : decode code 344 = .ok (.aload_n 3, 1) := by decide +kernel
theorem dl_345 : decode code 345 = .ok (.iconst 0, 1) := by decide +kernel
theorem dl_346 : decode code 346 = .ok (.laload, 1) := by decide +kernel
theorem dl_347 : decode code 347 = .ok (.iload 6, 2) := by decide +kernel
theorem dl_349 : decode code 349 = .ok (.i2l, 1) := by decide +kernel
theorem dl_350 : decode code 350 = .ok (.lcmp, 1) := by decide +kernel
theorem dl_351 : decode code 351 = .ok (.ifCond .eq 5, 3) := by decide +kernel
theorem dl_354 : decode code 354 = .ok (.iconst 0, 1) := by decide +kernel
theorem dl_355 : decode code 355 = .ok (.ireturn, 1) := by decide +kernel
theorem dl_356 : decode code 356 = .ok (.goto 707, 3) := by decide +kernel
theorem dl_359 : decode code 359 = .ok (.aload_n 1, 1) := by decide +kernel
theorem dl_360 : decode code 360 = .ok (.aload_n 0, 1) := by decide +kernel
theorem dl_361 : decode code 361 = .ok (.iload 4, 2) := by decide +kernel
theorem dl_363 : decode code 363 = .ok (.iconst 1, 1) := by decide +kernel
theorem dl_364 : decode code 364 = .ok (.iadd, 1) := by decide +kernel
theorem dl_365 : decode code 365 = .ok (.iaload, 1) := by decide +kernel
theorem dl_366 : decode code 366 = .ok (.aload_n 0, 1) := by decide +kernel
theorem dl_367 : decode code 367 = .ok (.iload 4, 2) := by decide +kernel
theorem dl_369 : decode code 369 = .ok (.iconst 2, 1) := by decide +kernel
theorem dl_370 : decode code 370 = .ok (.iadd, 1) := by decide +kernel
theorem dl_371 : decode code 371 = .ok (.iaload, 1) := by decide +kernel
theorem dl_372 : decode code 372 = .ok (.aload_n 3, 1) := by decide +kernel
theorem dl_373 : decode code 373 = .ok (.invokestatic 89, 3) := by decide +kernel
theorem dl_376 : decode code 376 = .ok (.istore 5, 2) := by decide +kernel
theorem dl_378 : decode code 378 = .ok (.aload_n 2, 1) := by decide +kernel
theorem dl_379 : decode code 379 = .ok (.aload_n 0, 1) := by decide +kernel
theorem dl_380 : decode code 380 = .ok (.iload 4, 2) := by decide +kernel
theorem dl_382 : decode code 382 = .ok (.iconst 1, 1) := by decide +kernel
theorem dl_383 : decode code 383 = .ok (.iadd, 1) := by decide +kernel
theorem dl_384 : decode code 384 = .ok (.iaload, 1) := by decide +kernel
theorem dl_385 : decode code 385 = .ok (.aload_n 0, 1) := by decide +kernel
theorem dl_386 : decode code 386 = .ok (.iload 4, 2) := by decide +kernel
theorem dl_388 : decode code 388 = .ok (.iconst 2, 1) := by decide +kernel
theorem dl_389 : decode code 389 = .ok (.iadd, 1) := by decide +kernel
theorem dl_390 : decode code 390 = .ok (.iaload, 1) := by decide +kernel
theorem dl_391 : decode code 391 = .ok (.invokevirtual 92, 3) := by decide +kernel
theorem dl_394 : decode code 394 = .ok (.istore 6, 2) := by decide +kernel
theorem dl_396 : decode code 396 = .ok (.aload_n 2, 1) := by decide +kernel
theorem dl_397 : decode code 397 = .ok (.invokevirtual 77, 3) := by decide +kernel
theorem dl_400 : decode code 400 = .ok (.iload 5, 2) := by decide +kernel
theorem dl_402 : decode code 402 = .ok (.if_icmp .eq 5, 3) := by decide +kernel
theorem dl_405 : decode code 405 = .ok (.iconst 0, 1) := by decide +kernel
theorem dl_406 : decode code 406 = .ok (.ireturn, 1) := by decide +kernel
theorem dl_407 : decode code 407 = .ok (.iload 5, 2) := by decide +kernel
theorem dl_409 : decode code 409 = .ok (.ifCond .ne 22, 3) := by decide +kernel
theorem dl_412 : decode code 412 = .ok (.aload_n 3, 1) := by decide +kernel
theorem dl_413 : decode code 413 = .ok (.iconst 0, 1) := by decide +kernel
theorem dl_414 : decode code 414 = .ok (.laload, 1) := by decide +kernel
theorem dl_415 : decode code 415 = .ok (.iload 6, 2) := by decide +kernel
theorem dl_417 : decode code 417 = .ok (.ifCond .eq 7, 3) := by decide +kernel
theorem dl_420 : decode code 420 = .ok (.lconst 1, 1) := by decide +kernel
theorem dl_421 : decode code 421 = .ok (.goto 4, 3) := by decide +kernel
theorem dl_424 : decode code 424 = .ok (.lconst 0, 1) := by decide +kernel
theorem dl_425 : decode code 425 = .ok (.lcmp, 1) := by decide +kernel
theorem dl_426 : decode code 426 = .ok (.ifCond .eq 5, 3) := by decide +kernel
theorem dl_429 : decode code 429 = .ok (.iconst 0, 1) := by decide +kernel
theorem dl_430 : decode code 430 = .ok (.ireturn, 1) := by decide +kernel
theorem dl_431 : decode code 431 = .ok (.goto 632, 3) := by decide +kernel
theorem dl_434 : decode code 434 = .ok (.aload_n 1, 1) := by decide +kernel
theorem dl_435 : decode code 435 = .ok (.aload_n 0, 1) := by decide +kernel
theorem dl_436 : decode code 436 = .ok (.iload 4, 2) := by decide +kernel
theorem dl_438 : decode code 438 = .ok (.iconst 1, 1) := by decide +kernel
theorem dl_439 : decode code 439 = .ok (.iadd, 1) := by decide +kernel
theorem dl_440 : decode code 440 = .ok (.iaload, 1) := by decide +kernel
theorem dl_441 : decode code 441 = .ok (.aload_n 0, 1) := by decide +kernel
theorem dl_442 : decode code 442 = .ok (.iload 4, 2) := by decide +kernel
theorem dl_444 : decode code 444 = .ok (.iconst 2, 1) := by decide +kernel
theorem dl_445 : decode code 445 = .ok (.iadd, 1) := by decide +kernel
theorem dl_446 : decode code 446 = .ok (.iaload, 1) := by decide +kernel
theorem dl_447 : decode code 447 = .ok (.aload_n 3, 1) := by decide +kernel
theorem dl_448 : decode code 448 = .ok (.invokestatic 93, 3) := by decide +kernel
theorem dl_451 : decode code 451 = .ok (.istore 5, 2) := by decide +kernel
theorem dl_453 : decode code 453 = .ok (.aload_n 2, 1) := by decide +kernel
theorem dl_454 : decode code 454 = .ok (.aload_n 0, 1) := by decide +kernel
theorem dl_455 : decode code 455 = .ok (.iload 4, 2) := by decide +kernel
theorem dl_457 : decode code 457 = .ok (.iconst 1, 1) := by decide +kernel
theorem dl_458 : decode code 458 = .ok (.iadd, 1) := by decide +kernel
theorem dl_459 : decode code 459 = .ok (.iaload, 1) := by decide +kernel
theorem dl_460 : decode code 460 = .ok (.aload_n 0, 1) := by decide +kernel
theorem dl_461 : decode code 461 = .ok (.iload 4, 2) := by decide +kernel
theorem dl_463 : decode code 463 = .ok (.iconst 2, 1) := by decide +kernel
theorem dl_464 : decode code 464 = .ok (.iadd, 1) := by decide +kernel
theorem dl_465 : decode code 465 = .ok (.iaload, 1) := by decide +kernel
theorem dl_466 : decode code 466 = .ok (.invokevirtual 95, 3) := by decide +kernel
theorem dl_469 : decode code 469 = .ok (.istore 6, 2) := by decide +kernel
theorem dl_471 : decode code 471 = .ok (.aload_n 2, 1) := by decide +kernel
theorem dl_472 : decode code 472 = .ok (.invokevirtual 77, 3) := by decide +kernel
theorem dl_475 : decode code 475 = .ok (.iload 5, 2) := by decide +kernel
theorem dl_477 : decode code 477 = .ok (.if_icmp .eq 5, 3) := by decide +kernel
theorem dl_480 : decode code 480 = .ok (.iconst 0, 1) := by decide +kernel
theorem dl_481 : decode code 481 = .ok (.ireturn, 1) := by decide +kernel
theorem dl_482 : decode code 482 = .ok (.iload 5, 2) := by decide +kernel
theorem dl_484 : decode code 484 = .ok (.ifCond .ne 15, 3) := by decide +kernel
theorem dl_487 : decode code 487 = .ok (.aload_n 3, 1) := by decide +kernel
theorem dl_488 : decode code 488 = .ok (.iconst 0, 1) := by decide +kernel
theorem dl_489 : decode code 489 = .ok (.laload, 1) := by decide +kernel
theorem dl_490 : decode code 490 = .ok (.iload 6, 2) := by decide +kernel
theorem dl_492 : decode code 492 = .ok (.i2l, 1) := by decide +kernel
theorem dl_493 : decode code 493 = .ok (.lcmp, 1) := by decide +kernel
theorem dl_494 : decode code 494 = .ok (.ifCond .eq 5, 3) := by decide +kernel
theorem dl_497 : decode code 497 = .ok (.iconst 0, 1) := by decide +kernel
theorem dl_498 : decode code 498 = .ok (.ireturn, 1) := by decide +kernel
theorem dl_499 : decode code 499 = .ok (.goto 564, 3) := by decide +kernel
theorem dl_502 : decode code 502 = .ok (.aload_n 1, 1) := by decide +kernel
theorem dl_503 : decode code 503 = .ok (.aload_n 0, 1) := by decide +kernel
theorem dl_504 : decode code 504 = .ok (.iload 4, 2) := by decide +kernel
theorem dl_506 : decode code 506 = .ok (.iconst 1, 1) := by decide +kernel
theorem dl_507 : decode code 507 = .ok (.iadd, 1) := by decide +kernel
theorem dl_508 : decode code 508 = .ok (.iaload, 1) := by decide +kernel
theorem dl_509 : decode code 509 = .ok (.aload_n 0, 1) := by decide +kernel
theorem dl_510 : decode code 510 = .ok (.iload 4, 2) := by decide +kernel
theorem dl_512 : decode code 512 = .ok (.iconst 2, 1) := by decide +kernel
theorem dl_513 : decode code 513 = .ok (.iadd, 1) := by decide +kernel
theorem dl_514 : decode code 514 = .ok (.iaload, 1) := by decide +kernel
theorem dl_515 : decode code 515 = .ok (.aload_n 0, 1) := by decide +kernel
theorem dl_516 : decode code 516 = .ok (.iload 4, 2) := by decide +kernel
theorem dl_518 : decode code 518 = .ok (.iconst 3, 1) := by decide +kernel
theorem dl_519 : decode code 519 = .ok (.iadd, 1) := by decide +kernel
theorem dl_520 : decode code 520 = .ok (.iaload, 1) := by decide +kernel
theorem dl_521 : decode code 521 = .ok (.aload_n 0, 1) := by decide +kernel
theorem dl_522 : decode code 522 = .ok (.iload 4, 2) := by decide +kernel
theorem dl_524 : decode code 524 = .ok (.iconst 4, 1) := by decide +kernel
theorem dl_525 : decode code 525 = .ok (.iadd, 1) := by decide +kernel
theorem dl_526 : decode code 526 = .ok (.iaload, 1) := by decide +kernel
theorem dl_527 : decode code 527 = .ok (.aload_n 0, 1) := by decide +kernel
theorem dl_528 : decode code 528 = .ok (.iload 4, 2) := by decide +kernel
theorem dl_530 : decode code 530 = .ok (.iconst 5, 1) := by decide +kernel
theorem dl_531 : decode code 531 = .ok (.iadd, 1) := by decide +kernel
theorem dl_532 : decode code 532 = .ok (.iaload, 1) := by decide +kernel
theorem dl_533 : decode code 533 = .ok (.aload_n 3, 1) := by decide +kernel
theorem dl_534 : decode code 534 = .ok (.invokestatic 96, 3) := by decide +kernel
theorem dl_537 : decode code 537 = .ok (.istore 5, 2) := by decide +kernel
theorem dl_539 : decode code 539 = .ok (.aload_n 2, 1) := by decide +kernel
theorem dl_540 : decode code 540 = .ok (.aload_n 0, 1) := by decide +kernel
theorem dl_541 : decode code 541 = .ok (.iload 4, 2) := by decide +kernel
theorem dl_543 : decode code 543 = .ok (.iconst 1, 1) := by decide +kernel
theorem dl_544 : decode code 544 = .ok (.iadd, 1) := by decide +kernel
theorem dl_545 : decode code 545 = .ok (.iaload, 1) := by decide +kernel
theorem dl_546 : decode code 546 = .ok (.aload_n 0, 1) := by decide +kernel
theorem dl_547 : decode code 547 = .ok (.iload 4, 2) := by decide +kernel
theorem dl_549 : decode code 549 = .ok (.iconst 2, 1) := by decide +kernel
theorem dl_550 : decode code 550 = .ok (.iadd, 1) := by decide +kernel
theorem dl_551 : decode code 551 = .ok (.iaload, 1) := by decide +kernel
theorem dl_552 : decode code 552 = .ok (.aload_n 0, 1) := by decide +kernel
theorem dl_553 : decode code 553 = .ok (.iload 4, 2) := by decide +kernel
theorem dl_555 : decode code 555 = .ok (.iconst 3, 1) := by decide +kernel
theorem dl_556 : decode code 556 = .ok (.iadd, 1) := by decide +kernel
theorem dl_557 : decode code 557 = .ok (.iaload, 1) := by decide +kernel
theorem dl_558 : decode code 558 = .ok (.aload_n 0, 1) := by decide +kernel
theorem dl_559 : decode code 559 = .ok (.iload 4, 2) := by decide +kernel
theorem dl_561 : decode code 561 = .ok (.iconst 4, 1) := by decide +kernel
theorem dl_562 : decode code 562 = .ok (.iadd, 1) := by decide +kernel
theorem dl_563 : decode code 563 = .ok (.iaload, 1) := by decide +kernel
theorem dl_564 : decode code 564 = .ok (.aload_n 0, 1) := by decide +kernel
theorem dl_565 : decode code 565 = .ok (.iload 4, 2) := by decide +kernel
theorem dl_567 : decode code 567 = .ok (.iconst 5, 1) := by decide +kernel
theorem dl_568 : decode code 568 = .ok (.iadd, 1) := by decide +kernel
theorem dl_569 : decode code 569 = .ok (.iaload, 1) := by decide +kernel
theorem dl_570 : decode code 570 = .ok (.invokevirtual 99, 3) := by decide +kernel
theorem dl_573 : decode code 573 = .ok (.istore 6, 2) := by decide +kernel
theorem dl_575 : decode code 575 = .ok (.aload_n 2, 1) := by decide +kernel
theorem dl_576 : decode code 576 = .ok (.invokevirtual 77, 3) := by decide +kernel
theorem dl_579 : decode code 579 = .ok (.iload 5, 2) := by decide +kernel
theorem dl_581 : decode code 581 = .ok (.if_icmp .eq 5, 3) := by decide +kernel
theorem dl_584 : decode code 584 = .ok (.iconst 0, 1) := by decide +kernel
theorem dl_585 : decode code 585 = .ok (.ireturn, 1) := by decide +kernel
theorem dl_586 : decode code 586 = .ok (.iload 5, 2) := by decide +kernel
theorem dl_588 : decode code 588 = .ok (.ifCond .ne 15, 3) := by decide +kernel
theorem dl_591 : decode code 591 = .ok (.aload_n 3, 1) := by decide +kernel
theorem dl_592 : decode code 592 = .ok (.iconst 0, 1) := by decide +kernel
theorem dl_593 : decode code 593 = .ok (.laload, 1) := by decide +kernel
theorem dl_594 : decode code 594 = .ok (.iload 6, 2) := by decide +kernel
theorem dl_596 : decode code 596 = .ok (.i2l, 1) := by decide +kernel
theorem dl_597 : decode code 597 = .ok (.lcmp, 1) := by decide +kernel
theorem dl_598 : decode code 598 = .ok (.ifCond .eq 5, 3) := by decide +kernel
theorem dl_601 : decode code 601 = .ok (.iconst 0, 1) := by decide +kernel
theorem dl_602 : decode code 602 = .ok (.ireturn, 1) := by decide +kernel
theorem dl_603 : decode code 603 = .ok (.goto 460, 3) := by decide +kernel
theorem dl_606 : decode code 606 = .ok (.aload_n 1, 1) := by decide +kernel
theorem dl_607 : decode code 607 = .ok (.aload_n 0, 1) := by decide +kernel
theorem dl_608 : decode code 608 = .ok (.iload 4, 2) := by decide +kernel
theorem dl_610 : decode code 610 = .ok (.iconst 1, 1) := by decide +kernel
theorem dl_611 : decode code 611 = .ok (.iadd, 1) := by decide +kernel
theorem dl_612 : decode code 612 = .ok (.iaload, 1) := by decide +kernel
theorem dl_613 : decode code 613 = .ok (.invokestatic 100, 3) := by decide +kernel
theorem dl_616 : decode code 616 = .ok (.istore 5, 2) := by decide +kernel
theorem dl_618 : decode code 618 = .ok (.aload_n 2, 1) := by decide +kernel
theorem dl_619 : decode code 619 = .ok (.aload_n 0, 1) := by decide +kernel
theorem dl_620 : decode code 620 = .ok (.iload 4, 2) := by decide +kernel
theorem dl_622 : decode code 622 = .ok (.iconst 1, 1) := by decide +kernel
theorem dl_623 : decode code 623 = .ok (.iadd, 1) := by decide +kernel
theorem dl_624 : decode code 624 = .ok (.iaload, 1) := by decide +kernel
theorem dl_625 : decode code 625 = .ok (.invokevirtual 103, 3) := by decide +kernel
theorem dl_628 : decode code 628 = .ok (.aload_n 2, 1) := by decide +kernel
theorem dl_629 : decode code 629 = .ok (.invokevirtual 77, 3) := by decide +kernel
theorem dl_632 : decode code 632 = .ok (.iload 5, 2) := by decide +kernel
theorem dl_634 : decode code 634 = .ok (.if_icmp .eq 5, 3) := by decide +kernel
theorem dl_637 : decode code 637 = .ok (.iconst 0, 1) := by decide +kernel
theorem dl_638 : decode code 638 = .ok (.ireturn, 1) := by decide +kernel
theorem dl_639 : decode code 639 = .ok (.goto 424, 3) := by decide +kernel
theorem dl_642 : decode code 642 = .ok (.aload_n 1, 1) := by decide +kernel
theorem dl_643 : decode code 643 = .ok (.aload_n 0, 1) := by decide +kernel
theorem dl_644 : decode code 644 = .ok (.iload 4, 2) := by decide +kernel
theorem dl_646 : decode code 646 = .ok (.iconst 1, 1) := by decide +kernel
theorem dl_647 : decode code 647 = .ok (.iadd, 1) := by decide +kernel
theorem dl_648 : decode code 648 = .ok (.iaload, 1) := by decide +kernel
theorem dl_649 : decode code 649 = .ok (.invokestatic 104, 3) := by decide +kernel
theorem dl_652 : decode code 652 = .ok (.istore 5, 2) := by decide +kernel
theorem dl_654 : decode code 654 = .ok (.aload_n 2, 1) := by decide +kernel
theorem dl_655 : decode code 655 = .ok (.aload_n 0, 1) := by decide +kernel
theorem dl_656 : decode code 656 = .ok (.iload 4, 2) := by decide +kernel
theorem dl_658 : decode code 658 = .ok (.iconst 1, 1) := by decide +kernel
theorem dl_659 : decode code 659 = .ok (.iadd, 1) := by decide +kernel
theorem dl_660 : decode code 660 = .ok (.iaload, 1) := by decide +kernel
theorem dl_661 : decode code 661 = .ok (.invokevirtual 106, 3) := by decide +kernel
theorem dl_664 : decode code 664 = .ok (.aload_n 2, 1) := by decide +kernel
theorem dl_665 : decode code 665 = .ok (.invokevirtual 77, 3) := by decide +kernel
theorem dl_668 : decode code 668 = .ok (.iload 5, 2) := by decide +kernel
theorem dl_670 : decode code 670 = .ok (.if_icmp .eq 5, 3) := by decide +kernel
theorem dl_673 : decode code 673 = .ok (.iconst 0, 1) := by decide +kernel
theorem dl_674 : decode code 674 = .ok (.ireturn, 1) := by decide +kernel
theorem dl_675 : decode code 675 = .ok (.goto 388, 3) := by decide +kernel
theorem dl_678 : decode code 678 = .ok (.aload_n 1, 1) := by decide +kernel
theorem dl_679 : decode code 679 = .ok (.aload_n 0, 1) := by decide +kernel
theorem dl_680 : decode code 680 = .ok (.iload 4, 2) := by decide +kernel
theorem dl_682 : decode code 682 = .ok (.iconst 1, 1) := by decide +kernel
theorem dl_683 : decode code 683 = .ok (.iadd, 1) := by decide +kernel
theorem dl_684 : decode code 684 = .ok (.iaload, 1) := by decide +kernel
theorem dl_685 : decode code 685 = .ok (.aload_n 3, 1) := by decide +kernel
theorem dl_686 : decode code 686 = .ok (.invokestatic 107, 3) := by decide +kernel
theorem dl_689 : decode code 689 = .ok (.istore 5, 2) := by decide +kernel
theorem dl_691 : decode code 691 = .ok (.aload_n 2, 1) := by decide +kernel
theorem dl_692 : decode code 692 = .ok (.aload_n 0, 1) := by decide +kernel
theorem dl_693 : decode code 693 = .ok (.iload 4, 2) := by decide +kernel
theorem dl_695 : decode code 695 = .ok (.iconst 1, 1) := by decide +kernel
theorem dl_696 : decode code 696 = .ok (.iadd, 1) := by decide +kernel
theorem dl_697 : decode code 697 = .ok (.iaload, 1) := by decide +kernel
theorem dl_698 : decode code 698 = .ok (.invokevirtual 110, 3) := by decide +kernel
theorem dl_701 : decode code 701 = .ok (.istore 6, 2) := by decide +kernel
theorem dl_703 : decode code 703 = .ok (.aload_n 2, 1) := by decide +kernel
theorem dl_704 : decode code 704 = .ok (.invokevirtual 77, 3) := by decide +kernel
theorem dl_707 : decode code 707 = .ok (.iload 5, 2) := by decide +kernel
theorem dl_709 : decode code 709 = .ok (.if_icmp .eq 5, 3) := by decide +kernel
theorem dl_712 : decode code 712 = .ok (.iconst 0, 1) := by decide +kernel
theorem dl_713 : decode code 713 = .ok (.ireturn, 1) := by decide +kernel
theorem dl_714 : decode code 714 = .ok (.iload 5, 2) := by decide +kernel
theorem dl_716 : decode code 716 = .ok (.ifCond .ne 15, 3) := by decide +kernel
theorem dl_719 : decode code 719 = .ok (.aload_n 3, 1) := by decide +kernel
theorem dl_720 : decode code 720 = .ok (.iconst 0, 1) := by decide +kernel
theorem dl_721 : decode code 721 = .ok (.laload, 1) := by decide +kernel
theorem dl_722 : decode code 722 = .ok (.iload 6, 2) := by decide +kernel
theorem dl_724 : decode code 724 = .ok (.i2l, 1) := by decide +kernel
theorem dl_725 : decode code 725 = .ok (.lcmp, 1) := by decide +kernel
theorem dl_726 : decode code 726 = .ok (.ifCond .eq 5, 3) := by decide +kernel
theorem dl_729 : decode code 729 = .ok (.iconst 0, 1) := by decide +kernel
theorem dl_730 : decode code 730 = .ok (.ireturn, 1) := by decide +kernel
theorem dl_731 : decode code 731 = .ok (.goto 332, 3) := by decide +kernel
theorem dl_734 : decode code 734 = .ok (.aload_n 1, 1) := by decide +kernel
theorem dl_735 : decode code 735 = .ok (.aload_n 0, 1) := by decide +kernel
theorem dl_736 : decode code 736 = .ok (.iload 4, 2) := by decide +kernel
theorem dl_738 : decode code 738 = .ok (.iconst 1, 1) := by decide +kernel
theorem dl_739 : decode code 739 = .ok (.iadd, 1) := by decide +kernel
theorem dl_740 : decode code 740 = .ok (.iaload, 1) := by decide +kernel
theorem dl_741 : decode code 741 = .ok (.aload_n 3, 1) := by decide +kernel
theorem dl_742 : decode code 742 = .ok (.invokestatic 111, 3) := by decide +kernel
theorem dl_745 : decode code 745 = .ok (.istore 5, 2) := by decide +kernel
theorem dl_747 : decode code 747 = .ok (.aload_n 2, 1) := by decide +kernel
theorem dl_748 : decode code 748 = .ok (.aload_n 0, 1) := by decide +kernel
theorem dl_749 : decode code 749 = .ok (.iload 4, 2) := by decide +kernel
theorem dl_751 : decode code 751 = .ok (.iconst 1, 1) := by decide +kernel
theorem dl_752 : decode code 752 = .ok (.iadd, 1) := by decide +kernel
theorem dl_753 : decode code 753 = .ok (.iaload, 1) := by decide +kernel
theorem dl_754 : decode code 754 = .ok (.invokevirtual 113, 3) := by decide +kernel
theorem dl_757 : decode code 757 = .ok (.istore 6, 2) := by decide +kernel
theorem dl_759 : decode code 759 = .ok (.aload_n 2, 1) := by decide +kernel
theorem dl_760 : decode code 760 = .ok (.invokevirtual 77, 3) := by decide +kernel
theorem dl_763 : decode code 763 = .ok (.iload 5, 2) := by decide +kernel
theorem dl_765 : decode code 765 = .ok (.if_icmp .eq 5, 3) := by decide +kernel
theorem dl_768 : decode code 768 = .ok (.iconst 0, 1) := by decide +kernel
theorem dl_769 : decode code 769 = .ok (.ireturn, 1) := by decide +kernel
theorem dl_770 : decode code 770 = .ok (.iload 5, 2) := by decide +kernel
theorem dl_772 : decode code 772 = .ok (.ifCond .ne 15, 3) := by decide +kernel
theorem dl_775 : decode code 775 = .ok (.aload_n 3, 1) := by decide +kernel
theorem dl_776 : decode code 776 = .ok (.iconst 0, 1) := by decide +kernel
theorem dl_777 : decode code 777 = .ok (.laload, 1) := by decide +kernel
theorem dl_778 : decode code 778 = .ok (.iload 6, 2) := by decide +kernel
theorem dl_780 : decode code 780 = .ok (.i2l, 1) := by decide +kernel
theorem dl_781 : decode code 781 = .ok (.lcmp, 1) := by decide +kernel
theorem dl_782 : decode code 782 = .ok (.ifCond .eq 5, 3) := by decide +kernel
theorem dl_785 : decode code 785 = .ok (.iconst 0, 1) := by decide +kernel
theorem dl_786 : decode code 786 = .ok (.ireturn, 1) := by decide +kernel
theorem dl_787 : decode code 787 = .ok (.goto 276, 3) := by decide +kernel
theorem dl_790 : decode code 790 = .ok (.aload_n 1, 1) := by decide +kernel
theorem dl_791 : decode code 791 = .ok (.aload_n 0, 1) := by decide +kernel
theorem dl_792 : decode code 792 = .ok (.iload 4, 2) := by decide +kernel
theorem dl_794 : decode code 794 = .ok (.iconst 1, 1) := by decide +kernel
theorem dl_795 : decode code 795 = .ok (.iadd, 1) := by decide +kernel
theorem dl_796 : decode code 796 = .ok (.iaload, 1) := by decide +kernel
theorem dl_797 : decode code 797 = .ok (.aload_n 3, 1) := by decide +kernel
theorem dl_798 : decode code 798 = .ok (.invokestatic 114, 3) := by decide +kernel
theorem dl_801 : decode code 801 = .ok (.istore 5, 2) := by decide +kernel
theorem dl_803 : decode code 803 = .ok (.aload_n 2, 1) := by decide +kernel
theorem dl_804 : decode code 804 = .ok (.aload_n 0, 1) := by decide +kernel
theorem dl_805 : decode code 805 = .ok (.iload 4, 2) := by decide +kernel
theorem dl_807 : decode code 807 = .ok (.iconst 1, 1) := by decide +kernel
theorem dl_808 : decode code 808 = .ok (.iadd, 1) := by decide +kernel
theorem dl_809 : decode code 809 = .ok (.iaload, 1) := by decide +kernel
theorem dl_810 : decode code 810 = .ok (.invokevirtual 116, 3) := by decide +kernel
theorem dl_813 : decode code 813 = .ok (.istore 6, 2) := by decide +kernel
theorem dl_815 : decode code 815 = .ok (.aload_n 2, 1) := by decide +kernel
theorem dl_816 : decode code 816 = .ok (.invokevirtual 77, 3) := by decide +kernel
theorem dl_819 : decode code 819 = .ok (.iload 5, 2) := by decide +kernel
theorem dl_821 : decode code 821 = .ok (.if_icmp .eq 5, 3) := by decide +kernel
theorem dl_824 : decode code 824 = .ok (.iconst 0, 1) := by decide +kernel
theorem dl_825 : decode code 825 = .ok (.ireturn, 1) := by decide +kernel
theorem dl_826 : decode code 826 = .ok (.iload 5, 2) := by decide +kernel
theorem dl_828 : decode code 828 = .ok (.ifCond .ne 15, 3) := by decide +kernel
theorem dl_831 : decode code 831 = .ok (.aload_n 3, 1) := by decide +kernel
theorem dl_832 : decode code 832 = .ok (.iconst 0, 1) := by decide +kernel
theorem dl_833 : decode code 833 = .ok (.laload, 1) := by decide +kernel
theorem dl_834 : decode code 834 = .ok (.iload 6, 2) := by decide +kernel
theorem dl_836 : decode code 836 = .ok (.i2l, 1) := by decide +kernel
theorem dl_837 : decode code 837 = .ok (.lcmp, 1) := by decide +kernel
theorem dl_838 : decode code 838 = .ok (.ifCond .eq 5, 3) := by decide +kernel
theorem dl_841 : decode code 841 = .ok (.iconst 0, 1) := by decide +kernel
theorem dl_842 : decode code 842 = .ok (.ireturn, 1) := by decide +kernel
theorem dl_843 : decode code 843 = .ok (.goto 220, 3) := by decide +kernel
theorem dl_846 : decode code 846 = .ok (.aload_n 1, 1) := by decide +kernel
theorem dl_847 : decode code 847 = .ok (.aload_n 0, 1) := by decide +kernel
theorem dl_848 : decode code 848 = .ok (.iload 4, 2) := by decide +kernel
theorem dl_850 : decode code 850 = .ok (.iconst 1, 1) := by decide +kernel
theorem dl_851 : decode code 851 = .ok (.iadd, 1) := by decide +kernel
theorem dl_852 : decode code 852 = .ok (.iaload, 1) := by decide +kernel
theorem dl_853 : decode code 853 = .ok (.aload_n 0, 1) := by decide +kernel
theorem dl_854 : decode code 854 = .ok (.iload 4, 2) := by decide +kernel
theorem dl_856 : decode code 856 = .ok (.iconst 2, 1) := by decide +kernel
theorem dl_857 : decode code 857 = .ok (.iadd, 1) := by decide +kernel
theorem dl_858 : decode code 858 = .ok (.iaload, 1) := by decide +kernel
theorem dl_859 : decode code 859 = .ok (.aload_n 3, 1) := by decide +kernel
theorem dl_860 : decode code 860 = .ok (.invokestatic 117, 3) := by decide +kernel
theorem dl_863 : decode code 863 = .ok (.istore 5, 2) := by decide +kernel
theorem dl_865 : decode code 865 = .ok (.aload_n 2, 1) := by decide +kernel
theorem dl_866 : decode code 866 = .ok (.aload_n 0, 1) := by decide +kernel
theorem dl_867 : decode code 867 = .ok (.iload 4, 2) := by decide +kernel
theorem dl_869 : decode code 869 = .ok (.iconst 1, 1) := by decide +kernel
theorem dl_870 : decode code 870 = .ok (.iadd, 1) := by decide +kernel
theorem dl_871 : decode code 871 = .ok (.iaload, 1) := by decide +kernel
theorem dl_872 : decode code 872 = .ok (.aload_n 0, 1) := by decide +kernel
theorem dl_873 : decode code 873 = .ok (.iload 4, 2) := by decide +kernel
theorem dl_875 : decode code 875 = .ok (.iconst 2, 1) := by decide +kernel
theorem dl_876 : decode code 876 = .ok (.iadd, 1) := by decide +kernel
theorem dl_877 : decode code 877 = .ok (.iaload, 1) := by decide +kernel
theorem dl_878 : decode code 878 = .ok (.invokevirtual 119, 3) := by decide +kernel
theorem dl_881 : decode code 881 = .ok (.istore 6, 2) := by decide +kernel
theorem dl_883 : decode code 883 = .ok (.aload_n 2, 1) := by decide +kernel
theorem dl_884 : decode code 884 = .ok (.invokevirtual 77, 3) := by decide +kernel
theorem dl_887 : decode code 887 = .ok (.iload 5, 2) := by decide +kernel
theorem dl_889 : decode code 889 = .ok (.if_icmp .eq 5, 3) := by decide +kernel
theorem dl_892 : decode code 892 = .ok (.iconst 0, 1) := by decide +kernel
theorem dl_893 : decode code 893 = .ok (.ireturn, 1) := by decide +kernel
theorem dl_894 : decode code 894 = .ok (.iload 5, 2) := by decide +kernel
theorem dl_896 : decode code 896 = .ok (.ifCond .ne 15, 3) := by decide +kernel
theorem dl_899 : decode code 899 = .ok (.aload_n 3, 1) := by decide +kernel
theorem dl_900 : decode code 900 = .ok (.iconst 0, 1) := by decide +kernel
theorem dl_901 : decode code 901 = .ok (.laload, 1) := by decide +kernel
theorem dl_902 : decode code 902 = .ok (.iload 6, 2) := by decide +kernel
theorem dl_904 : decode code 904 = .ok (.i2l, 1) := by decide +kernel
theorem dl_905 : decode code 905 = .ok (.lcmp, 1) := by decide +kernel
theorem dl_906 : decode code 906 = .ok (.ifCond .eq 5, 3) := by decide +kernel
theorem dl_909 : decode code 909 = .ok (.iconst 0, 1) := by decide +kernel
theorem dl_910 : decode code 910 = .ok (.ireturn, 1) := by decide +kernel
theorem dl_911 : decode code 911 = .ok (.goto 152, 3) := by decide +kernel
theorem dl_914 : decode code 914 = .ok (.aload_n 1, 1) := by decide +kernel
theorem dl_915 : decode code 915 = .ok (.aload_n 0, 1) := by decide +kernel
theorem dl_916 : decode code 916 = .ok (.iload 4, 2) := by decide +kernel
theorem dl_918 : decode code 918 = .ok (.iconst 1, 1) := by decide +kernel
theorem dl_919 : decode code 919 = .ok (.iadd, 1) := by decide +kernel
theorem dl_920 : decode code 920 = .ok (.iaload, 1) := by decide +kernel
theorem dl_921 : decode code 921 = .ok (.aload_n 0, 1) := by decide +kernel
theorem dl_922 : decode code 922 = .ok (.iload 4, 2) := by decide +kernel
theorem dl_924 : decode code 924 = .ok (.iconst 2, 1) := by decide +kernel
theorem dl_925 : decode code 925 = .ok (.iadd, 1) := by decide +kernel
theorem dl_926 : decode code 926 = .ok (.iaload, 1) := by decide +kernel
theorem dl_927 : decode code 927 = .ok (.aload_n 3, 1) := by decide +kernel
theorem dl_928 : decode code 928 = .ok (.invokestatic 120, 3) := by decide +kernel
theorem dl_931 : decode code 931 = .ok (.istore 5, 2) := by decide +kernel
theorem dl_933 : decode code 933 = .ok (.aload_n 2, 1) := by decide +kernel
theorem dl_934 : decode code 934 = .ok (.aload_n 0, 1) := by decide +kernel
theorem dl_935 : decode code 935 = .ok (.iload 4, 2) := by decide +kernel
theorem dl_937 : decode code 937 = .ok (.iconst 1, 1) := by decide +kernel
theorem dl_938 : decode code 938 = .ok (.iadd, 1) := by decide +kernel
theorem dl_939 : decode code 939 = .ok (.iaload, 1) := by decide +kernel
theorem dl_940 : decode code 940 = .ok (.aload_n 0, 1) := by decide +kernel
theorem dl_941 : decode code 941 = .ok (.iload 4, 2) := by decide +kernel
theorem dl_943 : decode code 943 = .ok (.iconst 2, 1) := by decide +kernel
theorem dl_944 : decode code 944 = .ok (.iadd, 1) := by decide +kernel
theorem dl_945 : decode code 945 = .ok (.iaload, 1) := by decide +kernel
theorem dl_946 : decode code 946 = .ok (.invokevirtual 122, 3) := by decide +kernel
theorem dl_949 : decode code 949 = .ok (.istore 6, 2) := by decide +kernel
theorem dl_951 : decode code 951 = .ok (.aload_n 2, 1) := by decide +kernel
theorem dl_952 : decode code 952 = .ok (.invokevirtual 77, 3) := by decide +kernel
theorem dl_955 : decode code 955 = .ok (.iload 5, 2) := by decide +kernel
theorem dl_957 : decode code 957 = .ok (.if_icmp .eq 5, 3) := by decide +kernel
theorem dl_960 : decode code 960 = .ok (.iconst 0, 1) := by decide +kernel
theorem dl_961 : decode code 961 = .ok (.ireturn, 1) := by decide +kernel
theorem dl_962 : decode code 962 = .ok (.iload 5, 2) := by decide +kernel
theorem dl_964 : decode code 964 = .ok (.ifCond .ne 15, 3) := by decide +kernel
theorem dl_967 : decode code 967 = .ok (.aload_n 3, 1) := by decide +kernel
theorem dl_968 : decode code 968 = .ok (.iconst 0, 1) := by decide +kernel
theorem dl_969 : decode code 969 = .ok (.laload, 1) := by decide +kernel
theorem dl_970 : decode code 970 = .ok (.iload 6, 2) := by decide +kernel
theorem dl_972 : decode code 972 = .ok (.i2l, 1) := by decide +kernel
theorem dl_973 : decode code 973 = .ok (.lcmp, 1) := by decide +kernel
theorem dl_974 : decode code 974 = .ok (.ifCond .eq 5, 3) := by decide +kernel
theorem dl_977 : decode code 977 = .ok (.iconst 0, 1) := by decide +kernel
theorem dl_978 : decode code 978 = .ok (.ireturn, 1) := by decide +kernel
theorem dl_979 : decode code 979 = .ok (.goto 84, 3) := by decide +kernel
theorem dl_982 : decode code 982 = .ok (.aload_n 1, 1) := by decide +kernel
theorem dl_983 : decode code 983 = .ok (.aload_n 0, 1) := by decide +kernel
theorem dl_984 : decode code 984 = .ok (.iload 4, 2) := by decide +kernel
theorem dl_986 : decode code 986 = .ok (.iconst 1, 1) := by decide +kernel
theorem dl_987 : decode code 987 = .ok (.iadd, 1) := by decide +kernel
theorem dl_988 : decode code 988 = .ok (.iaload, 1) := by decide +kernel
theorem dl_989 : decode code 989 = .ok (.invokevirtual 123, 3) := by decide +kernel
theorem dl_992 : decode code 992 = .ok (.aload_n 2, 1) := by decide +kernel
theorem dl_993 : decode code 993 = .ok (.aload_n 0, 1) := by decide +kernel
theorem dl_994 : decode code 994 = .ok (.iload 4, 2) := by decide +kernel
theorem dl_996 : decode code 996 = .ok (.iconst 1, 1) := by decide +kernel
theorem dl_997 : decode code 997 = .ok (.iadd, 1) := by decide +kernel
theorem dl_998 : decode code 998 = .ok (.iaload, 1) := by decide +kernel
theorem dl_999 : decode code 999 = .ok (.invokevirtual 126, 3) := by decide +kernel
theorem dl_1002 : decode code 1002 = .ok (.if_icmp .eq 61, 3) := by decide +kernel
theorem dl_1005 : decode code 1005 = .ok (.iconst 0, 1) := by decide +kernel
theorem dl_1006 : decode code 1006 = .ok (.ireturn, 1) := by decide +kernel
theorem dl_1007 : decode code 1007 = .ok (.aload_n 1, 1) := by decide +kernel
theorem dl_1008 : decode code 1008 = .ok (.aload_n 0, 1) := by decide +kernel
theorem dl_1009 : decode code 1009 = .ok (.iload 4, 2) := by decide +kernel
theorem dl_1011 : decode code 1011 = .ok (.iconst 1, 1) := by decide +kernel
theorem dl_1012 : decode code 1012 = .ok (.iadd, 1) := by decide +kernel
theorem dl_1013 : decode code 1013 = .ok (.iaload, 1) := by decide +kernel
theorem dl_1014 : decode code 1014 = .ok (.aload_n 3, 1) := by decide +kernel
theorem dl_1015 : decode code 1015 = .ok (.invokestatic 127, 3) := by decide +kernel
theorem dl_1018 : decode code 1018 = .ok (.istore 5, 2) := by decide +kernel
theorem dl_1020 : decode code 1020 = .ok (.aload_n 2, 1) := by decide +kernel
theorem dl_1021 : decode code 1021 = .ok (.aload_n 0, 1) := by decide +kernel
theorem dl_1022 : decode code 1022 = .ok (.iload 4, 2) := by decide +kernel
theorem dl_1024 : decode code 1024 = .ok (.iconst 1, 1) := by decide +kernel
theorem dl_1025 : decode code 1025 = .ok (.iadd, 1) := by decide +kernel
theorem dl_1026 : decode code 1026 = .ok (.iaload, 1) := by decide +kernel
theorem dl_1027 : decode code 1027 = .ok (.invokevirtual 129, 3) := by decide +kernel
theorem dl_1030 : decode code 1030 = .ok (.istore 6, 2) := by decide +kernel
theorem dl_1032 : decode code 1032 = .ok (.aload_n 2, 1) := by decide +kernel
theorem dl_1033 : decode code 1033 = .ok (.invokevirtual 77, 3) := by decide +kernel
theorem dl_1036 : decode code 1036 = .ok (.iload 5, 2) := by decide +kernel
theorem dl_1038 : decode code 1038 = .ok (.if_icmp .eq 5, 3) := by decide +kernel
theorem dl_1041 : decode code 1041 = .ok (.iconst 0, 1) := by decide +kernel
theorem dl_1042 : decode code 1042 = .ok (.ireturn, 1) := by decide +kernel
theorem dl_1043 : decode code 1043 = .ok (.iload 5, 2) := by decide +kernel
theorem dl_1045 : decode code 1045 = .ok (.ifCond .ne 15, 3) := by decide +kernel
theorem dl_1048 : decode code 1048 = .ok (.aload_n 3, 1) := by decide +kernel
theorem dl_1049 : decode code 1049 = .ok (.iconst 0, 1) := by decide +kernel
theorem dl_1050 : decode code 1050 = .ok (.laload, 1) := by decide +kernel
theorem dl_1051 : decode code 1051 = .ok (.iload 6, 2) := by decide +kernel
theorem dl_1053 : decode code 1053 = .ok (.i2l, 1) := by decide +kernel
theorem dl_1054 : decode code 1054 = .ok (.lcmp, 1) := by decide +kernel
theorem dl_1055 : decode code 1055 = .ok (.ifCond .eq 5, 3) := by decide +kernel
theorem dl_1058 : decode code 1058 = .ok (.iconst 0, 1) := by decide +kernel
theorem dl_1059 : decode code 1059 = .ok (.ireturn, 1) := by decide +kernel
theorem dl_1060 : decode code 1060 = .ok (.goto 3, 3) := by decide +kernel
theorem dl_1063 : decode code 1063 = .ok (.iinc 4 6, 3) := by decide +kernel
theorem dl_1066 : decode code 1066 = .ok (.goto (-1043), 3) := by decide +kernel
theorem dl_1069 : decode code 1069 = .ok (.iconst 1, 1) := by decide +kernel
theorem dl_1070 : decode code 1070 = .ok (.ireturn, 1) := by decide +kernel
end
section
theorem wy_264 : (Jvm.Cond.methodLink "RouteHouseLaw" (71 : Nat) ({ cls := "RouteHouseLaw", name := "port", desc := "(LRouteHouse;III)I" } : Jvm.MethodName)) ∈ tb_all := wd_o2 (i := 24) rfl rfl
theorem wy_265 : (Jvm.Cond.static ({ cls := "RouteHouseLaw", name := "port", desc := "(LRouteHouse;III)I" } : Jvm.MethodName)) ∈ tb_all := wd_o2 (i := 25) rfl rfl
theorem wy_0 : (Jvm.Cond.initialized "RouteHouseLaw") ∈ tb_all := wd_o1 (i := 0) rfl rfl
theorem wy_266 : (Jvm.Cond.codeWith ({ cls := "RouteHouseLaw", name := "port", desc := "(LRouteHouse;III)I" } : Jvm.MethodName) method_3_code (5 : Nat) (Option.some Jvm.ClassFile.FieldType.int) [((0 : Nat), (7 : Nat), (10 : Nat), (13 : Nat)), ((0 : Nat), (7 : Nat), (14 : Nat), (15 : Nat))]) ∈ tb_all := wd_o2 (i := 26) rfl rfl
theorem wy_890 : (Jvm.Cond.methodLink "RouteHouseLaw" (76 : Nat) ({ cls := "RouteHouseModel", name := "port", desc := "(III)V" } : Jvm.MethodName)) ∈ tb_all := wd_o4 (i := 170) rfl rfl
theorem wy_886 : (Jvm.Cond.methodLink "RouteHouseLaw" (77 : Nat) ({ cls := "RouteHouseModel", name := "thrown", desc := "()I" } : Jvm.MethodName)) ∈ tb_all := wd_o4 (i := 166) rfl rfl
theorem wy_361 : (Jvm.Cond.methodLink "RouteHouseLaw" (81 : Nat) ({ cls := "RouteHouseLaw", name := "up", desc := "(LRouteHouse;IZ[J)I" } : Jvm.MethodName)) ∈ tb_all := wd_o2 (i := 121) rfl rfl
theorem wy_362 : (Jvm.Cond.static ({ cls := "RouteHouseLaw", name := "up", desc := "(LRouteHouse;IZ[J)I" } : Jvm.MethodName)) ∈ tb_all := wd_o2 (i := 122) rfl rfl
theorem wy_363 : (Jvm.Cond.codeWith ({ cls := "RouteHouseLaw", name := "up", desc := "(LRouteHouse;IZ[J)I" } : Jvm.MethodName) method_4_code (5 : Nat) (Option.some Jvm.ClassFile.FieldType.int) [((0 : Nat), (17 : Nat), (20 : Nat), (13 : Nat))]) ∈ tb_all := wd_o2 (i := 123) rfl rfl
theorem wy_901 : (Jvm.Cond.methodLink "RouteHouseLaw" (84 : Nat) ({ cls := "RouteHouseModel", name := "up", desc := "(IZ)Z" } : Jvm.MethodName)) ∈ tb_all := wd_o4 (i := 181) rfl rfl
theorem wy_368 : (Jvm.Cond.methodLink "RouteHouseLaw" (85 : Nat) ({ cls := "RouteHouseLaw", name := "route", desc := "(LRouteHouse;IIII[J)I" } : Jvm.MethodName)) ∈ tb_all := wd_o2 (i := 128) rfl rfl
theorem wy_369 : (Jvm.Cond.static ({ cls := "RouteHouseLaw", name := "route", desc := "(LRouteHouse;IIII[J)I" } : Jvm.MethodName)) ∈ tb_all := wd_o2 (i := 129) rfl rfl
theorem wy_370 : (Jvm.Cond.codeWith ({ cls := "RouteHouseLaw", name := "route", desc := "(LRouteHouse;IIII[J)I" } : Jvm.MethodName) method_5_code (7 : Nat) (Option.some Jvm.ClassFile.FieldType.int) [((0 : Nat), (14 : Nat), (17 : Nat), (15 : Nat)), ((0 : Nat), (14 : Nat), (21 : Nat), (13 : Nat)), ((0 : Nat), (14 : Nat), (25 : Nat), (25 : Nat))]) ∈ tb_all := wd_o2 (i := 130) rfl rfl
theorem wy_905 : (Jvm.Cond.methodLink "RouteHouseLaw" (88 : Nat) ({ cls := "RouteHouseModel", name := "route", desc := "(IIII)I" } : Jvm.MethodName)) ∈ tb_all := wd_o4 (i := 185) rfl rfl
theorem wy_408 : (Jvm.Cond.methodLink "RouteHouseLaw" (89 : Nat) ({ cls := "RouteHouseLaw", name := "unroute", desc := "(LRouteHouse;II[J)I" } : Jvm.MethodName)) ∈ tb_all := wd_o2 (i := 168) rfl rfl
theorem wy_409 : (Jvm.Cond.static ({ cls := "RouteHouseLaw", name := "unroute", desc := "(LRouteHouse;II[J)I" } : Jvm.MethodName)) ∈ tb_all := wd_o2 (i := 169) rfl rfl
theorem wy_410 : (Jvm.Cond.codeWith ({ cls := "RouteHouseLaw", name := "unroute", desc := "(LRouteHouse;II[J)I" } : Jvm.MethodName) method_6_code (5 : Nat) (Option.some Jvm.ClassFile.FieldType.int) [((0 : Nat), (17 : Nat), (20 : Nat), (15 : Nat))]) ∈ tb_all := wd_o2 (i := 170) rfl rfl
theorem wy_916 : (Jvm.Cond.methodLink "RouteHouseLaw" (92 : Nat) ({ cls := "RouteHouseModel", name := "unroute", desc := "(II)Z" } : Jvm.MethodName)) ∈ tb_all := wd_o4 (i := 196) rfl rfl
theorem wy_419 : (Jvm.Cond.methodLink "RouteHouseLaw" (93 : Nat) ({ cls := "RouteHouseLaw", name := "lookup", desc := "(LRouteHouse;II[J)I" } : Jvm.MethodName)) ∈ tb_all := wd_o2 (i := 179) rfl rfl
theorem wy_420 : (Jvm.Cond.static ({ cls := "RouteHouseLaw", name := "lookup", desc := "(LRouteHouse;II[J)I" } : Jvm.MethodName)) ∈ tb_all := wd_o2 (i := 180) rfl rfl
theorem wy_421 : (Jvm.Cond.codeWith ({ cls := "RouteHouseLaw", name := "lookup", desc := "(LRouteHouse;II[J)I" } : Jvm.MethodName) method_7_code (5 : Nat) (Option.some Jvm.ClassFile.FieldType.int) [((0 : Nat), (10 : Nat), (13 : Nat), (15 : Nat))]) ∈ tb_all := wd_o2 (i := 181) rfl rfl
theorem wy_920 : (Jvm.Cond.methodLink "RouteHouseLaw" (95 : Nat) ({ cls := "RouteHouseModel", name := "lookup", desc := "(II)I" } : Jvm.MethodName)) ∈ tb_all := wd_o4 (i := 200) rfl rfl
theorem wy_431 : (Jvm.Cond.methodLink "RouteHouseLaw" (96 : Nat) ({ cls := "RouteHouseLaw", name := "feed", desc := "(LRouteHouse;IIIII[J)I" } : Jvm.MethodName)) ∈ tb_all := wd_o2 (i := 191) rfl rfl
theorem wy_432 : (Jvm.Cond.static ({ cls := "RouteHouseLaw", name := "feed", desc := "(LRouteHouse;IIIII[J)I" } : Jvm.MethodName)) ∈ tb_all := wd_o2 (i := 192) rfl rfl
theorem wy_433 : (Jvm.Cond.codeWith ({ cls := "RouteHouseLaw", name := "feed", desc := "(LRouteHouse;IIIII[J)I" } : Jvm.MethodName) method_8_code (8 : Nat) (Option.some Jvm.ClassFile.FieldType.int) [((0 : Nat), (16 : Nat), (19 : Nat), (39 : Nat))]) ∈ tb_all := wd_o2 (i := 193) rfl rfl
theorem wy_928 : (Jvm.Cond.methodLink "RouteHouseLaw" (99 : Nat) ({ cls := "RouteHouseModel", name := "feed", desc := "(IIIII)I" } : Jvm.MethodName)) ∈ tb_all := wd_o4 (i := 208) rfl rfl
theorem wy_458 : (Jvm.Cond.methodLink "RouteHouseLaw" (100 : Nat) ({ cls := "RouteHouseLaw", name := "end", desc := "(LRouteHouse;I)I" } : Jvm.MethodName)) ∈ tb_all := wd_o2 (i := 218) rfl rfl
theorem wy_459 : (Jvm.Cond.static ({ cls := "RouteHouseLaw", name := "end", desc := "(LRouteHouse;I)I" } : Jvm.MethodName)) ∈ tb_all := wd_o2 (i := 219) rfl rfl
theorem wy_460 : (Jvm.Cond.codeWith ({ cls := "RouteHouseLaw", name := "end", desc := "(LRouteHouse;I)I" } : Jvm.MethodName) method_9_code (3 : Nat) (Option.some Jvm.ClassFile.FieldType.int) [((0 : Nat), (5 : Nat), (8 : Nat), (15 : Nat))]) ∈ tb_all := wd_o2 (i := 220) rfl rfl
theorem wy_932 : (Jvm.Cond.methodLink "RouteHouseLaw" (103 : Nat) ({ cls := "RouteHouseModel", name := "end", desc := "(I)V" } : Jvm.MethodName)) ∈ tb_all := wd_o4 (i := 212) rfl rfl
theorem wy_466 : (Jvm.Cond.methodLink "RouteHouseLaw" (104 : Nat) ({ cls := "RouteHouseLaw", name := "sum", desc := "(LRouteHouse;I)I" } : Jvm.MethodName)) ∈ tb_all := wd_o2 (i := 226) rfl rfl
theorem wy_467 : (Jvm.Cond.static ({ cls := "RouteHouseLaw", name := "sum", desc := "(LRouteHouse;I)I" } : Jvm.MethodName)) ∈ tb_all := wd_o2 (i := 227) rfl rfl
theorem wy_468 : (Jvm.Cond.codeWith ({ cls := "RouteHouseLaw", name := "sum", desc := "(LRouteHouse;I)I" } : Jvm.MethodName) method_10_code (3 : Nat) (Option.some Jvm.ClassFile.FieldType.int) [((0 : Nat), (5 : Nat), (8 : Nat), (15 : Nat))]) ∈ tb_all := wd_o2 (i := 228) rfl rfl
theorem wy_936 : (Jvm.Cond.methodLink "RouteHouseLaw" (106 : Nat) ({ cls := "RouteHouseModel", name := "sum", desc := "(I)V" } : Jvm.MethodName)) ∈ tb_all := wd_o4 (i := 216) rfl rfl
theorem wy_481 : (Jvm.Cond.methodLink "RouteHouseLaw" (107 : Nat) ({ cls := "RouteHouseLaw", name := "copy", desc := "(LRouteHouse;I[J)I" } : Jvm.MethodName)) ∈ tb_all := wd_o3 (i := 1) rfl rfl
theorem wy_482 : (Jvm.Cond.static ({ cls := "RouteHouseLaw", name := "copy", desc := "(LRouteHouse;I[J)I" } : Jvm.MethodName)) ∈ tb_all := wd_o3 (i := 2) rfl rfl
theorem wy_483 : (Jvm.Cond.codeWith ({ cls := "RouteHouseLaw", name := "copy", desc := "(LRouteHouse;I[J)I" } : Jvm.MethodName) method_11_code (4 : Nat) (Option.some Jvm.ClassFile.FieldType.int) [((0 : Nat), (9 : Nat), (12 : Nat), (13 : Nat))]) ∈ tb_all := wd_o3 (i := 3) rfl rfl
theorem wy_947 : (Jvm.Cond.methodLink "RouteHouseLaw" (110 : Nat) ({ cls := "RouteHouseModel", name := "copy", desc := "(I)I" } : Jvm.MethodName)) ∈ tb_all := wd_o4 (i := 227) rfl rfl
theorem wy_496 : (Jvm.Cond.methodLink "RouteHouseLaw" (111 : Nat) ({ cls := "RouteHouseLaw", name := "receive", desc := "(LRouteHouse;I[J)I" } : Jvm.MethodName)) ∈ tb_all := wd_o3 (i := 16) rfl rfl
theorem wy_497 : (Jvm.Cond.static ({ cls := "RouteHouseLaw", name := "receive", desc := "(LRouteHouse;I[J)I" } : Jvm.MethodName)) ∈ tb_all := wd_o3 (i := 17) rfl rfl
theorem wy_498 : (Jvm.Cond.codeWith ({ cls := "RouteHouseLaw", name := "receive", desc := "(LRouteHouse;I[J)I" } : Jvm.MethodName) method_12_code (4 : Nat) (Option.some Jvm.ClassFile.FieldType.int) [((0 : Nat), (9 : Nat), (12 : Nat), (13 : Nat))]) ∈ tb_all := wd_o3 (i := 18) rfl rfl
theorem wy_951 : (Jvm.Cond.methodLink "RouteHouseLaw" (113 : Nat) ({ cls := "RouteHouseModel", name := "receive", desc := "(I)I" } : Jvm.MethodName)) ∈ tb_all := wd_o4 (i := 231) rfl rfl
theorem wy_709 : (Jvm.Cond.methodLink "RouteHouseLaw" (114 : Nat) ({ cls := "RouteHouseLaw", name := "pass", desc := "(LRouteHouse;I[J)I" } : Jvm.MethodName)) ∈ tb_all := wd_o3 (i := 229) rfl rfl
theorem wy_710 : (Jvm.Cond.static ({ cls := "RouteHouseLaw", name := "pass", desc := "(LRouteHouse;I[J)I" } : Jvm.MethodName)) ∈ tb_all := wd_o3 (i := 230) rfl rfl
theorem wy_711 : (Jvm.Cond.codeWith ({ cls := "RouteHouseLaw", name := "pass", desc := "(LRouteHouse;I[J)I" } : Jvm.MethodName) method_13_code (4 : Nat) (Option.some Jvm.ClassFile.FieldType.int) [((0 : Nat), (9 : Nat), (12 : Nat), (15 : Nat))]) ∈ tb_all := wd_o3 (i := 231) rfl rfl
theorem wy_1037 : (Jvm.Cond.methodLink "RouteHouseLaw" (116 : Nat) ({ cls := "RouteHouseModel", name := "pass", desc := "(I)I" } : Jvm.MethodName)) ∈ tb_all := wd_o5 (i := 77) rfl rfl
theorem wy_726 : (Jvm.Cond.methodLink "RouteHouseLaw" (117 : Nat) ({ cls := "RouteHouseLaw", name := "sent", desc := "(LRouteHouse;II[J)I" } : Jvm.MethodName)) ∈ tb_all := wd_o4 (i := 6) rfl rfl
theorem wy_727 : (Jvm.Cond.static ({ cls := "RouteHouseLaw", name := "sent", desc := "(LRouteHouse;II[J)I" } : Jvm.MethodName)) ∈ tb_all := wd_o4 (i := 7) rfl rfl
theorem wy_728 : (Jvm.Cond.codeWith ({ cls := "RouteHouseLaw", name := "sent", desc := "(LRouteHouse;II[J)I" } : Jvm.MethodName) method_14_code (5 : Nat) (Option.some Jvm.ClassFile.FieldType.int) [((0 : Nat), (10 : Nat), (13 : Nat), (13 : Nat)), ((0 : Nat), (10 : Nat), (17 : Nat), (15 : Nat))]) ∈ tb_all := wd_o4 (i := 8) rfl rfl
theorem wy_1045 : (Jvm.Cond.methodLink "RouteHouseLaw" (119 : Nat) ({ cls := "RouteHouseModel", name := "sent", desc := "(II)I" } : Jvm.MethodName)) ∈ tb_all := wd_o5 (i := 85) rfl rfl
theorem wy_734 : (Jvm.Cond.methodLink "RouteHouseLaw" (120 : Nat) ({ cls := "RouteHouseLaw", name := "out", desc := "(LRouteHouse;II[J)I" } : Jvm.MethodName)) ∈ tb_all := wd_o4 (i := 14) rfl rfl
theorem wy_735 : (Jvm.Cond.static ({ cls := "RouteHouseLaw", name := "out", desc := "(LRouteHouse;II[J)I" } : Jvm.MethodName)) ∈ tb_all := wd_o4 (i := 15) rfl rfl
theorem wy_736 : (Jvm.Cond.codeWith ({ cls := "RouteHouseLaw", name := "out", desc := "(LRouteHouse;II[J)I" } : Jvm.MethodName) method_15_code (5 : Nat) (Option.some Jvm.ClassFile.FieldType.int) [((0 : Nat), (10 : Nat), (13 : Nat), (13 : Nat))]) ∈ tb_all := wd_o4 (i := 16) rfl rfl
theorem wy_1049 : (Jvm.Cond.methodLink "RouteHouseLaw" (122 : Nat) ({ cls := "RouteHouseModel", name := "out", desc := "(II)I" } : Jvm.MethodName)) ∈ tb_all := wd_o5 (i := 89) rfl rfl
theorem wy_260 : (Jvm.Cond.methodLink "RouteHouseLaw" (123 : Nat) ({ cls := "RouteHouse", name := "data", desc := "(I)I" } : Jvm.MethodName)) ∈ tb_all := wd_o2 (i := 20) rfl rfl
theorem wy_1053 : (Jvm.Cond.methodLink "RouteHouseLaw" (126 : Nat) ({ cls := "RouteHouseModel", name := "data", desc := "(I)I" } : Jvm.MethodName)) ∈ tb_all := wd_o5 (i := 93) rfl rfl
theorem wy_742 : (Jvm.Cond.methodLink "RouteHouseLaw" (127 : Nat) ({ cls := "RouteHouseLaw", name := "about", desc := "(LRouteHouse;I[J)I" } : Jvm.MethodName)) ∈ tb_all := wd_o4 (i := 22) rfl rfl
theorem wy_743 : (Jvm.Cond.static ({ cls := "RouteHouseLaw", name := "about", desc := "(LRouteHouse;I[J)I" } : Jvm.MethodName)) ∈ tb_all := wd_o4 (i := 23) rfl rfl
theorem wy_744 : (Jvm.Cond.codeWith ({ cls := "RouteHouseLaw", name := "about", desc := "(LRouteHouse;I[J)I" } : Jvm.MethodName) method_16_code (4 : Nat) (Option.some Jvm.ClassFile.FieldType.int) [((0 : Nat), (9 : Nat), (12 : Nat), (15 : Nat))]) ∈ tb_all := wd_o4 (i := 24) rfl rfl
theorem wy_1057 : (Jvm.Cond.methodLink "RouteHouseLaw" (129 : Nat) ({ cls := "RouteHouseModel", name := "about", desc := "(I)I" } : Jvm.MethodName)) ∈ tb_all := wd_o5 (i := 97) rfl rfl
theorem lg_same (x : Int64) : lg_cmp x x = 0 := by
  unfold lg_cmp
  rw [if_neg (by simp), if_pos rfl]
section Cases
variable {p : Program} {l : Launch} {e : Env} {s : State} {m : MethodId} {args : Array Value} {below : List Frame} {meth : Method} {c : Code} {H : Heap} {locs : List Loc} {cells slots : Nat} {Q : State → Prop} {ls : Array Slot} {D : va_G} {A : Nat → Prop} {ad : List Nat} {h : hp_T} {b L i a0 a2 qo : Nat} {f : Nat → Int64} {xs : Nat → Int32} {J : hp_T → Prop}
-- what stands at the head of the loop and at its end
def lq_H (J : hp_T → Prop) : Prop := ∀ h, J h → hp_c h + 1 ≤ 601024 ∧ hp_s h + 1 ≤ 7293034
def lq_C (p : Program) (s : State) (m : MethodId) (args : Array Value) (c : Code) (A : Nat → Prop) (b L : Nat) (xs : Nat → Int32) : Prop := p.tables.exec = Jvm.exec ∧ c.code = code ∧ c.maxLocals = 7 ∧ s.vm.findClass "RouteHouseLaw" = some m.cls ∧ (∀ w ∈ tb_all, w.before args s = true) ∧ va_X b L xs s s.heap ∧ b < s.heap.size ∧ ¬ A b ∧ (∀ q, s.heap.size ≤ q → A q) ∧ sw_n s ∧ L < 100000
def lq_S (D : va_G) (A : Nat → Prop) (ad : List Nat) (h : hp_T) (f : Nat → Int64) (b a0 a2 qo i : Nat) (s : State) (H : Heap) (locs : List Loc) (ls : Array Slot) (cells slots : Nat) : Prop := sd_w D A ad h s H ∧ sw_c D A ad qo f s H ∧ va_S A s.heap H locs ∧ sw_R s H ∧ lv_has ls 7 [(0, .ref b), (1, .ref a0), (2, .ref a2), (3, .ref qo), (4, .int (nI i))] ∧ cells = hp_c h + 1 ∧ slots = hp_s h + 1
set_option maxHeartbeats 4000000 in
set_option maxRecDepth 100000 in
theorem lc_port (hlt : l.stackTraces = false) (C0 : lq_C p s m args c A b L xs) (hJ : lq_H J) (hk0 : hp_k h 0 = some (7, 0)) (hk5 : hp_k h 52 = some (8, 0)) (hq0 : ad[0]? = some a0) (hq5 : ad[52]? = some a2) (hi : i + 6 ≤ L) (hp : pu_v 47 77 cd_port [.int (xs (i + 1)), .int (xs (i + 2)), .int (xs (i + 3))] h J) (S0 : lq_S D A ad h f b a0 a2 qo i s H locs ls cells slots)
    (kk : ∀ (h2 : hp_T) (f2 : Nat → Int64) (H2 : Heap) (locs2 : List Loc) (ls2 : Array Slot) (c2 s2 : Nat), J h2 → h2.1 = h.1 → lq_S D A ad h2 f2 b a0 a2 qo i s H2 locs2 ls2 c2 s2 → W p l e room_1 s m args below meth c H2 locs2 c2 s2 Q (F0 m 1063 ls2 [])) : W p l e room_1 s m args below meth c H locs cells slots Q (F0 m 116 ls []) := by
  obtain ⟨hx, hb, hml, hown, hall, hX, hbl, hbA, hA, hn, hLs⟩ := C0
  obtain ⟨hw, hc0, hSt, hR, hl, rfl, rfl⟩ := S0
  obtain ⟨o, h2, r, hev, k1, hout, ⟨d2, f2, ev2⟩, k2, ⟨d3, f3, ev3⟩, hj⟩ := hp
  obtain ⟨d1, f1, ev1⟩ := id hev
  have m1 := ev_m_c _ _ _ _ _ _ ev1
  have m2 : hp_c o.2 ≤ hp_c h2 ∧ hp_s o.2 ≤ hp_s h2 := ev_m_c _ _ _ _ _ _ ev2
  have m3 := hJ h2 hj
  refine lv_aload_n hx hb dl_116 rfl (lv_at hl 1 rfl) ?_
  refine lq_arg hx hb hX hbl hbA hSt (lv_at hl 0 rfl) (lv_at hl 4 rfl) hLs 1 (by omega) (by decide) dl_117 dl_118 dl_120 dl_121 dl_122 ?_
  refine lq_arg hx hb hX hbl hbA hSt (lv_at hl 0 rfl) (lv_at hl 4 rfl) hLs 2 (by omega) (by decide) dl_123 dl_124 dl_126 dl_127 dl_128 ?_
  refine lq_arg hx hb hX hbl hbA hSt (lv_at hl 0 rfl) (lv_at hl 4 rfl) hLs 3 (by omega) (by decide) dl_129 dl_130 dl_132 dl_133 dl_134 ?_
  refine sw_stat (k := 47) (as := [.ref a0, .int (xs (i + 1)), .int (xs (i + 2)), .int (xs (i + 3))]) (rest := []) hx hb hml hown (wo_port hlt D hev hk0 hq0 k1 (mc := hp_c o.2 - hp_c h) (ms := hp_s o.2 - hp_s h) (by omega) (by omega) hout) hall wy_266 wy_264 wy_265 wy_0 ⟨by decide +kernel, by decide +kernel, by show (parseMethodDescriptor yw_port.desc).map (fun d => d.parameters.length) = some 4; decide +kernel⟩ (by decide) (by decide) hw hc0 hSt hA hR hn hl.1 (Nat.le_of_ble_eq_true rfl) dl_135 (by show _ ≤ 601024; omega) (by show _ ≤ 7293034; omega) (fun f9 H1 locs1 hg1 hw1 hc1 hS1 hR1 => ?_)
  refine lv_istore hx hb dl_138 hl (by decide) rfl (fun ls1 hl1 => ?_)
  replace hl : lv_has ls1 7 [(0, .ref b), (1, .ref a0), (2, .ref a2), (3, .ref qo), (4, .int (nI i)), (5, .int r)] := lv_sub hl1 [1, 2, 3, 4, 5, 0] rfl
  replace hSt := hS1
  refine lv_aload_n hx hb dl_140 rfl (lv_at hl 2 rfl) ?_
  refine lq_arg hx hb hX hbl hbA hSt (lv_at hl 0 rfl) (lv_at hl 4 rfl) hLs 1 (by omega) (by decide) dl_141 dl_142 dl_144 dl_145 dl_146 ?_
  refine lq_arg hx hb hX hbl hbA hSt (lv_at hl 0 rfl) (lv_at hl 4 rfl) hLs 2 (by omega) (by decide) dl_147 dl_148 dl_150 dl_151 dl_152 ?_
  refine lq_arg hx hb hX hbl hbA hSt (lv_at hl 0 rfl) (lv_at hl 4 rfl) hLs 3 (by omega) (by decide) dl_153 dl_154 dl_156 dl_157 dl_158 ?_
  refine sw_ret hlt (AsC := [.int (xs (i + 1)), .int (xs (i + 2)), .int (xs (i + 3))]) (K := []) ev2 rfl hx hb hml hown hall (sw_good2 mt_77.2.2.1) (hall _ wy_890) mt_77 hall (by decide) (by decide) hw1 hS1 hA hR1 (by unfold hp_k at hk5 ⊢; rw [k1]; exact hk5) hq5 ⟨rfl, rfl, rfl, trivial⟩ rfl hl.1 (Nat.le_of_ble_eq_true rfl) dl_159 (by show _ ≤ 601024; omega) (by show _ ≤ 7293034; omega) (fun w z H2 locs2 hw2 hS2 hr2 hz2 hkk2 hR2 => ?_)
  cases sw_z hw1 hw2 (k2.trans k1.symm)
  rw [List.append_nil] at hw2 hr2
  have hc2 := sw_ck hc1 hkk2
  cases w with
  | some w => exact False.elim hr2
  | none =>
    refine W.eq (g2 := F0 m 162 ls1 []) rfl ?_
    refine lv_aload_n hx hb dl_162 rfl (lv_at hl 2 rfl) ?_
    refine sw_ret hlt (AsC := []) (K := []) ev3 rfl hx hb hml hown hall (sw_good2 mt_74.2.2.1) (hall _ wy_886) mt_74 hall (by decide) (by decide) hw2 hS2 hA hR2 (by unfold hp_k at hk5 ⊢; rw [k2]; exact hk5) hq5 trivial rfl hl.1 (Nat.le_of_ble_eq_true rfl) dl_163 (by show _ ≤ 601024; omega) (by show _ ≤ 7293034; omega) (fun w z H3 locs3 hw3 hS3 hr3 hz3 hkk3 hR3 => ?_)
    cases sw_z hw2 hw3 rfl
    rw [List.append_nil] at hw3 hr3
    have hc3 := sw_ck hc2 hkk3
    cases w with
    | none => exact False.elim hr3
    | some w =>
      have e3 : w = .int r := hr3.1
      subst e3
      refine W.eq (g2 := F0 m 166 ls1 [.int r]) rfl ?_
      refine lv_iload hx hb dl_166 (lv_at hl 5 rfl) ?_
      refine lv_icmp_eq (tgt := 173) hx hb dl_168 (by decide) (fun _ => ?_) (fun h9 => absurd rfl h9)
      refine lv_goto (tgt := 1063) hx hb dl_173 (by decide) ?_
      exact kk h2 f9 H3 locs3 ls1 _ _ hj k2 ⟨hw3, hc3, hS3, hR3, lv_sub hl [0, 1, 2, 3, 4] rfl, by omega, by omega⟩
set_option maxHeartbeats 4000000 in
set_option maxRecDepth 100000 in
theorem lc_up (hlt : l.stackTraces = false) (C0 : lq_C p s m args c A b L xs) (hJ : lq_H J) (hk0 : hp_k h 0 = some (7, 0)) (hk5 : hp_k h 52 = some (8, 0)) (hq0 : ad[0]? = some a0) (hq5 : ad[52]? = some a2) (hi : i + 6 ≤ L) (hp : pu_i true 48 78 cd_up [.int (xs (i + 1)), .int (if xs (i + 2) = 0 then 0 else 1)] h J) (S0 : lq_S D A ad h f b a0 a2 qo i s H locs ls cells slots)
    (kk : ∀ (h2 : hp_T) (f2 : Nat → Int64) (H2 : Heap) (locs2 : List Loc) (ls2 : Array Slot) (c2 s2 : Nat), J h2 → h2.1 = h.1 → lq_S D A ad h2 f2 b a0 a2 qo i s H2 locs2 ls2 c2 s2 → W p l e room_1 s m args below meth c H2 locs2 c2 s2 Q (F0 m 1063 ls2 [])) : W p l e room_1 s m args below meth c H locs cells slots Q (F0 m 176 ls []) := by
  obtain ⟨hx, hb, hml, hown, hall, hX, hbl, hbA, hA, hn, hLs⟩ := C0
  obtain ⟨hw, hc0, hSt, hR, hl, rfl, rfl⟩ := S0
  obtain ⟨o, h2, r, bv, hev, k1, hout, ⟨d2, f2, ev2⟩, k2, ⟨d3, f3, ev3⟩, hj⟩ := hp
  obtain ⟨d1, f1, ev1⟩ := id hev
  have m1 := ev_m_c _ _ _ _ _ _ ev1
  have m2 : hp_c o.2 ≤ hp_c h2 ∧ hp_s o.2 ≤ hp_s h2 := ev_m_c _ _ _ _ _ _ ev2
  have m3 := hJ h2 hj
  refine lv_aload_n hx hb dl_176 rfl (lv_at hl 1 rfl) ?_
  refine lq_arg hx hb hX hbl hbA hSt (lv_at hl 0 rfl) (lv_at hl 4 rfl) hLs 1 (by omega) (by decide) dl_177 dl_178 dl_180 dl_181 dl_182 ?_
  refine lq_arg hx hb hX hbl hbA hSt (lv_at hl 0 rfl) (lv_at hl 4 rfl) hLs 2 (by omega) (by decide) dl_183 dl_184 dl_186 dl_187 dl_188 ?_
  refine lq_bool hx hb dl_189 dl_192 dl_193 dl_196 ?_
  refine lv_aload_n hx hb dl_197 rfl (lv_at hl 3 rfl) ?_
  refine sw_stat (k := 48) (as := [.ref a0, .int (xs (i + 1)), .int (if xs (i + 2) = 0 then 0 else 1), .ref qo]) (rest := []) hx hb hml hown (wo_up hlt D hev hk0 hq0 k1 (mc := hp_c o.2 - hp_c h) (ms := hp_s o.2 - hp_s h) (by omega) (by omega) (hout.imp (fun h9 => ⟨h9.1, h9.2.1, h9.2.2 rfl⟩) id)) hall wy_363 wy_361 wy_362 wy_0 ⟨by decide +kernel, by decide +kernel, by show (parseMethodDescriptor yw_up.desc).map (fun d => d.parameters.length) = some 4; decide +kernel⟩ (by decide) (by decide) hw hc0 hSt hA hR hn hl.1 (Nat.le_of_ble_eq_true rfl) dl_198 (by show _ ≤ 601024; omega) (by show _ ≤ 7293034; omega) (fun f9 H1 locs1 hg1 hw1 hc1 hS1 hR1 => ?_)
  refine lv_istore hx hb dl_201 hl (by decide) rfl (fun ls1 hl1 => ?_)
  replace hl : lv_has ls1 7 [(0, .ref b), (1, .ref a0), (2, .ref a2), (3, .ref qo), (4, .int (nI i)), (5, .int r)] := lv_sub hl1 [1, 2, 3, 4, 5, 0] rfl
  replace hSt := hS1
  refine lv_aload_n hx hb dl_203 rfl (lv_at hl 2 rfl) ?_
  refine lq_arg hx hb hX hbl hbA hSt (lv_at hl 0 rfl) (lv_at hl 4 rfl) hLs 1 (by omega) (by decide) dl_204 dl_205 dl_207 dl_208 dl_209 ?_
  refine lq_arg hx hb hX hbl hbA hSt (lv_at hl 0 rfl) (lv_at hl 4 rfl) hLs 2 (by omega) (by decide) dl_210 dl_211 dl_213 dl_214 dl_215 ?_
  refine lq_bool hx hb dl_216 dl_219 dl_220 dl_223 ?_
  refine sw_ret hlt (AsC := [.int (xs (i + 1)), .int (if xs (i + 2) = 0 then 0 else 1)]) (K := []) ev2 rfl hx hb hml hown hall (sw_good2 mt_78.2.2.1) (hall _ wy_901) mt_78 hall (by decide) (by decide) hw1 hS1 hA hR1 (by unfold hp_k at hk5 ⊢; rw [k1]; exact hk5) hq5 ⟨rfl, rfl, trivial⟩ rfl hl.1 (Nat.le_of_ble_eq_true rfl) dl_224 (by show _ ≤ 601024; omega) (by show _ ≤ 7293034; omega) (fun w z H2 locs2 hw2 hS2 hr2 hz2 hkk2 hR2 => ?_)
  cases sw_z hw1 hw2 (k2.trans k1.symm)
  rw [List.append_nil] at hw2 hr2
  have hc2 := sw_ck hc1 hkk2
  cases w with
  | none => exact False.elim hr2
  | some w =>
    have e1 : w = .int bv := hr2.1
    subst e1
    refine W.eq (g2 := F0 m 227 ls1 [.int bv]) rfl ?_
    refine lv_istore hx hb dl_227 hl (by decide) rfl (fun ls2 hl2 => ?_)
    replace hl : lv_has ls2 7 [(0, .ref b), (1, .ref a0), (2, .ref a2), (3, .ref qo), (4, .int (nI i)), (5, .int r), (6, .int bv)] := lv_sub hl2 [1, 2, 3, 4, 5, 6, 0] rfl
    refine lv_aload_n hx hb dl_229 rfl (lv_at hl 2 rfl) ?_
    refine sw_ret hlt (AsC := []) (K := []) ev3 rfl hx hb hml hown hall (sw_good2 mt_74.2.2.1) (hall _ wy_886) mt_74 hall (by decide) (by decide) hw2 hS2 hA hR2 (by unfold hp_k at hk5 ⊢; rw [k2]; exact hk5) hq5 trivial rfl hl.1 (Nat.le_of_ble_eq_true rfl) dl_230 (by show _ ≤ 601024; omega) (by show _ ≤ 7293034; omega) (fun w z H3 locs3 hw3 hS3 hr3 hz3 hkk3 hR3 => ?_)
    cases sw_z hw2 hw3 rfl
    rw [List.append_nil] at hw3 hr3
    have hc3 := sw_ck hc2 hkk3
    cases w with
    | none => exact False.elim hr3
    | some w =>
      have e3 : w = .int r := hr3.1
      subst e3
      refine W.eq (g2 := F0 m 233 ls2 [.int r]) rfl ?_
      refine lv_iload hx hb dl_233 (lv_at hl 5 rfl) ?_
      refine lv_icmp_eq (tgt := 240) hx hb dl_235 (by decide) (fun _ => ?_) (fun h9 => absurd rfl h9)
      refine lv_iload hx hb dl_240 (lv_at hl 5 rfl) ?_
      refine lv_if_ne (tgt := 264) hx hb dl_242 (by decide) (fun _ => ?_) (fun h9 => ?_)
      · refine lv_goto (tgt := 1063) hx hb dl_264 (by decide) ?_
        exact kk h2 f9 H3 locs3 ls2 _ _ hj k2 ⟨hw3, hc3, hS3, hR3, lv_sub hl [0, 1, 2, 3, 4] rfl, by omega, by omega⟩
      · have hf0 := hg1 h9
        refine lv_aload_n hx hb dl_245 rfl (lv_at hl 3 rfl) ?_
        refine lv_iconst (v := 0) hx hb dl_246 (by decide) ?_
        refine sw_lald hx hb hc3 dl_247 ?_
        rw [hf0]
        refine lv_iload hx hb dl_248 (lv_at hl 6 rfl) ?_
        have hbb : bv = 0 ∨ bv = 1 := by
          rcases hout with h8 | ⟨q9, h8, h7⟩
          · exact h8.2.2 rfl
          · subst h9
            unfold cd_up at h7
            split at h7 <;> cases h7
        refine lv_if_eq (tgt := 257) hx hb dl_250 (by decide) (fun h8 => ?_) (fun h8 => ?_)
        · subst h8
          refine lv_lconst (v := 0) hx hb dl_257 (by decide) ?_
          refine W.lcmp hx hb dl_258 ?_
          refine lv_if_eq (tgt := 264) hx hb dl_259 (by decide) (fun _ => ?_) (fun h8 => absurd (lg_same _) h8)
          refine lv_goto (tgt := 1063) hx hb dl_264 (by decide) ?_
          exact kk h2 f9 H3 locs3 ls2 _ _ hj k2 ⟨hw3, hc3, hS3, hR3, lv_sub hl [0, 1, 2, 3, 4] rfl, by omega, by omega⟩
        · have h6 : bv = 1 := hbb.resolve_left h8
          subst h6
          refine lv_lconst (v := 1) hx hb dl_253 (by decide) ?_
          refine lv_goto (tgt := 258) hx hb dl_254 (by decide) ?_
          refine W.lcmp hx hb dl_258 ?_
          refine lv_if_eq (tgt := 264) hx hb dl_259 (by decide) (fun _ => ?_) (fun h8 => absurd (lg_same _) h8)
          refine lv_goto (tgt := 1063) hx hb dl_264 (by decide) ?_
          exact kk h2 f9 H3 locs3 ls2 _ _ hj k2 ⟨hw3, hc3, hS3, hR3, lv_sub hl [0, 1, 2, 3, 4] rfl, by omega, by omega⟩
set_option maxHeartbeats 4000000 in
set_option maxRecDepth 100000 in
theorem lc_route (hlt : l.stackTraces = false) (C0 : lq_C p s m args c A b L xs) (hJ : lq_H J) (hk0 : hp_k h 0 = some (7, 0)) (hk5 : hp_k h 52 = some (8, 0)) (hq0 : ad[0]? = some a0) (hq5 : ad[52]? = some a2) (hi : i + 6 ≤ L) (hp : pu_i false 49 81 cd_route [.int (xs (i + 1)), .int (xs (i + 2)), .int (xs (i + 3)), .int (xs (i + 4))] h J) (S0 : lq_S D A ad h f b a0 a2 qo i s H locs ls cells slots)
    (kk : ∀ (h2 : hp_T) (f2 : Nat → Int64) (H2 : Heap) (locs2 : List Loc) (ls2 : Array Slot) (c2 s2 : Nat), J h2 → h2.1 = h.1 → lq_S D A ad h2 f2 b a0 a2 qo i s H2 locs2 ls2 c2 s2 → W p l e room_1 s m args below meth c H2 locs2 c2 s2 Q (F0 m 1063 ls2 [])) : W p l e room_1 s m args below meth c H locs cells slots Q (F0 m 267 ls []) := by
  obtain ⟨hx, hb, hml, hown, hall, hX, hbl, hbA, hA, hn, hLs⟩ := C0
  obtain ⟨hw, hc0, hSt, hR, hl, rfl, rfl⟩ := S0
  obtain ⟨o, h2, r, bv, hev, k1, hout, ⟨d2, f2, ev2⟩, k2, ⟨d3, f3, ev3⟩, hj⟩ := hp
  obtain ⟨d1, f1, ev1⟩ := id hev
  have m1 := ev_m_c _ _ _ _ _ _ ev1
  have m2 : hp_c o.2 ≤ hp_c h2 ∧ hp_s o.2 ≤ hp_s h2 := ev_m_c _ _ _ _ _ _ ev2
  have m3 := hJ h2 hj
  refine lv_aload_n hx hb dl_267 rfl (lv_at hl 1 rfl) ?_
  refine lq_arg hx hb hX hbl hbA hSt (lv_at hl 0 rfl) (lv_at hl 4 rfl) hLs 1 (by omega) (by decide) dl_268 dl_269 dl_271 dl_272 dl_273 ?_
  refine lq_arg hx hb hX hbl hbA hSt (lv_at hl 0 rfl) (lv_at hl 4 rfl) hLs 2 (by omega) (by decide) dl_274 dl_275 dl_277 dl_278 dl_279 ?_
  refine lq_arg hx hb hX hbl hbA hSt (lv_at hl 0 rfl) (lv_at hl 4 rfl) hLs 3 (by omega) (by decide) dl_280 dl_281 dl_283 dl_284 dl_285 ?_
  refine lq_arg hx hb hX hbl hbA hSt (lv_at hl 0 rfl) (lv_at hl 4 rfl) hLs 4 (by omega) (by decide) dl_286 dl_287 dl_289 dl_290 dl_291 ?_
  refine lv_aload_n hx hb dl_292 rfl (lv_at hl 3 rfl) ?_
  refine sw_stat (k := 49) (as := [.ref a0, .int (xs (i + 1)), .int (xs (i + 2)), .int (xs (i + 3)), .int (xs (i + 4)), .ref qo]) (rest := []) hx hb hml hown (wo_route hlt D hev hk0 hq0 k1 (mc := hp_c o.2 - hp_c h) (ms := hp_s o.2 - hp_s h) (by omega) (by omega) (hout.imp (fun h9 => ⟨h9.1, h9.2.1⟩) id)) hall wy_370 wy_368 wy_369 wy_0 ⟨by decide +kernel, by decide +kernel, by show (parseMethodDescriptor yw_route.desc).map (fun d => d.parameters.length) = some 6; decide +kernel⟩ (by decide) (by decide) hw hc0 hSt hA hR hn hl.1 (Nat.le_of_ble_eq_true rfl) dl_293 (by show _ ≤ 601024; omega) (by show _ ≤ 7293034; omega) (fun f9 H1 locs1 hg1 hw1 hc1 hS1 hR1 => ?_)
  refine lv_istore hx hb dl_296 hl (by decide) rfl (fun ls1 hl1 => ?_)
  replace hl : lv_has ls1 7 [(0, .ref b), (1, .ref a0), (2, .ref a2), (3, .ref qo), (4, .int (nI i)), (5, .int r)] := lv_sub hl1 [1, 2, 3, 4, 5, 0] rfl
  replace hSt := hS1
  refine lv_aload_n hx hb dl_298 rfl (lv_at hl 2 rfl) ?_
  refine lq_arg hx hb hX hbl hbA hSt (lv_at hl 0 rfl) (lv_at hl 4 rfl) hLs 1 (by omega) (by decide) dl_299 dl_300 dl_302 dl_303 dl_304 ?_
  refine lq_arg hx hb hX hbl hbA hSt (lv_at hl 0 rfl) (lv_at hl 4 rfl) hLs 2 (by omega) (by decide) dl_305 dl_306 dl_308 dl_309 dl_310 ?_
  refine lq_arg hx hb hX hbl hbA hSt (lv_at hl 0 rfl) (lv_at hl 4 rfl) hLs 3 (by omega) (by decide) dl_311 dl_312 dl_314 dl_315 dl_316 ?_
  refine lq_arg hx hb hX hbl hbA hSt (lv_at hl 0 rfl) (lv_at hl 4 rfl) hLs 4 (by omega) (by decide) dl_317 dl_318 dl_320 dl_321 dl_322 ?_
  refine sw_ret hlt (AsC := [.int (xs (i + 1)), .int (xs (i + 2)), .int (xs (i + 3)), .int (xs (i + 4))]) (K := []) ev2 rfl hx hb hml hown hall (sw_good2 mt_81.2.2.1) (hall _ wy_905) mt_81 hall (by decide) (by decide) hw1 hS1 hA hR1 (by unfold hp_k at hk5 ⊢; rw [k1]; exact hk5) hq5 ⟨rfl, rfl, rfl, rfl, trivial⟩ rfl hl.1 (Nat.le_of_ble_eq_true rfl) dl_323 (by show _ ≤ 601024; omega) (by show _ ≤ 7293034; omega) (fun w z H2 locs2 hw2 hS2 hr2 hz2 hkk2 hR2 => ?_)
  cases sw_z hw1 hw2 (k2.trans k1.symm)
  rw [List.append_nil] at hw2 hr2
  have hc2 := sw_ck hc1 hkk2
  cases w with
  | none => exact False.elim hr2
  | some w =>
    have e1 : w = .int bv := hr2.1
    subst e1
    refine W.eq (g2 := F0 m 326 ls1 [.int bv]) rfl ?_
    refine lv_istore hx hb dl_326 hl (by decide) rfl (fun ls2 hl2 => ?_)
    replace hl : lv_has ls2 7 [(0, .ref b), (1, .ref a0), (2, .ref a2), (3, .ref qo), (4, .int (nI i)), (5, .int r), (6, .int bv)] := lv_sub hl2 [1, 2, 3, 4, 5, 6, 0] rfl
    refine lv_aload_n hx hb dl_328 rfl (lv_at hl 2 rfl) ?_
    refine sw_ret hlt (AsC := []) (K := []) ev3 rfl hx hb hml hown hall (sw_good2 mt_74.2.2.1) (hall _ wy_886) mt_74 hall (by decide) (by decide) hw2 hS2 hA hR2 (by unfold hp_k at hk5 ⊢; rw [k2]; exact hk5) hq5 trivial rfl hl.1 (Nat.le_of_ble_eq_true rfl) dl_329 (by show _ ≤ 601024; omega) (by show _ ≤ 7293034; omega) (fun w z H3 locs3 hw3 hS3 hr3 hz3 hkk3 hR3 => ?_)
    cases sw_z hw2 hw3 rfl
    rw [List.append_nil] at hw3 hr3
    have hc3 := sw_ck hc2 hkk3
    cases w with
    | none => exact False.elim hr3
    | some w =>
      have e3 : w = .int r := hr3.1
      subst e3
      refine W.eq (g2 := F0 m 332 ls2 [.int r]) rfl ?_
      refine lv_iload hx hb dl_332 (lv_at hl 5 rfl) ?_
      refine lv_icmp_eq (tgt := 339) hx hb dl_334 (by decide) (fun _ => ?_) (fun h9 => absurd rfl h9)
      refine lv_iload hx hb dl_339 (lv_at hl 5 rfl) ?_
      refine lv_if_ne (tgt := 356) hx hb dl_341 (by decide) (fun _ => ?_) (fun h9 => ?_)
      · refine lv_goto (tgt := 1063) hx hb dl_356 (by decide) ?_
        exact kk h2 f9 H3 locs3 ls2 _ _ hj k2 ⟨hw3, hc3, hS3, hR3, lv_sub hl [0, 1, 2, 3, 4] rfl, by omega, by omega⟩
      · have hf0 := hg1 h9
        refine lv_aload_n hx hb dl_344 rfl (lv_at hl 3 rfl) ?_
        refine lv_iconst (v := 0) hx hb dl_345 (by decide) ?_
        refine sw_lald hx hb hc3 dl_346 ?_
        rw [hf0]
        refine lv_iload hx hb dl_347 (lv_at hl 6 rfl) ?_
        refine lv_i2l hx hb dl_349 rfl ?_
        refine W.lcmp hx hb dl_350 ?_
        refine lv_if_eq (tgt := 356) hx hb dl_351 (by decide) (fun _ => ?_) (fun h8 => absurd (lg_same _) h8)
        refine lv_goto (tgt := 1063) hx hb dl_356 (by decide) ?_
        exact kk h2 f9 H3 locs3 ls2 _ _ hj k2 ⟨hw3, hc3, hS3, hR3, lv_sub hl [0, 1, 2, 3, 4] rfl, by omega, by omega⟩
set_option maxHeartbeats 4000000 in
set_option maxRecDepth 100000 in
theorem lc_unroute (hlt : l.stackTraces = false) (C0 : lq_C p s m args c A b L xs) (hJ : lq_H J) (hk0 : hp_k h 0 = some (7, 0)) (hk5 : hp_k h 52 = some (8, 0)) (hq0 : ad[0]? = some a0) (hq5 : ad[52]? = some a2) (hi : i + 6 ≤ L) (hp : pu_i true 50 82 cd_unroute [.int (xs (i + 1)), .int (xs (i + 2))] h J) (S0 : lq_S D A ad h f b a0 a2 qo i s H locs ls cells slots)
    (kk : ∀ (h2 : hp_T) (f2 : Nat → Int64) (H2 : Heap) (locs2 : List Loc) (ls2 : Array Slot) (c2 s2 : Nat), J h2 → h2.1 = h.1 → lq_S D A ad h2 f2 b a0 a2 qo i s H2 locs2 ls2 c2 s2 → W p l e room_1 s m args below meth c H2 locs2 c2 s2 Q (F0 m 1063 ls2 [])) : W p l e room_1 s m args below meth c H locs cells slots Q (F0 m 359 ls []) := by
  obtain ⟨hx, hb, hml, hown, hall, hX, hbl, hbA, hA, hn, hLs⟩ := C0
  obtain ⟨hw, hc0, hSt, hR, hl, rfl, rfl⟩ := S0
  obtain ⟨o, h2, r, bv, hev, k1, hout, ⟨d2, f2, ev2⟩, k2, ⟨d3, f3, ev3⟩, hj⟩ := hp
  obtain ⟨d1, f1, ev1⟩ := id hev
  have m1 := ev_m_c _ _ _ _ _ _ ev1
  have m2 : hp_c o.2 ≤ hp_c h2 ∧ hp_s o.2 ≤ hp_s h2 := ev_m_c _ _ _ _ _ _ ev2
  have m3 := hJ h2 hj
  refine lv_aload_n hx hb dl_359 rfl (lv_at hl 1 rfl) ?_
  refine lq_arg hx hb hX hbl hbA hSt (lv_at hl 0 rfl) (lv_at hl 4 rfl) hLs 1 (by omega) (by decide) dl_360 dl_361 dl_363 dl_364 dl_365 ?_
  refine lq_arg hx hb hX hbl hbA hSt (lv_at hl 0 rfl) (lv_at hl 4 rfl) hLs 2 (by omega) (by decide) dl_366 dl_367 dl_369 dl_370 dl_371 ?_
  refine lv_aload_n hx hb dl_372 rfl (lv_at hl 3 rfl) ?_
  refine sw_stat (k := 50) (as := [.ref a0, .int (xs (i + 1)), .int (xs (i + 2)), .ref qo]) (rest := []) hx hb hml hown (wo_unroute hlt D hev hk0 hq0 k1 (mc := hp_c o.2 - hp_c h) (ms := hp_s o.2 - hp_s h) (by omega) (by omega) (hout.imp (fun h9 => ⟨h9.1, h9.2.1, h9.2.2 rfl⟩) id)) hall wy_410 wy_408 wy_409 wy_0 ⟨by decide +kernel, by decide +kernel, by show (parseMethodDescriptor yw_unroute.desc).map (fun d => d.parameters.length) = some 4; decide +kernel⟩ (by decide) (by decide) hw hc0 hSt hA hR hn hl.1 (Nat.le_of_ble_eq_true rfl) dl_373 (by show _ ≤ 601024; omega) (by show _ ≤ 7293034; omega) (fun f9 H1 locs1 hg1 hw1 hc1 hS1 hR1 => ?_)
  refine lv_istore hx hb dl_376 hl (by decide) rfl (fun ls1 hl1 => ?_)
  replace hl : lv_has ls1 7 [(0, .ref b), (1, .ref a0), (2, .ref a2), (3, .ref qo), (4, .int (nI i)), (5, .int r)] := lv_sub hl1 [1, 2, 3, 4, 5, 0] rfl
  replace hSt := hS1
  refine lv_aload_n hx hb dl_378 rfl (lv_at hl 2 rfl) ?_
  refine lq_arg hx hb hX hbl hbA hSt (lv_at hl 0 rfl) (lv_at hl 4 rfl) hLs 1 (by omega) (by decide) dl_379 dl_380 dl_382 dl_383 dl_384 ?_
  refine lq_arg hx hb hX hbl hbA hSt (lv_at hl 0 rfl) (lv_at hl 4 rfl) hLs 2 (by omega) (by decide) dl_385 dl_386 dl_388 dl_389 dl_390 ?_
  refine sw_ret hlt (AsC := [.int (xs (i + 1)), .int (xs (i + 2))]) (K := []) ev2 rfl hx hb hml hown hall (sw_good2 mt_82.2.2.1) (hall _ wy_916) mt_82 hall (by decide) (by decide) hw1 hS1 hA hR1 (by unfold hp_k at hk5 ⊢; rw [k1]; exact hk5) hq5 ⟨rfl, rfl, trivial⟩ rfl hl.1 (Nat.le_of_ble_eq_true rfl) dl_391 (by show _ ≤ 601024; omega) (by show _ ≤ 7293034; omega) (fun w z H2 locs2 hw2 hS2 hr2 hz2 hkk2 hR2 => ?_)
  cases sw_z hw1 hw2 (k2.trans k1.symm)
  rw [List.append_nil] at hw2 hr2
  have hc2 := sw_ck hc1 hkk2
  cases w with
  | none => exact False.elim hr2
  | some w =>
    have e1 : w = .int bv := hr2.1
    subst e1
    refine W.eq (g2 := F0 m 394 ls1 [.int bv]) rfl ?_
    refine lv_istore hx hb dl_394 hl (by decide) rfl (fun ls2 hl2 => ?_)
    replace hl : lv_has ls2 7 [(0, .ref b), (1, .ref a0), (2, .ref a2), (3, .ref qo), (4, .int (nI i)), (5, .int r), (6, .int bv)] := lv_sub hl2 [1, 2, 3, 4, 5, 6, 0] rfl
    refine lv_aload_n hx hb dl_396 rfl (lv_at hl 2 rfl) ?_
    refine sw_ret hlt (AsC := []) (K := []) ev3 rfl hx hb hml hown hall (sw_good2 mt_74.2.2.1) (hall _ wy_886) mt_74 hall (by decide) (by decide) hw2 hS2 hA hR2 (by unfold hp_k at hk5 ⊢; rw [k2]; exact hk5) hq5 trivial rfl hl.1 (Nat.le_of_ble_eq_true rfl) dl_397 (by show _ ≤ 601024; omega) (by show _ ≤ 7293034; omega) (fun w z H3 locs3 hw3 hS3 hr3 hz3 hkk3 hR3 => ?_)
    cases sw_z hw2 hw3 rfl
    rw [List.append_nil] at hw3 hr3
    have hc3 := sw_ck hc2 hkk3
    cases w with
    | none => exact False.elim hr3
    | some w =>
      have e3 : w = .int r := hr3.1
      subst e3
      refine W.eq (g2 := F0 m 400 ls2 [.int r]) rfl ?_
      refine lv_iload hx hb dl_400 (lv_at hl 5 rfl) ?_
      refine lv_icmp_eq (tgt := 407) hx hb dl_402 (by decide) (fun _ => ?_) (fun h9 => absurd rfl h9)
      refine lv_iload hx hb dl_407 (lv_at hl 5 rfl) ?_
      refine lv_if_ne (tgt := 431) hx hb dl_409 (by decide) (fun _ => ?_) (fun h9 => ?_)
      · refine lv_goto (tgt := 1063) hx hb dl_431 (by decide) ?_
        exact kk h2 f9 H3 locs3 ls2 _ _ hj k2 ⟨hw3, hc3, hS3, hR3, lv_sub hl [0, 1, 2, 3, 4] rfl, by omega, by omega⟩
      · have hf0 := hg1 h9
        refine lv_aload_n hx hb dl_412 rfl (lv_at hl 3 rfl) ?_
        refine lv_iconst (v := 0) hx hb dl_413 (by decide) ?_
        refine sw_lald hx hb hc3 dl_414 ?_
        rw [hf0]
        refine lv_iload hx hb dl_415 (lv_at hl 6 rfl) ?_
        have hbb : bv = 0 ∨ bv = 1 := by
          rcases hout with h8 | ⟨q9, h8, h7⟩
          · exact h8.2.2 rfl
          · subst h9
            unfold cd_unroute at h7
            split at h7 <;> cases h7
        refine lv_if_eq (tgt := 424) hx hb dl_417 (by decide) (fun h8 => ?_) (fun h8 => ?_)
        · subst h8
          refine lv_lconst (v := 0) hx hb dl_424 (by decide) ?_
          refine W.lcmp hx hb dl_425 ?_
          refine lv_if_eq (tgt := 431) hx hb dl_426 (by decide) (fun _ => ?_) (fun h8 => absurd (lg_same _) h8)
          refine lv_goto (tgt := 1063) hx hb dl_431 (by decide) ?_
          exact kk h2 f9 H3 locs3 ls2 _ _ hj k2 ⟨hw3, hc3, hS3, hR3, lv_sub hl [0, 1, 2, 3, 4] rfl, by omega, by omega⟩
        · have h6 : bv = 1 := hbb.resolve_left h8
          subst h6
          refine lv_lconst (v := 1) hx hb dl_420 (by decide) ?_
          refine lv_goto (tgt := 425) hx hb dl_421 (by decide) ?_
          refine W.lcmp hx hb dl_425 ?_
          refine lv_if_eq (tgt := 431) hx hb dl_426 (by decide) (fun _ => ?_) (fun h8 => absurd (lg_same _) h8)
          refine lv_goto (tgt := 1063) hx hb dl_431 (by decide) ?_
          exact kk h2 f9 H3 locs3 ls2 _ _ hj k2 ⟨hw3, hc3, hS3, hR3, lv_sub hl [0, 1, 2, 3, 4] rfl, by omega, by omega⟩
set_option maxHeartbeats 4000000 in
set_option maxRecDepth 100000 in
theorem lc_lookup (hlt : l.stackTraces = false) (C0 : lq_C p s m args c A b L xs) (hJ : lq_H J) (hk0 : hp_k h 0 = some (7, 0)) (hk5 : hp_k h 52 = some (8, 0)) (hq0 : ad[0]? = some a0) (hq5 : ad[52]? = some a2) (hi : i + 6 ≤ L) (hp : pu_i false 51 84 cd_lookup [.int (xs (i + 1)), .int (xs (i + 2))] h J) (S0 : lq_S D A ad h f b a0 a2 qo i s H locs ls cells slots)
    (kk : ∀ (h2 : hp_T) (f2 : Nat → Int64) (H2 : Heap) (locs2 : List Loc) (ls2 : Array Slot) (c2 s2 : Nat), J h2 → h2.1 = h.1 → lq_S D A ad h2 f2 b a0 a2 qo i s H2 locs2 ls2 c2 s2 → W p l e room_1 s m args below meth c H2 locs2 c2 s2 Q (F0 m 1063 ls2 [])) : W p l e room_1 s m args below meth c H locs cells slots Q (F0 m 434 ls []) := by
  obtain ⟨hx, hb, hml, hown, hall, hX, hbl, hbA, hA, hn, hLs⟩ := C0
  obtain ⟨hw, hc0, hSt, hR, hl, rfl, rfl⟩ := S0
  obtain ⟨o, h2, r, bv, hev, k1, hout, ⟨d2, f2, ev2⟩, k2, ⟨d3, f3, ev3⟩, hj⟩ := hp
  obtain ⟨d1, f1, ev1⟩ := id hev
  have m1 := ev_m_c _ _ _ _ _ _ ev1
  have m2 : hp_c o.2 ≤ hp_c h2 ∧ hp_s o.2 ≤ hp_s h2 := ev_m_c _ _ _ _ _ _ ev2
  have m3 := hJ h2 hj
  refine lv_aload_n hx hb dl_434 rfl (lv_at hl 1 rfl) ?_
  refine lq_arg hx hb hX hbl hbA hSt (lv_at hl 0 rfl) (lv_at hl 4 rfl) hLs 1 (by omega) (by decide) dl_435 dl_436 dl_438 dl_439 dl_440 ?_
  refine lq_arg hx hb hX hbl hbA hSt (lv_at hl 0 rfl) (lv_at hl 4 rfl) hLs 2 (by omega) (by decide) dl_441 dl_442 dl_444 dl_445 dl_446 ?_
  refine lv_aload_n hx hb dl_447 rfl (lv_at hl 3 rfl) ?_
  refine sw_stat (k := 51) (as := [.ref a0, .int (xs (i + 1)), .int (xs (i + 2)), .ref qo]) (rest := []) hx hb hml hown (wo_lookup hlt D hev hk0 hq0 k1 (mc := hp_c o.2 - hp_c h) (ms := hp_s o.2 - hp_s h) (by omega) (by omega) (hout.imp (fun h9 => ⟨h9.1, h9.2.1⟩) id)) hall wy_421 wy_419 wy_420 wy_0 ⟨by decide +kernel, by decide +kernel, by show (parseMethodDescriptor yw_lookup.desc).map (fun d => d.parameters.length) = some 4; decide +kernel⟩ (by decide) (by decide) hw hc0 hSt hA hR hn hl.1 (Nat.le_of_ble_eq_true rfl) dl_448 (by show _ ≤ 601024; omega) (by show _ ≤ 7293034; omega) (fun f9 H1 locs1 hg1 hw1 hc1 hS1 hR1 => ?_)
  refine lv_istore hx hb dl_451 hl (by decide) rfl (fun ls1 hl1 => ?_)
  replace hl : lv_has ls1 7 [(0, .ref b), (1, .ref a0), (2, .ref a2), (3, .ref qo), (4, .int (nI i)), (5, .int r)] := lv_sub hl1 [1, 2, 3, 4, 5, 0] rfl
  replace hSt := hS1
  refine lv_aload_n hx hb dl_453 rfl (lv_at hl 2 rfl) ?_
  refine lq_arg hx hb hX hbl hbA hSt (lv_at hl 0 rfl) (lv_at hl 4 rfl) hLs 1 (by omega) (by decide) dl_454 dl_455 dl_457 dl_458 dl_459 ?_
  refine lq_arg hx hb hX hbl hbA hSt (lv_at hl 0 rfl) (lv_at hl 4 rfl) hLs 2 (by omega) (by decide) dl_460 dl_461 dl_463 dl_464 dl_465 ?_
  refine sw_ret hlt (AsC := [.int (xs (i + 1)), .int (xs (i + 2))]) (K := []) ev2 rfl hx hb hml hown hall (sw_good2 mt_84.2.2.1) (hall _ wy_920) mt_84 hall (by decide) (by decide) hw1 hS1 hA hR1 (by unfold hp_k at hk5 ⊢; rw [k1]; exact hk5) hq5 ⟨rfl, rfl, trivial⟩ rfl hl.1 (Nat.le_of_ble_eq_true rfl) dl_466 (by show _ ≤ 601024; omega) (by show _ ≤ 7293034; omega) (fun w z H2 locs2 hw2 hS2 hr2 hz2 hkk2 hR2 => ?_)
  cases sw_z hw1 hw2 (k2.trans k1.symm)
  rw [List.append_nil] at hw2 hr2
  have hc2 := sw_ck hc1 hkk2
  cases w with
  | none => exact False.elim hr2
  | some w =>
    have e1 : w = .int bv := hr2.1
    subst e1
    refine W.eq (g2 := F0 m 469 ls1 [.int bv]) rfl ?_
    refine lv_istore hx hb dl_469 hl (by decide) rfl (fun ls2 hl2 => ?_)
    replace hl : lv_has ls2 7 [(0, .ref b), (1, .ref a0), (2, .ref a2), (3, .ref qo), (4, .int (nI i)), (5, .int r), (6, .int bv)] := lv_sub hl2 [1, 2, 3, 4, 5, 6, 0] rfl
    refine lv_aload_n hx hb dl_471 rfl (lv_at hl 2 rfl) ?_
    refine sw_ret hlt (AsC := []) (K := []) ev3 rfl hx hb hml hown hall (sw_good2 mt_74.2.2.1) (hall _ wy_886) mt_74 hall (by decide) (by decide) hw2 hS2 hA hR2 (by unfold hp_k at hk5 ⊢; rw [k2]; exact hk5) hq5 trivial rfl hl.1 (Nat.le_of_ble_eq_true rfl) dl_472 (by show _ ≤ 601024; omega) (by show _ ≤ 7293034; omega) (fun w z H3 locs3 hw3 hS3 hr3 hz3 hkk3 hR3 => ?_)
    cases sw_z hw2 hw3 rfl
    rw [List.append_nil] at hw3 hr3
    have hc3 := sw_ck hc2 hkk3
    cases w with
    | none => exact False.elim hr3
    | some w =>
      have e3 : w = .int r := hr3.1
      subst e3
      refine W.eq (g2 := F0 m 475 ls2 [.int r]) rfl ?_
      refine lv_iload hx hb dl_475 (lv_at hl 5 rfl) ?_
      refine lv_icmp_eq (tgt := 482) hx hb dl_477 (by decide) (fun _ => ?_) (fun h9 => absurd rfl h9)
      refine lv_iload hx hb dl_482 (lv_at hl 5 rfl) ?_
      refine lv_if_ne (tgt := 499) hx hb dl_484 (by decide) (fun _ => ?_) (fun h9 => ?_)
      · refine lv_goto (tgt := 1063) hx hb dl_499 (by decide) ?_
        exact kk h2 f9 H3 locs3 ls2 _ _ hj k2 ⟨hw3, hc3, hS3, hR3, lv_sub hl [0, 1, 2, 3, 4] rfl, by omega, by omega⟩
      · have hf0 := hg1 h9
        refine lv_aload_n hx hb dl_487 rfl (lv_at hl 3 rfl) ?_
        refine lv_iconst (v := 0) hx hb dl_488 (by decide) ?_
        refine sw_lald hx hb hc3 dl_489 ?_
        rw [hf0]
        refine lv_iload hx hb dl_490 (lv_at hl 6 rfl) ?_
        refine lv_i2l hx hb dl_492 rfl ?_
        refine W.lcmp hx hb dl_493 ?_
        refine lv_if_eq (tgt := 499) hx hb dl_494 (by decide) (fun _ => ?_) (fun h8 => absurd (lg_same _) h8)
        refine lv_goto (tgt := 1063) hx hb dl_499 (by decide) ?_
        exact kk h2 f9 H3 locs3 ls2 _ _ hj k2 ⟨hw3, hc3, hS3, hR3, lv_sub hl [0, 1, 2, 3, 4] rfl, by omega, by omega⟩
set_option maxHeartbeats 4000000 in
set_option maxRecDepth 100000 in
theorem lc_feed (hlt : l.stackTraces = false) (C0 : lq_C p s m args c A b L xs) (hJ : lq_H J) (hk0 : hp_k h 0 = some (7, 0)) (hk5 : hp_k h 52 = some (8, 0)) (hq0 : ad[0]? = some a0) (hq5 : ad[52]? = some a2) (hi : i + 6 ≤ L) (hp : pu_i false 52 85 cd_feed [.int (xs (i + 1)), .int (xs (i + 2)), .int (xs (i + 3)), .int (xs (i + 4)), .int (xs (i + 5))] h J) (S0 : lq_S D A ad h f b a0 a2 qo i s H locs ls cells slots)
    (kk : ∀ (h2 : hp_T) (f2 : Nat → Int64) (H2 : Heap) (locs2 : List Loc) (ls2 : Array Slot) (c2 s2 : Nat), J h2 → h2.1 = h.1 → lq_S D A ad h2 f2 b a0 a2 qo i s H2 locs2 ls2 c2 s2 → W p l e room_1 s m args below meth c H2 locs2 c2 s2 Q (F0 m 1063 ls2 [])) : W p l e room_1 s m args below meth c H locs cells slots Q (F0 m 502 ls []) := by
  obtain ⟨hx, hb, hml, hown, hall, hX, hbl, hbA, hA, hn, hLs⟩ := C0
  obtain ⟨hw, hc0, hSt, hR, hl, rfl, rfl⟩ := S0
  obtain ⟨o, h2, r, bv, hev, k1, hout, ⟨d2, f2, ev2⟩, k2, ⟨d3, f3, ev3⟩, hj⟩ := hp
  obtain ⟨d1, f1, ev1⟩ := id hev
  have m1 := ev_m_c _ _ _ _ _ _ ev1
  have m2 : hp_c o.2 ≤ hp_c h2 ∧ hp_s o.2 ≤ hp_s h2 := ev_m_c _ _ _ _ _ _ ev2
  have m3 := hJ h2 hj
  refine lv_aload_n hx hb dl_502 rfl (lv_at hl 1 rfl) ?_
  refine lq_arg hx hb hX hbl hbA hSt (lv_at hl 0 rfl) (lv_at hl 4 rfl) hLs 1 (by omega) (by decide) dl_503 dl_504 dl_506 dl_507 dl_508 ?_
  refine lq_arg hx hb hX hbl hbA hSt (lv_at hl 0 rfl) (lv_at hl 4 rfl) hLs 2 (by omega) (by decide) dl_509 dl_510 dl_512 dl_513 dl_514 ?_
  refine lq_arg hx hb hX hbl hbA hSt (lv_at hl 0 rfl) (lv_at hl 4 rfl) hLs 3 (by omega) (by decide) dl_515 dl_516 dl_518 dl_519 dl_520 ?_
  refine lq_arg hx hb hX hbl hbA hSt (lv_at hl 0 rfl) (lv_at hl 4 rfl) hLs 4 (by omega) (by decide) dl_521 dl_522 dl_524 dl_525 dl_526 ?_
  refine lq_arg hx hb hX hbl hbA hSt (lv_at hl 0 rfl) (lv_at hl 4 rfl) hLs 5 (by omega) (by decide) dl_527 dl_528 dl_530 dl_531 dl_532 ?_
  refine lv_aload_n hx hb dl_533 rfl (lv_at hl 3 rfl) ?_
  refine sw_stat (k := 52) (as := [.ref a0, .int (xs (i + 1)), .int (xs (i + 2)), .int (xs (i + 3)), .int (xs (i + 4)), .int (xs (i + 5)), .ref qo]) (rest := []) hx hb hml hown (wo_feed hlt D hev hk0 hq0 k1 (mc := hp_c o.2 - hp_c h) (ms := hp_s o.2 - hp_s h) (by omega) (by omega) (hout.imp (fun h9 => ⟨h9.1, h9.2.1⟩) id)) hall wy_433 wy_431 wy_432 wy_0 ⟨by decide +kernel, by decide +kernel, by show (parseMethodDescriptor yw_feed.desc).map (fun d => d.parameters.length) = some 7; decide +kernel⟩ (by decide) (by decide) hw hc0 hSt hA hR hn hl.1 (Nat.le_of_ble_eq_true rfl) dl_534 (by show _ ≤ 601024; omega) (by show _ ≤ 7293034; omega) (fun f9 H1 locs1 hg1 hw1 hc1 hS1 hR1 => ?_)
  refine lv_istore hx hb dl_537 hl (by decide) rfl (fun ls1 hl1 => ?_)
  replace hl : lv_has ls1 7 [(0, .ref b), (1, .ref a0), (2, .ref a2), (3, .ref qo), (4, .int (nI i)), (5, .int r)] := lv_sub hl1 [1, 2, 3, 4, 5, 0] rfl
  replace hSt := hS1
  refine lv_aload_n hx hb dl_539 rfl (lv_at hl 2 rfl) ?_
  refine lq_arg hx hb hX hbl hbA hSt (lv_at hl 0 rfl) (lv_at hl 4 rfl) hLs 1 (by omega) (by decide) dl_540 dl_541 dl_543 dl_544 dl_545 ?_
  refine lq_arg hx hb hX hbl hbA hSt (lv_at hl 0 rfl) (lv_at hl 4 rfl) hLs 2 (by omega) (by decide) dl_546 dl_547 dl_549 dl_550 dl_551 ?_
  refine lq_arg hx hb hX hbl hbA hSt (lv_at hl 0 rfl) (lv_at hl 4 rfl) hLs 3 (by omega) (by decide) dl_552 dl_553 dl_555 dl_556 dl_557 ?_
  refine lq_arg hx hb hX hbl hbA hSt (lv_at hl 0 rfl) (lv_at hl 4 rfl) hLs 4 (by omega) (by decide) dl_558 dl_559 dl_561 dl_562 dl_563 ?_
  refine lq_arg hx hb hX hbl hbA hSt (lv_at hl 0 rfl) (lv_at hl 4 rfl) hLs 5 (by omega) (by decide) dl_564 dl_565 dl_567 dl_568 dl_569 ?_
  refine sw_ret hlt (AsC := [.int (xs (i + 1)), .int (xs (i + 2)), .int (xs (i + 3)), .int (xs (i + 4)), .int (xs (i + 5))]) (K := []) ev2 rfl hx hb hml hown hall (sw_good2 mt_85.2.2.1) (hall _ wy_928) mt_85 hall (by decide) (by decide) hw1 hS1 hA hR1 (by unfold hp_k at hk5 ⊢; rw [k1]; exact hk5) hq5 ⟨rfl, rfl, rfl, rfl, rfl, trivial⟩ rfl hl.1 (Nat.le_of_ble_eq_true rfl) dl_570 (by show _ ≤ 601024; omega) (by show _ ≤ 7293034; omega) (fun w z H2 locs2 hw2 hS2 hr2 hz2 hkk2 hR2 => ?_)
  cases sw_z hw1 hw2 (k2.trans k1.symm)
  rw [List.append_nil] at hw2 hr2
  have hc2 := sw_ck hc1 hkk2
  cases w with
  | none => exact False.elim hr2
  | some w =>
    have e1 : w = .int bv := hr2.1
    subst e1
    refine W.eq (g2 := F0 m 573 ls1 [.int bv]) rfl ?_
    refine lv_istore hx hb dl_573 hl (by decide) rfl (fun ls2 hl2 => ?_)
    replace hl : lv_has ls2 7 [(0, .ref b), (1, .ref a0), (2, .ref a2), (3, .ref qo), (4, .int (nI i)), (5, .int r), (6, .int bv)] := lv_sub hl2 [1, 2, 3, 4, 5, 6, 0] rfl
    refine lv_aload_n hx hb dl_575 rfl (lv_at hl 2 rfl) ?_
    refine sw_ret hlt (AsC := []) (K := []) ev3 rfl hx hb hml hown hall (sw_good2 mt_74.2.2.1) (hall _ wy_886) mt_74 hall (by decide) (by decide) hw2 hS2 hA hR2 (by unfold hp_k at hk5 ⊢; rw [k2]; exact hk5) hq5 trivial rfl hl.1 (Nat.le_of_ble_eq_true rfl) dl_576 (by show _ ≤ 601024; omega) (by show _ ≤ 7293034; omega) (fun w z H3 locs3 hw3 hS3 hr3 hz3 hkk3 hR3 => ?_)
    cases sw_z hw2 hw3 rfl
    rw [List.append_nil] at hw3 hr3
    have hc3 := sw_ck hc2 hkk3
    cases w with
    | none => exact False.elim hr3
    | some w =>
      have e3 : w = .int r := hr3.1
      subst e3
      refine W.eq (g2 := F0 m 579 ls2 [.int r]) rfl ?_
      refine lv_iload hx hb dl_579 (lv_at hl 5 rfl) ?_
      refine lv_icmp_eq (tgt := 586) hx hb dl_581 (by decide) (fun _ => ?_) (fun h9 => absurd rfl h9)
      refine lv_iload hx hb dl_586 (lv_at hl 5 rfl) ?_
      refine lv_if_ne (tgt := 603) hx hb dl_588 (by decide) (fun _ => ?_) (fun h9 => ?_)
      · refine lv_goto (tgt := 1063) hx hb dl_603 (by decide) ?_
        exact kk h2 f9 H3 locs3 ls2 _ _ hj k2 ⟨hw3, hc3, hS3, hR3, lv_sub hl [0, 1, 2, 3, 4] rfl, by omega, by omega⟩
      · have hf0 := hg1 h9
        refine lv_aload_n hx hb dl_591 rfl (lv_at hl 3 rfl) ?_
        refine lv_iconst (v := 0) hx hb dl_592 (by decide) ?_
        refine sw_lald hx hb hc3 dl_593 ?_
        rw [hf0]
        refine lv_iload hx hb dl_594 (lv_at hl 6 rfl) ?_
        refine lv_i2l hx hb dl_596 rfl ?_
        refine W.lcmp hx hb dl_597 ?_
        refine lv_if_eq (tgt := 603) hx hb dl_598 (by decide) (fun _ => ?_) (fun h8 => absurd (lg_same _) h8)
        refine lv_goto (tgt := 1063) hx hb dl_603 (by decide) ?_
        exact kk h2 f9 H3 locs3 ls2 _ _ hj k2 ⟨hw3, hc3, hS3, hR3, lv_sub hl [0, 1, 2, 3, 4] rfl, by omega, by omega⟩
set_option maxHeartbeats 4000000 in
set_option maxRecDepth 100000 in
theorem lc_end (hlt : l.stackTraces = false) (C0 : lq_C p s m args c A b L xs) (hJ : lq_H J) (hk0 : hp_k h 0 = some (7, 0)) (hk5 : hp_k h 52 = some (8, 0)) (hq0 : ad[0]? = some a0) (hq5 : ad[52]? = some a2) (hi : i + 6 ≤ L) (hp : pu_v 53 86 cd_end [.int (xs (i + 1))] h J) (S0 : lq_S D A ad h f b a0 a2 qo i s H locs ls cells slots)
    (kk : ∀ (h2 : hp_T) (f2 : Nat → Int64) (H2 : Heap) (locs2 : List Loc) (ls2 : Array Slot) (c2 s2 : Nat), J h2 → h2.1 = h.1 → lq_S D A ad h2 f2 b a0 a2 qo i s H2 locs2 ls2 c2 s2 → W p l e room_1 s m args below meth c H2 locs2 c2 s2 Q (F0 m 1063 ls2 [])) : W p l e room_1 s m args below meth c H locs cells slots Q (F0 m 606 ls []) := by
  obtain ⟨hx, hb, hml, hown, hall, hX, hbl, hbA, hA, hn, hLs⟩ := C0
  obtain ⟨hw, hc0, hSt, hR, hl, rfl, rfl⟩ := S0
  obtain ⟨o, h2, r, hev, k1, hout, ⟨d2, f2, ev2⟩, k2, ⟨d3, f3, ev3⟩, hj⟩ := hp
  obtain ⟨d1, f1, ev1⟩ := id hev
  have m1 := ev_m_c _ _ _ _ _ _ ev1
  have m2 : hp_c o.2 ≤ hp_c h2 ∧ hp_s o.2 ≤ hp_s h2 := ev_m_c _ _ _ _ _ _ ev2
  have m3 := hJ h2 hj
  refine lv_aload_n hx hb dl_606 rfl (lv_at hl 1 rfl) ?_
  refine lq_arg hx hb hX hbl hbA hSt (lv_at hl 0 rfl) (lv_at hl 4 rfl) hLs 1 (by omega) (by decide) dl_607 dl_608 dl_610 dl_611 dl_612 ?_
  refine sw_stat (k := 53) (as := [.ref a0, .int (xs (i + 1))]) (rest := []) hx hb hml hown (wo_end hlt D hev hk0 hq0 k1 (mc := hp_c o.2 - hp_c h) (ms := hp_s o.2 - hp_s h) (by omega) (by omega) hout) hall wy_460 wy_458 wy_459 wy_0 ⟨by decide +kernel, by decide +kernel, by show (parseMethodDescriptor yw_end.desc).map (fun d => d.parameters.length) = some 2; decide +kernel⟩ (by decide) (by decide) hw hc0 hSt hA hR hn hl.1 (Nat.le_of_ble_eq_true rfl) dl_613 (by show _ ≤ 601024; omega) (by show _ ≤ 7293034; omega) (fun f9 H1 locs1 hg1 hw1 hc1 hS1 hR1 => ?_)
  refine lv_istore hx hb dl_616 hl (by decide) rfl (fun ls1 hl1 => ?_)
  replace hl : lv_has ls1 7 [(0, .ref b), (1, .ref a0), (2, .ref a2), (3, .ref qo), (4, .int (nI i)), (5, .int r)] := lv_sub hl1 [1, 2, 3, 4, 5, 0] rfl
  replace hSt := hS1
  refine lv_aload_n hx hb dl_618 rfl (lv_at hl 2 rfl) ?_
  refine lq_arg hx hb hX hbl hbA hSt (lv_at hl 0 rfl) (lv_at hl 4 rfl) hLs 1 (by omega) (by decide) dl_619 dl_620 dl_622 dl_623 dl_624 ?_
  refine sw_ret hlt (AsC := [.int (xs (i + 1))]) (K := []) ev2 rfl hx hb hml hown hall (sw_good2 mt_86.2.2.1) (hall _ wy_932) mt_86 hall (by decide) (by decide) hw1 hS1 hA hR1 (by unfold hp_k at hk5 ⊢; rw [k1]; exact hk5) hq5 ⟨rfl, trivial⟩ rfl hl.1 (Nat.le_of_ble_eq_true rfl) dl_625 (by show _ ≤ 601024; omega) (by show _ ≤ 7293034; omega) (fun w z H2 locs2 hw2 hS2 hr2 hz2 hkk2 hR2 => ?_)
  cases sw_z hw1 hw2 (k2.trans k1.symm)
  rw [List.append_nil] at hw2 hr2
  have hc2 := sw_ck hc1 hkk2
  cases w with
  | some w => exact False.elim hr2
  | none =>
    refine W.eq (g2 := F0 m 628 ls1 []) rfl ?_
    refine lv_aload_n hx hb dl_628 rfl (lv_at hl 2 rfl) ?_
    refine sw_ret hlt (AsC := []) (K := []) ev3 rfl hx hb hml hown hall (sw_good2 mt_74.2.2.1) (hall _ wy_886) mt_74 hall (by decide) (by decide) hw2 hS2 hA hR2 (by unfold hp_k at hk5 ⊢; rw [k2]; exact hk5) hq5 trivial rfl hl.1 (Nat.le_of_ble_eq_true rfl) dl_629 (by show _ ≤ 601024; omega) (by show _ ≤ 7293034; omega) (fun w z H3 locs3 hw3 hS3 hr3 hz3 hkk3 hR3 => ?_)
    cases sw_z hw2 hw3 rfl
    rw [List.append_nil] at hw3 hr3
    have hc3 := sw_ck hc2 hkk3
    cases w with
    | none => exact False.elim hr3
    | some w =>
      have e3 : w = .int r := hr3.1
      subst e3
      refine W.eq (g2 := F0 m 632 ls1 [.int r]) rfl ?_
      refine lv_iload hx hb dl_632 (lv_at hl 5 rfl) ?_
      refine lv_icmp_eq (tgt := 639) hx hb dl_634 (by decide) (fun _ => ?_) (fun h9 => absurd rfl h9)
      refine lv_goto (tgt := 1063) hx hb dl_639 (by decide) ?_
      exact kk h2 f9 H3 locs3 ls1 _ _ hj k2 ⟨hw3, hc3, hS3, hR3, lv_sub hl [0, 1, 2, 3, 4] rfl, by omega, by omega⟩
set_option maxHeartbeats 4000000 in
set_option maxRecDepth 100000 in
theorem lc_sum (hlt : l.stackTraces = false) (C0 : lq_C p s m args c A b L xs) (hJ : lq_H J) (hk0 : hp_k h 0 = some (7, 0)) (hk5 : hp_k h 52 = some (8, 0)) (hq0 : ad[0]? = some a0) (hq5 : ad[52]? = some a2) (hi : i + 6 ≤ L) (hp : pu_v 54 92 cd_sum [.int (xs (i + 1))] h J) (S0 : lq_S D A ad h f b a0 a2 qo i s H locs ls cells slots)
    (kk : ∀ (h2 : hp_T) (f2 : Nat → Int64) (H2 : Heap) (locs2 : List Loc) (ls2 : Array Slot) (c2 s2 : Nat), J h2 → h2.1 = h.1 → lq_S D A ad h2 f2 b a0 a2 qo i s H2 locs2 ls2 c2 s2 → W p l e room_1 s m args below meth c H2 locs2 c2 s2 Q (F0 m 1063 ls2 [])) : W p l e room_1 s m args below meth c H locs cells slots Q (F0 m 642 ls []) := by
  obtain ⟨hx, hb, hml, hown, hall, hX, hbl, hbA, hA, hn, hLs⟩ := C0
  obtain ⟨hw, hc0, hSt, hR, hl, rfl, rfl⟩ := S0
  obtain ⟨o, h2, r, hev, k1, hout, ⟨d2, f2, ev2⟩, k2, ⟨d3, f3, ev3⟩, hj⟩ := hp
  obtain ⟨d1, f1, ev1⟩ := id hev
  have m1 := ev_m_c _ _ _ _ _ _ ev1
  have m2 : hp_c o.2 ≤ hp_c h2 ∧ hp_s o.2 ≤ hp_s h2 := ev_m_c _ _ _ _ _ _ ev2
  have m3 := hJ h2 hj
  refine lv_aload_n hx hb dl_642 rfl (lv_at hl 1 rfl) ?_
  refine lq_arg hx hb hX hbl hbA hSt (lv_at hl 0 rfl) (lv_at hl 4 rfl) hLs 1 (by omega) (by decide) dl_643 dl_644 dl_646 dl_647 dl_648 ?_
  refine sw_stat (k := 54) (as := [.ref a0, .int (xs (i + 1))]) (rest := []) hx hb hml hown (wo_sum hlt D hev hk0 hq0 k1 (mc := hp_c o.2 - hp_c h) (ms := hp_s o.2 - hp_s h) (by omega) (by omega) hout) hall wy_468 wy_466 wy_467 wy_0 ⟨by decide +kernel, by decide +kernel, by show (parseMethodDescriptor yw_sum.desc).map (fun d => d.parameters.length) = some 2; decide +kernel⟩ (by decide) (by decide) hw hc0 hSt hA hR hn hl.1 (Nat.le_of_ble_eq_true rfl) dl_649 (by show _ ≤ 601024; omega) (by show _ ≤ 7293034; omega) (fun f9 H1 locs1 hg1 hw1 hc1 hS1 hR1 => ?_)
  refine lv_istore hx hb dl_652 hl (by decide) rfl (fun ls1 hl1 => ?_)
  replace hl : lv_has ls1 7 [(0, .ref b), (1, .ref a0), (2, .ref a2), (3, .ref qo), (4, .int (nI i)), (5, .int r)] := lv_sub hl1 [1, 2, 3, 4, 5, 0] rfl
  replace hSt := hS1
  refine lv_aload_n hx hb dl_654 rfl (lv_at hl 2 rfl) ?_
  refine lq_arg hx hb hX hbl hbA hSt (lv_at hl 0 rfl) (lv_at hl 4 rfl) hLs 1 (by omega) (by decide) dl_655 dl_656 dl_658 dl_659 dl_660 ?_
  refine sw_ret hlt (AsC := [.int (xs (i + 1))]) (K := []) ev2 rfl hx hb hml hown hall (sw_good2 mt_92.2.2.1) (hall _ wy_936) mt_92 hall (by decide) (by decide) hw1 hS1 hA hR1 (by unfold hp_k at hk5 ⊢; rw [k1]; exact hk5) hq5 ⟨rfl, trivial⟩ rfl hl.1 (Nat.le_of_ble_eq_true rfl) dl_661 (by show _ ≤ 601024; omega) (by show _ ≤ 7293034; omega) (fun w z H2 locs2 hw2 hS2 hr2 hz2 hkk2 hR2 => ?_)
  cases sw_z hw1 hw2 (k2.trans k1.symm)
  rw [List.append_nil] at hw2 hr2
  have hc2 := sw_ck hc1 hkk2
  cases w with
  | some w => exact False.elim hr2
  | none =>
    refine W.eq (g2 := F0 m 664 ls1 []) rfl ?_
    refine lv_aload_n hx hb dl_664 rfl (lv_at hl 2 rfl) ?_
    refine sw_ret hlt (AsC := []) (K := []) ev3 rfl hx hb hml hown hall (sw_good2 mt_74.2.2.1) (hall _ wy_886) mt_74 hall (by decide) (by decide) hw2 hS2 hA hR2 (by unfold hp_k at hk5 ⊢; rw [k2]; exact hk5) hq5 trivial rfl hl.1 (Nat.le_of_ble_eq_true rfl) dl_665 (by show _ ≤ 601024; omega) (by show _ ≤ 7293034; omega) (fun w z H3 locs3 hw3 hS3 hr3 hz3 hkk3 hR3 => ?_)
    cases sw_z hw2 hw3 rfl
    rw [List.append_nil] at hw3 hr3
    have hc3 := sw_ck hc2 hkk3
    cases w with
    | none => exact False.elim hr3
    | some w =>
      have e3 : w = .int r := hr3.1
      subst e3
      refine W.eq (g2 := F0 m 668 ls1 [.int r]) rfl ?_
      refine lv_iload hx hb dl_668 (lv_at hl 5 rfl) ?_
      refine lv_icmp_eq (tgt := 675) hx hb dl_670 (by decide) (fun _ => ?_) (fun h9 => absurd rfl h9)
      refine lv_goto (tgt := 1063) hx hb dl_675 (by decide) ?_
      exact kk h2 f9 H3 locs3 ls1 _ _ hj k2 ⟨hw3, hc3, hS3, hR3, lv_sub hl [0, 1, 2, 3, 4] rfl, by omega, by omega⟩
set_option maxHeartbeats 4000000 in
set_option maxRecDepth 100000 in
theorem lc_copy (hlt : l.stackTraces = false) (C0 : lq_C p s m args c A b L xs) (hJ : lq_H J) (hk0 : hp_k h 0 = some (7, 0)) (hk5 : hp_k h 52 = some (8, 0)) (hq0 : ad[0]? = some a0) (hq5 : ad[52]? = some a2) (hi : i + 6 ≤ L) (hp : pu_i false 55 93 cd_copy [.int (xs (i + 1))] h J) (S0 : lq_S D A ad h f b a0 a2 qo i s H locs ls cells slots)
    (kk : ∀ (h2 : hp_T) (f2 : Nat → Int64) (H2 : Heap) (locs2 : List Loc) (ls2 : Array Slot) (c2 s2 : Nat), J h2 → h2.1 = h.1 → lq_S D A ad h2 f2 b a0 a2 qo i s H2 locs2 ls2 c2 s2 → W p l e room_1 s m args below meth c H2 locs2 c2 s2 Q (F0 m 1063 ls2 [])) : W p l e room_1 s m args below meth c H locs cells slots Q (F0 m 678 ls []) := by
  obtain ⟨hx, hb, hml, hown, hall, hX, hbl, hbA, hA, hn, hLs⟩ := C0
  obtain ⟨hw, hc0, hSt, hR, hl, rfl, rfl⟩ := S0
  obtain ⟨o, h2, r, bv, hev, k1, hout, ⟨d2, f2, ev2⟩, k2, ⟨d3, f3, ev3⟩, hj⟩ := hp
  obtain ⟨d1, f1, ev1⟩ := id hev
  have m1 := ev_m_c _ _ _ _ _ _ ev1
  have m2 : hp_c o.2 ≤ hp_c h2 ∧ hp_s o.2 ≤ hp_s h2 := ev_m_c _ _ _ _ _ _ ev2
  have m3 := hJ h2 hj
  refine lv_aload_n hx hb dl_678 rfl (lv_at hl 1 rfl) ?_
  refine lq_arg hx hb hX hbl hbA hSt (lv_at hl 0 rfl) (lv_at hl 4 rfl) hLs 1 (by omega) (by decide) dl_679 dl_680 dl_682 dl_683 dl_684 ?_
  refine lv_aload_n hx hb dl_685 rfl (lv_at hl 3 rfl) ?_
  refine sw_stat (k := 55) (as := [.ref a0, .int (xs (i + 1)), .ref qo]) (rest := []) hx hb hml hown (wo_copy hlt D hev hk0 hq0 k1 (mc := hp_c o.2 - hp_c h) (ms := hp_s o.2 - hp_s h) (by omega) (by omega) (hout.imp (fun h9 => ⟨h9.1, h9.2.1⟩) id)) hall wy_483 wy_481 wy_482 wy_0 ⟨by decide +kernel, by decide +kernel, by show (parseMethodDescriptor yw_copy.desc).map (fun d => d.parameters.length) = some 3; decide +kernel⟩ (by decide) (by decide) hw hc0 hSt hA hR hn hl.1 (Nat.le_of_ble_eq_true rfl) dl_686 (by show _ ≤ 601024; omega) (by show _ ≤ 7293034; omega) (fun f9 H1 locs1 hg1 hw1 hc1 hS1 hR1 => ?_)
  refine lv_istore hx hb dl_689 hl (by decide) rfl (fun ls1 hl1 => ?_)
  replace hl : lv_has ls1 7 [(0, .ref b), (1, .ref a0), (2, .ref a2), (3, .ref qo), (4, .int (nI i)), (5, .int r)] := lv_sub hl1 [1, 2, 3, 4, 5, 0] rfl
  replace hSt := hS1
  refine lv_aload_n hx hb dl_691 rfl (lv_at hl 2 rfl) ?_
  refine lq_arg hx hb hX hbl hbA hSt (lv_at hl 0 rfl) (lv_at hl 4 rfl) hLs 1 (by omega) (by decide) dl_692 dl_693 dl_695 dl_696 dl_697 ?_
  refine sw_ret hlt (AsC := [.int (xs (i + 1))]) (K := []) ev2 rfl hx hb hml hown hall (sw_good2 mt_93.2.2.1) (hall _ wy_947) mt_93 hall (by decide) (by decide) hw1 hS1 hA hR1 (by unfold hp_k at hk5 ⊢; rw [k1]; exact hk5) hq5 ⟨rfl, trivial⟩ rfl hl.1 (Nat.le_of_ble_eq_true rfl) dl_698 (by show _ ≤ 601024; omega) (by show _ ≤ 7293034; omega) (fun w z H2 locs2 hw2 hS2 hr2 hz2 hkk2 hR2 => ?_)
  cases sw_z hw1 hw2 (k2.trans k1.symm)
  rw [List.append_nil] at hw2 hr2
  have hc2 := sw_ck hc1 hkk2
  cases w with
  | none => exact False.elim hr2
  | some w =>
    have e1 : w = .int bv := hr2.1
    subst e1
    refine W.eq (g2 := F0 m 701 ls1 [.int bv]) rfl ?_
    refine lv_istore hx hb dl_701 hl (by decide) rfl (fun ls2 hl2 => ?_)
    replace hl : lv_has ls2 7 [(0, .ref b), (1, .ref a0), (2, .ref a2), (3, .ref qo), (4, .int (nI i)), (5, .int r), (6, .int bv)] := lv_sub hl2 [1, 2, 3, 4, 5, 6, 0] rfl
    refine lv_aload_n hx hb dl_703 rfl (lv_at hl 2 rfl) ?_
    refine sw_ret hlt (AsC := []) (K := []) ev3 rfl hx hb hml hown hall (sw_good2 mt_74.2.2.1) (hall _ wy_886) mt_74 hall (by decide) (by decide) hw2 hS2 hA hR2 (by unfold hp_k at hk5 ⊢; rw [k2]; exact hk5) hq5 trivial rfl hl.1 (Nat.le_of_ble_eq_true rfl) dl_704 (by show _ ≤ 601024; omega) (by show _ ≤ 7293034; omega) (fun w z H3 locs3 hw3 hS3 hr3 hz3 hkk3 hR3 => ?_)
    cases sw_z hw2 hw3 rfl
    rw [List.append_nil] at hw3 hr3
    have hc3 := sw_ck hc2 hkk3
    cases w with
    | none => exact False.elim hr3
    | some w =>
      have e3 : w = .int r := hr3.1
      subst e3
      refine W.eq (g2 := F0 m 707 ls2 [.int r]) rfl ?_
      refine lv_iload hx hb dl_707 (lv_at hl 5 rfl) ?_
      refine lv_icmp_eq (tgt := 714) hx hb dl_709 (by decide) (fun _ => ?_) (fun h9 => absurd rfl h9)
      refine lv_iload hx hb dl_714 (lv_at hl 5 rfl) ?_
      refine lv_if_ne (tgt := 731) hx hb dl_716 (by decide) (fun _ => ?_) (fun h9 => ?_)
      · refine lv_goto (tgt := 1063) hx hb dl_731 (by decide) ?_
        exact kk h2 f9 H3 locs3 ls2 _ _ hj k2 ⟨hw3, hc3, hS3, hR3, lv_sub hl [0, 1, 2, 3, 4] rfl, by omega, by omega⟩
      · have hf0 := hg1 h9
        refine lv_aload_n hx hb dl_719 rfl (lv_at hl 3 rfl) ?_
        refine lv_iconst (v := 0) hx hb dl_720 (by decide) ?_
        refine sw_lald hx hb hc3 dl_721 ?_
        rw [hf0]
        refine lv_iload hx hb dl_722 (lv_at hl 6 rfl) ?_
        refine lv_i2l hx hb dl_724 rfl ?_
        refine W.lcmp hx hb dl_725 ?_
        refine lv_if_eq (tgt := 731) hx hb dl_726 (by decide) (fun _ => ?_) (fun h8 => absurd (lg_same _) h8)
        refine lv_goto (tgt := 1063) hx hb dl_731 (by decide) ?_
        exact kk h2 f9 H3 locs3 ls2 _ _ hj k2 ⟨hw3, hc3, hS3, hR3, lv_sub hl [0, 1, 2, 3, 4] rfl, by omega, by omega⟩
set_option maxHeartbeats 4000000 in
set_option maxRecDepth 100000 in
theorem lc_receive (hlt : l.stackTraces = false) (C0 : lq_C p s m args c A b L xs) (hJ : lq_H J) (hk0 : hp_k h 0 = some (7, 0)) (hk5 : hp_k h 52 = some (8, 0)) (hq0 : ad[0]? = some a0) (hq5 : ad[52]? = some a2) (hi : i + 6 ≤ L) (hp : pu_i false 56 112 cd_receive [.int (xs (i + 1))] h J) (S0 : lq_S D A ad h f b a0 a2 qo i s H locs ls cells slots)
    (kk : ∀ (h2 : hp_T) (f2 : Nat → Int64) (H2 : Heap) (locs2 : List Loc) (ls2 : Array Slot) (c2 s2 : Nat), J h2 → h2.1 = h.1 → lq_S D A ad h2 f2 b a0 a2 qo i s H2 locs2 ls2 c2 s2 → W p l e room_1 s m args below meth c H2 locs2 c2 s2 Q (F0 m 1063 ls2 [])) : W p l e room_1 s m args below meth c H locs cells slots Q (F0 m 734 ls []) := by
  obtain ⟨hx, hb, hml, hown, hall, hX, hbl, hbA, hA, hn, hLs⟩ := C0
  obtain ⟨hw, hc0, hSt, hR, hl, rfl, rfl⟩ := S0
  obtain ⟨o, h2, r, bv, hev, k1, hout, ⟨d2, f2, ev2⟩, k2, ⟨d3, f3, ev3⟩, hj⟩ := hp
  obtain ⟨d1, f1, ev1⟩ := id hev
  have m1 := ev_m_c _ _ _ _ _ _ ev1
  have m2 : hp_c o.2 ≤ hp_c h2 ∧ hp_s o.2 ≤ hp_s h2 := ev_m_c _ _ _ _ _ _ ev2
  have m3 := hJ h2 hj
  refine lv_aload_n hx hb dl_734 rfl (lv_at hl 1 rfl) ?_
  refine lq_arg hx hb hX hbl hbA hSt (lv_at hl 0 rfl) (lv_at hl 4 rfl) hLs 1 (by omega) (by decide) dl_735 dl_736 dl_738 dl_739 dl_740 ?_
  refine lv_aload_n hx hb dl_741 rfl (lv_at hl 3 rfl) ?_
  refine sw_stat (k := 56) (as := [.ref a0, .int (xs (i + 1)), .ref qo]) (rest := []) hx hb hml hown (wo_receive hlt D hev hk0 hq0 k1 (mc := hp_c o.2 - hp_c h) (ms := hp_s o.2 - hp_s h) (by omega) (by omega) (hout.imp (fun h9 => ⟨h9.1, h9.2.1⟩) id)) hall wy_498 wy_496 wy_497 wy_0 ⟨by decide +kernel, by decide +kernel, by show (parseMethodDescriptor yw_receive.desc).map (fun d => d.parameters.length) = some 3; decide +kernel⟩ (by decide) (by decide) hw hc0 hSt hA hR hn hl.1 (Nat.le_of_ble_eq_true rfl) dl_742 (by show _ ≤ 601024; omega) (by show _ ≤ 7293034; omega) (fun f9 H1 locs1 hg1 hw1 hc1 hS1 hR1 => ?_)
  refine lv_istore hx hb dl_745 hl (by decide) rfl (fun ls1 hl1 => ?_)
  replace hl : lv_has ls1 7 [(0, .ref b), (1, .ref a0), (2, .ref a2), (3, .ref qo), (4, .int (nI i)), (5, .int r)] := lv_sub hl1 [1, 2, 3, 4, 5, 0] rfl
  replace hSt := hS1
  refine lv_aload_n hx hb dl_747 rfl (lv_at hl 2 rfl) ?_
  refine lq_arg hx hb hX hbl hbA hSt (lv_at hl 0 rfl) (lv_at hl 4 rfl) hLs 1 (by omega) (by decide) dl_748 dl_749 dl_751 dl_752 dl_753 ?_
  refine sw_ret hlt (AsC := [.int (xs (i + 1))]) (K := []) ev2 rfl hx hb hml hown hall (sw_good2 mt_112.2.2.1) (hall _ wy_951) mt_112 hall (by decide) (by decide) hw1 hS1 hA hR1 (by unfold hp_k at hk5 ⊢; rw [k1]; exact hk5) hq5 ⟨rfl, trivial⟩ rfl hl.1 (Nat.le_of_ble_eq_true rfl) dl_754 (by show _ ≤ 601024; omega) (by show _ ≤ 7293034; omega) (fun w z H2 locs2 hw2 hS2 hr2 hz2 hkk2 hR2 => ?_)
  cases sw_z hw1 hw2 (k2.trans k1.symm)
  rw [List.append_nil] at hw2 hr2
  have hc2 := sw_ck hc1 hkk2
  cases w with
  | none => exact False.elim hr2
  | some w =>
    have e1 : w = .int bv := hr2.1
    subst e1
    refine W.eq (g2 := F0 m 757 ls1 [.int bv]) rfl ?_
    refine lv_istore hx hb dl_757 hl (by decide) rfl (fun ls2 hl2 => ?_)
    replace hl : lv_has ls2 7 [(0, .ref b), (1, .ref a0), (2, .ref a2), (3, .ref qo), (4, .int (nI i)), (5, .int r), (6, .int bv)] := lv_sub hl2 [1, 2, 3, 4, 5, 6, 0] rfl
    refine lv_aload_n hx hb dl_759 rfl (lv_at hl 2 rfl) ?_
    refine sw_ret hlt (AsC := []) (K := []) ev3 rfl hx hb hml hown hall (sw_good2 mt_74.2.2.1) (hall _ wy_886) mt_74 hall (by decide) (by decide) hw2 hS2 hA hR2 (by unfold hp_k at hk5 ⊢; rw [k2]; exact hk5) hq5 trivial rfl hl.1 (Nat.le_of_ble_eq_true rfl) dl_760 (by show _ ≤ 601024; omega) (by show _ ≤ 7293034; omega) (fun w z H3 locs3 hw3 hS3 hr3 hz3 hkk3 hR3 => ?_)
    cases sw_z hw2 hw3 rfl
    rw [List.append_nil] at hw3 hr3
    have hc3 := sw_ck hc2 hkk3
    cases w with
    | none => exact False.elim hr3
    | some w =>
      have e3 : w = .int r := hr3.1
      subst e3
      refine W.eq (g2 := F0 m 763 ls2 [.int r]) rfl ?_
      refine lv_iload hx hb dl_763 (lv_at hl 5 rfl) ?_
      refine lv_icmp_eq (tgt := 770) hx hb dl_765 (by decide) (fun _ => ?_) (fun h9 => absurd rfl h9)
      refine lv_iload hx hb dl_770 (lv_at hl 5 rfl) ?_
      refine lv_if_ne (tgt := 787) hx hb dl_772 (by decide) (fun _ => ?_) (fun h9 => ?_)
      · refine lv_goto (tgt := 1063) hx hb dl_787 (by decide) ?_
        exact kk h2 f9 H3 locs3 ls2 _ _ hj k2 ⟨hw3, hc3, hS3, hR3, lv_sub hl [0, 1, 2, 3, 4] rfl, by omega, by omega⟩
      · have hf0 := hg1 h9
        refine lv_aload_n hx hb dl_775 rfl (lv_at hl 3 rfl) ?_
        refine lv_iconst (v := 0) hx hb dl_776 (by decide) ?_
        refine sw_lald hx hb hc3 dl_777 ?_
        rw [hf0]
        refine lv_iload hx hb dl_778 (lv_at hl 6 rfl) ?_
        refine lv_i2l hx hb dl_780 rfl ?_
        refine W.lcmp hx hb dl_781 ?_
        refine lv_if_eq (tgt := 787) hx hb dl_782 (by decide) (fun _ => ?_) (fun h8 => absurd (lg_same _) h8)
        refine lv_goto (tgt := 1063) hx hb dl_787 (by decide) ?_
        exact kk h2 f9 H3 locs3 ls2 _ _ hj k2 ⟨hw3, hc3, hS3, hR3, lv_sub hl [0, 1, 2, 3, 4] rfl, by omega, by omega⟩
set_option maxHeartbeats 4000000 in
set_option maxRecDepth 100000 in
theorem lc_pass (hlt : l.stackTraces = false) (C0 : lq_C p s m args c A b L xs) (hJ : lq_H J) (hk0 : hp_k h 0 = some (7, 0)) (hk5 : hp_k h 52 = some (8, 0)) (hq0 : ad[0]? = some a0) (hq5 : ad[52]? = some a2) (hi : i + 6 ≤ L) (hp : pu_i false 57 114 cd_pass [.int (xs (i + 1))] h J) (S0 : lq_S D A ad h f b a0 a2 qo i s H locs ls cells slots)
    (kk : ∀ (h2 : hp_T) (f2 : Nat → Int64) (H2 : Heap) (locs2 : List Loc) (ls2 : Array Slot) (c2 s2 : Nat), J h2 → h2.1 = h.1 → lq_S D A ad h2 f2 b a0 a2 qo i s H2 locs2 ls2 c2 s2 → W p l e room_1 s m args below meth c H2 locs2 c2 s2 Q (F0 m 1063 ls2 [])) : W p l e room_1 s m args below meth c H locs cells slots Q (F0 m 790 ls []) := by
  obtain ⟨hx, hb, hml, hown, hall, hX, hbl, hbA, hA, hn, hLs⟩ := C0
  obtain ⟨hw, hc0, hSt, hR, hl, rfl, rfl⟩ := S0
  obtain ⟨o, h2, r, bv, hev, k1, hout, ⟨d2, f2, ev2⟩, k2, ⟨d3, f3, ev3⟩, hj⟩ := hp
  obtain ⟨d1, f1, ev1⟩ := id hev
  have m1 := ev_m_c _ _ _ _ _ _ ev1
  have m2 : hp_c o.2 ≤ hp_c h2 ∧ hp_s o.2 ≤ hp_s h2 := ev_m_c _ _ _ _ _ _ ev2
  have m3 := hJ h2 hj
  refine lv_aload_n hx hb dl_790 rfl (lv_at hl 1 rfl) ?_
  refine lq_arg hx hb hX hbl hbA hSt (lv_at hl 0 rfl) (lv_at hl 4 rfl) hLs 1 (by omega) (by decide) dl_791 dl_792 dl_794 dl_795 dl_796 ?_
  refine lv_aload_n hx hb dl_797 rfl (lv_at hl 3 rfl) ?_
  refine sw_stat (k := 57) (as := [.ref a0, .int (xs (i + 1)), .ref qo]) (rest := []) hx hb hml hown (wo_pass hlt D hev hk0 hq0 k1 (mc := hp_c o.2 - hp_c h) (ms := hp_s o.2 - hp_s h) (by omega) (by omega) (hout.imp (fun h9 => ⟨h9.1, h9.2.1⟩) id)) hall wy_711 wy_709 wy_710 wy_0 ⟨by decide +kernel, by decide +kernel, by show (parseMethodDescriptor yw_pass.desc).map (fun d => d.parameters.length) = some 3; decide +kernel⟩ (by decide) (by decide) hw hc0 hSt hA hR hn hl.1 (Nat.le_of_ble_eq_true rfl) dl_798 (by show _ ≤ 601024; omega) (by show _ ≤ 7293034; omega) (fun f9 H1 locs1 hg1 hw1 hc1 hS1 hR1 => ?_)
  refine lv_istore hx hb dl_801 hl (by decide) rfl (fun ls1 hl1 => ?_)
  replace hl : lv_has ls1 7 [(0, .ref b), (1, .ref a0), (2, .ref a2), (3, .ref qo), (4, .int (nI i)), (5, .int r)] := lv_sub hl1 [1, 2, 3, 4, 5, 0] rfl
  replace hSt := hS1
  refine lv_aload_n hx hb dl_803 rfl (lv_at hl 2 rfl) ?_
  refine lq_arg hx hb hX hbl hbA hSt (lv_at hl 0 rfl) (lv_at hl 4 rfl) hLs 1 (by omega) (by decide) dl_804 dl_805 dl_807 dl_808 dl_809 ?_
  refine sw_ret hlt (AsC := [.int (xs (i + 1))]) (K := []) ev2 rfl hx hb hml hown hall (sw_good2 mt_114.2.2.1) (hall _ wy_1037) mt_114 hall (by decide) (by decide) hw1 hS1 hA hR1 (by unfold hp_k at hk5 ⊢; rw [k1]; exact hk5) hq5 ⟨rfl, trivial⟩ rfl hl.1 (Nat.le_of_ble_eq_true rfl) dl_810 (by show _ ≤ 601024; omega) (by show _ ≤ 7293034; omega) (fun w z H2 locs2 hw2 hS2 hr2 hz2 hkk2 hR2 => ?_)
  cases sw_z hw1 hw2 (k2.trans k1.symm)
  rw [List.append_nil] at hw2 hr2
  have hc2 := sw_ck hc1 hkk2
  cases w with
  | none => exact False.elim hr2
  | some w =>
    have e1 : w = .int bv := hr2.1
    subst e1
    refine W.eq (g2 := F0 m 813 ls1 [.int bv]) rfl ?_
    refine lv_istore hx hb dl_813 hl (by decide) rfl (fun ls2 hl2 => ?_)
    replace hl : lv_has ls2 7 [(0, .ref b), (1, .ref a0), (2, .ref a2), (3, .ref qo), (4, .int (nI i)), (5, .int r), (6, .int bv)] := lv_sub hl2 [1, 2, 3, 4, 5, 6, 0] rfl
    refine lv_aload_n hx hb dl_815 rfl (lv_at hl 2 rfl) ?_
    refine sw_ret hlt (AsC := []) (K := []) ev3 rfl hx hb hml hown hall (sw_good2 mt_74.2.2.1) (hall _ wy_886) mt_74 hall (by decide) (by decide) hw2 hS2 hA hR2 (by unfold hp_k at hk5 ⊢; rw [k2]; exact hk5) hq5 trivial rfl hl.1 (Nat.le_of_ble_eq_true rfl) dl_816 (by show _ ≤ 601024; omega) (by show _ ≤ 7293034; omega) (fun w z H3 locs3 hw3 hS3 hr3 hz3 hkk3 hR3 => ?_)
    cases sw_z hw2 hw3 rfl
    rw [List.append_nil] at hw3 hr3
    have hc3 := sw_ck hc2 hkk3
    cases w with
    | none => exact False.elim hr3
    | some w =>
      have e3 : w = .int r := hr3.1
      subst e3
      refine W.eq (g2 := F0 m 819 ls2 [.int r]) rfl ?_
      refine lv_iload hx hb dl_819 (lv_at hl 5 rfl) ?_
      refine lv_icmp_eq (tgt := 826) hx hb dl_821 (by decide) (fun _ => ?_) (fun h9 => absurd rfl h9)
      refine lv_iload hx hb dl_826 (lv_at hl 5 rfl) ?_
      refine lv_if_ne (tgt := 843) hx hb dl_828 (by decide) (fun _ => ?_) (fun h9 => ?_)
      · refine lv_goto (tgt := 1063) hx hb dl_843 (by decide) ?_
        exact kk h2 f9 H3 locs3 ls2 _ _ hj k2 ⟨hw3, hc3, hS3, hR3, lv_sub hl [0, 1, 2, 3, 4] rfl, by omega, by omega⟩
      · have hf0 := hg1 h9
        refine lv_aload_n hx hb dl_831 rfl (lv_at hl 3 rfl) ?_
        refine lv_iconst (v := 0) hx hb dl_832 (by decide) ?_
        refine sw_lald hx hb hc3 dl_833 ?_
        rw [hf0]
        refine lv_iload hx hb dl_834 (lv_at hl 6 rfl) ?_
        refine lv_i2l hx hb dl_836 rfl ?_
        refine W.lcmp hx hb dl_837 ?_
        refine lv_if_eq (tgt := 843) hx hb dl_838 (by decide) (fun _ => ?_) (fun h8 => absurd (lg_same _) h8)
        refine lv_goto (tgt := 1063) hx hb dl_843 (by decide) ?_
        exact kk h2 f9 H3 locs3 ls2 _ _ hj k2 ⟨hw3, hc3, hS3, hR3, lv_sub hl [0, 1, 2, 3, 4] rfl, by omega, by omega⟩
set_option maxHeartbeats 4000000 in
set_option maxRecDepth 100000 in
theorem lc_sent (hlt : l.stackTraces = false) (C0 : lq_C p s m args c A b L xs) (hJ : lq_H J) (hk0 : hp_k h 0 = some (7, 0)) (hk5 : hp_k h 52 = some (8, 0)) (hq0 : ad[0]? = some a0) (hq5 : ad[52]? = some a2) (hi : i + 6 ≤ L) (hp : pu_i false 58 115 cd_sent [.int (xs (i + 1)), .int (xs (i + 2))] h J) (S0 : lq_S D A ad h f b a0 a2 qo i s H locs ls cells slots)
    (kk : ∀ (h2 : hp_T) (f2 : Nat → Int64) (H2 : Heap) (locs2 : List Loc) (ls2 : Array Slot) (c2 s2 : Nat), J h2 → h2.1 = h.1 → lq_S D A ad h2 f2 b a0 a2 qo i s H2 locs2 ls2 c2 s2 → W p l e room_1 s m args below meth c H2 locs2 c2 s2 Q (F0 m 1063 ls2 [])) : W p l e room_1 s m args below meth c H locs cells slots Q (F0 m 846 ls []) := by
  obtain ⟨hx, hb, hml, hown, hall, hX, hbl, hbA, hA, hn, hLs⟩ := C0
  obtain ⟨hw, hc0, hSt, hR, hl, rfl, rfl⟩ := S0
  obtain ⟨o, h2, r, bv, hev, k1, hout, ⟨d2, f2, ev2⟩, k2, ⟨d3, f3, ev3⟩, hj⟩ := hp
  obtain ⟨d1, f1, ev1⟩ := id hev
  have m1 := ev_m_c _ _ _ _ _ _ ev1
  have m2 : hp_c o.2 ≤ hp_c h2 ∧ hp_s o.2 ≤ hp_s h2 := ev_m_c _ _ _ _ _ _ ev2
  have m3 := hJ h2 hj
  refine lv_aload_n hx hb dl_846 rfl (lv_at hl 1 rfl) ?_
  refine lq_arg hx hb hX hbl hbA hSt (lv_at hl 0 rfl) (lv_at hl 4 rfl) hLs 1 (by omega) (by decide) dl_847 dl_848 dl_850 dl_851 dl_852 ?_
  refine lq_arg hx hb hX hbl hbA hSt (lv_at hl 0 rfl) (lv_at hl 4 rfl) hLs 2 (by omega) (by decide) dl_853 dl_854 dl_856 dl_857 dl_858 ?_
  refine lv_aload_n hx hb dl_859 rfl (lv_at hl 3 rfl) ?_
  refine sw_stat (k := 58) (as := [.ref a0, .int (xs (i + 1)), .int (xs (i + 2)), .ref qo]) (rest := []) hx hb hml hown (wo_sent hlt D hev hk0 hq0 k1 (mc := hp_c o.2 - hp_c h) (ms := hp_s o.2 - hp_s h) (by omega) (by omega) (hout.imp (fun h9 => ⟨h9.1, h9.2.1⟩) id)) hall wy_728 wy_726 wy_727 wy_0 ⟨by decide +kernel, by decide +kernel, by show (parseMethodDescriptor yw_sent.desc).map (fun d => d.parameters.length) = some 4; decide +kernel⟩ (by decide) (by decide) hw hc0 hSt hA hR hn hl.1 (Nat.le_of_ble_eq_true rfl) dl_860 (by show _ ≤ 601024; omega) (by show _ ≤ 7293034; omega) (fun f9 H1 locs1 hg1 hw1 hc1 hS1 hR1 => ?_)
  refine lv_istore hx hb dl_863 hl (by decide) rfl (fun ls1 hl1 => ?_)
  replace hl : lv_has ls1 7 [(0, .ref b), (1, .ref a0), (2, .ref a2), (3, .ref qo), (4, .int (nI i)), (5, .int r)] := lv_sub hl1 [1, 2, 3, 4, 5, 0] rfl
  replace hSt := hS1
  refine lv_aload_n hx hb dl_865 rfl (lv_at hl 2 rfl) ?_
  refine lq_arg hx hb hX hbl hbA hSt (lv_at hl 0 rfl) (lv_at hl 4 rfl) hLs 1 (by omega) (by decide) dl_866 dl_867 dl_869 dl_870 dl_871 ?_
  refine lq_arg hx hb hX hbl hbA hSt (lv_at hl 0 rfl) (lv_at hl 4 rfl) hLs 2 (by omega) (by decide) dl_872 dl_873 dl_875 dl_876 dl_877 ?_
  refine sw_ret hlt (AsC := [.int (xs (i + 1)), .int (xs (i + 2))]) (K := []) ev2 rfl hx hb hml hown hall (sw_good2 mt_115.2.2.1) (hall _ wy_1045) mt_115 hall (by decide) (by decide) hw1 hS1 hA hR1 (by unfold hp_k at hk5 ⊢; rw [k1]; exact hk5) hq5 ⟨rfl, rfl, trivial⟩ rfl hl.1 (Nat.le_of_ble_eq_true rfl) dl_878 (by show _ ≤ 601024; omega) (by show _ ≤ 7293034; omega) (fun w z H2 locs2 hw2 hS2 hr2 hz2 hkk2 hR2 => ?_)
  cases sw_z hw1 hw2 (k2.trans k1.symm)
  rw [List.append_nil] at hw2 hr2
  have hc2 := sw_ck hc1 hkk2
  cases w with
  | none => exact False.elim hr2
  | some w =>
    have e1 : w = .int bv := hr2.1
    subst e1
    refine W.eq (g2 := F0 m 881 ls1 [.int bv]) rfl ?_
    refine lv_istore hx hb dl_881 hl (by decide) rfl (fun ls2 hl2 => ?_)
    replace hl : lv_has ls2 7 [(0, .ref b), (1, .ref a0), (2, .ref a2), (3, .ref qo), (4, .int (nI i)), (5, .int r), (6, .int bv)] := lv_sub hl2 [1, 2, 3, 4, 5, 6, 0] rfl
    refine lv_aload_n hx hb dl_883 rfl (lv_at hl 2 rfl) ?_
    refine sw_ret hlt (AsC := []) (K := []) ev3 rfl hx hb hml hown hall (sw_good2 mt_74.2.2.1) (hall _ wy_886) mt_74 hall (by decide) (by decide) hw2 hS2 hA hR2 (by unfold hp_k at hk5 ⊢; rw [k2]; exact hk5) hq5 trivial rfl hl.1 (Nat.le_of_ble_eq_true rfl) dl_884 (by show _ ≤ 601024; omega) (by show _ ≤ 7293034; omega) (fun w z H3 locs3 hw3 hS3 hr3 hz3 hkk3 hR3 => ?_)
    cases sw_z hw2 hw3 rfl
    rw [List.append_nil] at hw3 hr3
    have hc3 := sw_ck hc2 hkk3
    cases w with
    | none => exact False.elim hr3
    | some w =>
      have e3 : w = .int r := hr3.1
      subst e3
      refine W.eq (g2 := F0 m 887 ls2 [.int r]) rfl ?_
      refine lv_iload hx hb dl_887 (lv_at hl 5 rfl) ?_
      refine lv_icmp_eq (tgt := 894) hx hb dl_889 (by decide) (fun _ => ?_) (fun h9 => absurd rfl h9)
      refine lv_iload hx hb dl_894 (lv_at hl 5 rfl) ?_
      refine lv_if_ne (tgt := 911) hx hb dl_896 (by decide) (fun _ => ?_) (fun h9 => ?_)
      · refine lv_goto (tgt := 1063) hx hb dl_911 (by decide) ?_
        exact kk h2 f9 H3 locs3 ls2 _ _ hj k2 ⟨hw3, hc3, hS3, hR3, lv_sub hl [0, 1, 2, 3, 4] rfl, by omega, by omega⟩
      · have hf0 := hg1 h9
        refine lv_aload_n hx hb dl_899 rfl (lv_at hl 3 rfl) ?_
        refine lv_iconst (v := 0) hx hb dl_900 (by decide) ?_
        refine sw_lald hx hb hc3 dl_901 ?_
        rw [hf0]
        refine lv_iload hx hb dl_902 (lv_at hl 6 rfl) ?_
        refine lv_i2l hx hb dl_904 rfl ?_
        refine W.lcmp hx hb dl_905 ?_
        refine lv_if_eq (tgt := 911) hx hb dl_906 (by decide) (fun _ => ?_) (fun h8 => absurd (lg_same _) h8)
        refine lv_goto (tgt := 1063) hx hb dl_911 (by decide) ?_
        exact kk h2 f9 H3 locs3 ls2 _ _ hj k2 ⟨hw3, hc3, hS3, hR3, lv_sub hl [0, 1, 2, 3, 4] rfl, by omega, by omega⟩
set_option maxHeartbeats 4000000 in
set_option maxRecDepth 100000 in
theorem lc_out (hlt : l.stackTraces = false) (C0 : lq_C p s m args c A b L xs) (hJ : lq_H J) (hk0 : hp_k h 0 = some (7, 0)) (hk5 : hp_k h 52 = some (8, 0)) (hq0 : ad[0]? = some a0) (hq5 : ad[52]? = some a2) (hi : i + 6 ≤ L) (hp : pu_i false 59 116 cd_out [.int (xs (i + 1)), .int (xs (i + 2))] h J) (S0 : lq_S D A ad h f b a0 a2 qo i s H locs ls cells slots)
    (kk : ∀ (h2 : hp_T) (f2 : Nat → Int64) (H2 : Heap) (locs2 : List Loc) (ls2 : Array Slot) (c2 s2 : Nat), J h2 → h2.1 = h.1 → lq_S D A ad h2 f2 b a0 a2 qo i s H2 locs2 ls2 c2 s2 → W p l e room_1 s m args below meth c H2 locs2 c2 s2 Q (F0 m 1063 ls2 [])) : W p l e room_1 s m args below meth c H locs cells slots Q (F0 m 914 ls []) := by
  obtain ⟨hx, hb, hml, hown, hall, hX, hbl, hbA, hA, hn, hLs⟩ := C0
  obtain ⟨hw, hc0, hSt, hR, hl, rfl, rfl⟩ := S0
  obtain ⟨o, h2, r, bv, hev, k1, hout, ⟨d2, f2, ev2⟩, k2, ⟨d3, f3, ev3⟩, hj⟩ := hp
  obtain ⟨d1, f1, ev1⟩ := id hev
  have m1 := ev_m_c _ _ _ _ _ _ ev1
  have m2 : hp_c o.2 ≤ hp_c h2 ∧ hp_s o.2 ≤ hp_s h2 := ev_m_c _ _ _ _ _ _ ev2
  have m3 := hJ h2 hj
  refine lv_aload_n hx hb dl_914 rfl (lv_at hl 1 rfl) ?_
  refine lq_arg hx hb hX hbl hbA hSt (lv_at hl 0 rfl) (lv_at hl 4 rfl) hLs 1 (by omega) (by decide) dl_915 dl_916 dl_918 dl_919 dl_920 ?_
  refine lq_arg hx hb hX hbl hbA hSt (lv_at hl 0 rfl) (lv_at hl 4 rfl) hLs 2 (by omega) (by decide) dl_921 dl_922 dl_924 dl_925 dl_926 ?_
  refine lv_aload_n hx hb dl_927 rfl (lv_at hl 3 rfl) ?_
  refine sw_stat (k := 59) (as := [.ref a0, .int (xs (i + 1)), .int (xs (i + 2)), .ref qo]) (rest := []) hx hb hml hown (wo_out hlt D hev hk0 hq0 k1 (mc := hp_c o.2 - hp_c h) (ms := hp_s o.2 - hp_s h) (by omega) (by omega) (hout.imp (fun h9 => ⟨h9.1, h9.2.1⟩) id)) hall wy_736 wy_734 wy_735 wy_0 ⟨by decide +kernel, by decide +kernel, by show (parseMethodDescriptor yw_out.desc).map (fun d => d.parameters.length) = some 4; decide +kernel⟩ (by decide) (by decide) hw hc0 hSt hA hR hn hl.1 (Nat.le_of_ble_eq_true rfl) dl_928 (by show _ ≤ 601024; omega) (by show _ ≤ 7293034; omega) (fun f9 H1 locs1 hg1 hw1 hc1 hS1 hR1 => ?_)
  refine lv_istore hx hb dl_931 hl (by decide) rfl (fun ls1 hl1 => ?_)
  replace hl : lv_has ls1 7 [(0, .ref b), (1, .ref a0), (2, .ref a2), (3, .ref qo), (4, .int (nI i)), (5, .int r)] := lv_sub hl1 [1, 2, 3, 4, 5, 0] rfl
  replace hSt := hS1
  refine lv_aload_n hx hb dl_933 rfl (lv_at hl 2 rfl) ?_
  refine lq_arg hx hb hX hbl hbA hSt (lv_at hl 0 rfl) (lv_at hl 4 rfl) hLs 1 (by omega) (by decide) dl_934 dl_935 dl_937 dl_938 dl_939 ?_
  refine lq_arg hx hb hX hbl hbA hSt (lv_at hl 0 rfl) (lv_at hl 4 rfl) hLs 2 (by omega) (by decide) dl_940 dl_941 dl_943 dl_944 dl_945 ?_
  refine sw_ret hlt (AsC := [.int (xs (i + 1)), .int (xs (i + 2))]) (K := []) ev2 rfl hx hb hml hown hall (sw_good2 mt_116.2.2.1) (hall _ wy_1049) mt_116 hall (by decide) (by decide) hw1 hS1 hA hR1 (by unfold hp_k at hk5 ⊢; rw [k1]; exact hk5) hq5 ⟨rfl, rfl, trivial⟩ rfl hl.1 (Nat.le_of_ble_eq_true rfl) dl_946 (by show _ ≤ 601024; omega) (by show _ ≤ 7293034; omega) (fun w z H2 locs2 hw2 hS2 hr2 hz2 hkk2 hR2 => ?_)
  cases sw_z hw1 hw2 (k2.trans k1.symm)
  rw [List.append_nil] at hw2 hr2
  have hc2 := sw_ck hc1 hkk2
  cases w with
  | none => exact False.elim hr2
  | some w =>
    have e1 : w = .int bv := hr2.1
    subst e1
    refine W.eq (g2 := F0 m 949 ls1 [.int bv]) rfl ?_
    refine lv_istore hx hb dl_949 hl (by decide) rfl (fun ls2 hl2 => ?_)
    replace hl : lv_has ls2 7 [(0, .ref b), (1, .ref a0), (2, .ref a2), (3, .ref qo), (4, .int (nI i)), (5, .int r), (6, .int bv)] := lv_sub hl2 [1, 2, 3, 4, 5, 6, 0] rfl
    refine lv_aload_n hx hb dl_951 rfl (lv_at hl 2 rfl) ?_
    refine sw_ret hlt (AsC := []) (K := []) ev3 rfl hx hb hml hown hall (sw_good2 mt_74.2.2.1) (hall _ wy_886) mt_74 hall (by decide) (by decide) hw2 hS2 hA hR2 (by unfold hp_k at hk5 ⊢; rw [k2]; exact hk5) hq5 trivial rfl hl.1 (Nat.le_of_ble_eq_true rfl) dl_952 (by show _ ≤ 601024; omega) (by show _ ≤ 7293034; omega) (fun w z H3 locs3 hw3 hS3 hr3 hz3 hkk3 hR3 => ?_)
    cases sw_z hw2 hw3 rfl
    rw [List.append_nil] at hw3 hr3
    have hc3 := sw_ck hc2 hkk3
    cases w with
    | none => exact False.elim hr3
    | some w =>
      have e3 : w = .int r := hr3.1
      subst e3
      refine W.eq (g2 := F0 m 955 ls2 [.int r]) rfl ?_
      refine lv_iload hx hb dl_955 (lv_at hl 5 rfl) ?_
      refine lv_icmp_eq (tgt := 962) hx hb dl_957 (by decide) (fun _ => ?_) (fun h9 => absurd rfl h9)
      refine lv_iload hx hb dl_962 (lv_at hl 5 rfl) ?_
      refine lv_if_ne (tgt := 979) hx hb dl_964 (by decide) (fun _ => ?_) (fun h9 => ?_)
      · refine lv_goto (tgt := 1063) hx hb dl_979 (by decide) ?_
        exact kk h2 f9 H3 locs3 ls2 _ _ hj k2 ⟨hw3, hc3, hS3, hR3, lv_sub hl [0, 1, 2, 3, 4] rfl, by omega, by omega⟩
      · have hf0 := hg1 h9
        refine lv_aload_n hx hb dl_967 rfl (lv_at hl 3 rfl) ?_
        refine lv_iconst (v := 0) hx hb dl_968 (by decide) ?_
        refine sw_lald hx hb hc3 dl_969 ?_
        rw [hf0]
        refine lv_iload hx hb dl_970 (lv_at hl 6 rfl) ?_
        refine lv_i2l hx hb dl_972 rfl ?_
        refine W.lcmp hx hb dl_973 ?_
        refine lv_if_eq (tgt := 979) hx hb dl_974 (by decide) (fun _ => ?_) (fun h8 => absurd (lg_same _) h8)
        refine lv_goto (tgt := 1063) hx hb dl_979 (by decide) ?_
        exact kk h2 f9 H3 locs3 ls2 _ _ hj k2 ⟨hw3, hc3, hS3, hR3, lv_sub hl [0, 1, 2, 3, 4] rfl, by omega, by omega⟩
set_option maxHeartbeats 4000000 in
set_option maxRecDepth 100000 in
theorem lc_data (hlt : l.stackTraces = false) (C0 : lq_C p s m args c A b L xs) (hJ : lq_H J) (hk0 : hp_k h 0 = some (7, 0)) (hk5 : hp_k h 52 = some (8, 0)) (hq0 : ad[0]? = some a0) (hq5 : ad[52]? = some a2) (hi : i + 6 ≤ L) (hp : pu_d 60 117 [.int (xs (i + 1))] h J) (S0 : lq_S D A ad h f b a0 a2 qo i s H locs ls cells slots)
    (kk : ∀ (h2 : hp_T) (f2 : Nat → Int64) (H2 : Heap) (locs2 : List Loc) (ls2 : Array Slot) (c2 s2 : Nat), J h2 → h2.1 = h.1 → lq_S D A ad h2 f2 b a0 a2 qo i s H2 locs2 ls2 c2 s2 → W p l e room_1 s m args below meth c H2 locs2 c2 s2 Q (F0 m 1063 ls2 [])) : W p l e room_1 s m args below meth c H locs cells slots Q (F0 m 982 ls []) := by
  obtain ⟨hx, hb, hml, hown, hall, hX, hbl, hbA, hA, hn, hLs⟩ := C0
  obtain ⟨hw, hc0, hSt, hR, hl, rfl, rfl⟩ := S0
  obtain ⟨h1, h2, v, ⟨d1, f1, ev1⟩, k1, ⟨d2, f2, ev2⟩, k2, hj⟩ := hp
  have m1 : hp_c h ≤ hp_c h1 ∧ hp_s h ≤ hp_s h1 := ev_m_c _ _ _ _ _ _ ev1
  have m2 : hp_c h1 ≤ hp_c h2 ∧ hp_s h1 ≤ hp_s h2 := ev_m_c _ _ _ _ _ _ ev2
  have m3 := hJ h2 hj
  refine lv_aload_n hx hb dl_982 rfl (lv_at hl 1 rfl) ?_
  refine lq_arg hx hb hX hbl hbA hSt (lv_at hl 0 rfl) (lv_at hl 4 rfl) hLs 1 (by omega) (by decide) dl_983 dl_984 dl_986 dl_987 dl_988 ?_
  refine sw_ret hlt (AsC := [.int (xs (i + 1))]) (K := []) ev1 rfl hx hb hml hown hall (sw_good2 mt_60.2.2.1) (hall _ wy_260) mt_60 hall (by decide) (by decide) hw hSt hA hR hk0 hq0 ⟨rfl, trivial⟩ rfl hl.1 (Nat.le_of_ble_eq_true rfl) dl_989 (by show _ ≤ 601024; omega) (by show _ ≤ 7293034; omega) (fun w z H1 locs1 hw1 hS1 hr1 hz1 hkk1 hR1 => ?_)
  cases sw_z hw hw1 k1
  rw [List.append_nil] at hw1 hr1
  have hc1 := sw_ck hc0 hkk1
  cases w with
  | none => exact False.elim hr1
  | some w =>
    have e1 : w = .int v := hr1.1
    subst e1
    refine W.eq (g2 := F0 m 992 ls [.int v]) rfl ?_
    replace hSt := hS1
    refine lv_aload_n hx hb dl_992 rfl (lv_at hl 2 rfl) ?_
    refine lq_arg hx hb hX hbl hbA hSt (lv_at hl 0 rfl) (lv_at hl 4 rfl) hLs 1 (by omega) (by decide) dl_993 dl_994 dl_996 dl_997 dl_998 ?_
    refine sw_ret hlt (AsC := [.int (xs (i + 1))]) (K := [.int v]) ev2 rfl hx hb hml hown hall (sw_good2 mt_117.2.2.1) (hall _ wy_1053) mt_117 hall (by decide) (by decide) hw1 hS1 hA hR1 (by unfold hp_k at hk5 ⊢; rw [k1]; exact hk5) hq5 ⟨rfl, trivial⟩ rfl hl.1 (Nat.le_of_ble_eq_true rfl) dl_999 (by show _ ≤ 601024; omega) (by show _ ≤ 7293034; omega) (fun w z H2 locs2 hw2 hS2 hr2 hz2 hkk2 hR2 => ?_)
    cases sw_z hw1 hw2 (k2.trans k1.symm)
    rw [List.append_nil] at hw2 hr2
    have hc2 := sw_ck hc1 hkk2
    cases w with
    | none => exact False.elim hr2
    | some w =>
      have e2 : w = .int v := hr2.1
      subst e2
      refine W.eq (g2 := F0 m 1002 ls [.int v, .int v]) rfl ?_
      refine lv_icmp_eq (tgt := 1063) hx hb dl_1002 (by decide) (fun _ => ?_) (fun h9 => absurd rfl h9)
      exact kk h2 f H2 locs2 ls _ _ hj k2 ⟨hw2, hc2, hS2, hR2, hl, by omega, by omega⟩
set_option maxHeartbeats 4000000 in
set_option maxRecDepth 100000 in
theorem lc_about (hlt : l.stackTraces = false) (C0 : lq_C p s m args c A b L xs) (hJ : lq_H J) (hk0 : hp_k h 0 = some (7, 0)) (hk5 : hp_k h 52 = some (8, 0)) (hq0 : ad[0]? = some a0) (hq5 : ad[52]? = some a2) (hi : i + 6 ≤ L) (hp : pu_i false 61 118 cd_about [.int (xs (i + 1))] h J) (S0 : lq_S D A ad h f b a0 a2 qo i s H locs ls cells slots)
    (kk : ∀ (h2 : hp_T) (f2 : Nat → Int64) (H2 : Heap) (locs2 : List Loc) (ls2 : Array Slot) (c2 s2 : Nat), J h2 → h2.1 = h.1 → lq_S D A ad h2 f2 b a0 a2 qo i s H2 locs2 ls2 c2 s2 → W p l e room_1 s m args below meth c H2 locs2 c2 s2 Q (F0 m 1063 ls2 [])) : W p l e room_1 s m args below meth c H locs cells slots Q (F0 m 1007 ls []) := by
  obtain ⟨hx, hb, hml, hown, hall, hX, hbl, hbA, hA, hn, hLs⟩ := C0
  obtain ⟨hw, hc0, hSt, hR, hl, rfl, rfl⟩ := S0
  obtain ⟨o, h2, r, bv, hev, k1, hout, ⟨d2, f2, ev2⟩, k2, ⟨d3, f3, ev3⟩, hj⟩ := hp
  obtain ⟨d1, f1, ev1⟩ := id hev
  have m1 := ev_m_c _ _ _ _ _ _ ev1
  have m2 : hp_c o.2 ≤ hp_c h2 ∧ hp_s o.2 ≤ hp_s h2 := ev_m_c _ _ _ _ _ _ ev2
  have m3 := hJ h2 hj
  refine lv_aload_n hx hb dl_1007 rfl (lv_at hl 1 rfl) ?_
  refine lq_arg hx hb hX hbl hbA hSt (lv_at hl 0 rfl) (lv_at hl 4 rfl) hLs 1 (by omega) (by decide) dl_1008 dl_1009 dl_1011 dl_1012 dl_1013 ?_
  refine lv_aload_n hx hb dl_1014 rfl (lv_at hl 3 rfl) ?_
  refine sw_stat (k := 61) (as := [.ref a0, .int (xs (i + 1)), .ref qo]) (rest := []) hx hb hml hown (wo_about hlt D hev hk0 hq0 k1 (mc := hp_c o.2 - hp_c h) (ms := hp_s o.2 - hp_s h) (by omega) (by omega) (hout.imp (fun h9 => ⟨h9.1, h9.2.1⟩) id)) hall wy_744 wy_742 wy_743 wy_0 ⟨by decide +kernel, by decide +kernel, by show (parseMethodDescriptor yw_about.desc).map (fun d => d.parameters.length) = some 3; decide +kernel⟩ (by decide) (by decide) hw hc0 hSt hA hR hn hl.1 (Nat.le_of_ble_eq_true rfl) dl_1015 (by show _ ≤ 601024; omega) (by show _ ≤ 7293034; omega) (fun f9 H1 locs1 hg1 hw1 hc1 hS1 hR1 => ?_)
  refine lv_istore hx hb dl_1018 hl (by decide) rfl (fun ls1 hl1 => ?_)
  replace hl : lv_has ls1 7 [(0, .ref b), (1, .ref a0), (2, .ref a2), (3, .ref qo), (4, .int (nI i)), (5, .int r)] := lv_sub hl1 [1, 2, 3, 4, 5, 0] rfl
  replace hSt := hS1
  refine lv_aload_n hx hb dl_1020 rfl (lv_at hl 2 rfl) ?_
  refine lq_arg hx hb hX hbl hbA hSt (lv_at hl 0 rfl) (lv_at hl 4 rfl) hLs 1 (by omega) (by decide) dl_1021 dl_1022 dl_1024 dl_1025 dl_1026 ?_
  refine sw_ret hlt (AsC := [.int (xs (i + 1))]) (K := []) ev2 rfl hx hb hml hown hall (sw_good2 mt_118.2.2.1) (hall _ wy_1057) mt_118 hall (by decide) (by decide) hw1 hS1 hA hR1 (by unfold hp_k at hk5 ⊢; rw [k1]; exact hk5) hq5 ⟨rfl, trivial⟩ rfl hl.1 (Nat.le_of_ble_eq_true rfl) dl_1027 (by show _ ≤ 601024; omega) (by show _ ≤ 7293034; omega) (fun w z H2 locs2 hw2 hS2 hr2 hz2 hkk2 hR2 => ?_)
  cases sw_z hw1 hw2 (k2.trans k1.symm)
  rw [List.append_nil] at hw2 hr2
  have hc2 := sw_ck hc1 hkk2
  cases w with
  | none => exact False.elim hr2
  | some w =>
    have e1 : w = .int bv := hr2.1
    subst e1
    refine W.eq (g2 := F0 m 1030 ls1 [.int bv]) rfl ?_
    refine lv_istore hx hb dl_1030 hl (by decide) rfl (fun ls2 hl2 => ?_)
    replace hl : lv_has ls2 7 [(0, .ref b), (1, .ref a0), (2, .ref a2), (3, .ref qo), (4, .int (nI i)), (5, .int r), (6, .int bv)] := lv_sub hl2 [1, 2, 3, 4, 5, 6, 0] rfl
    refine lv_aload_n hx hb dl_1032 rfl (lv_at hl 2 rfl) ?_
    refine sw_ret hlt (AsC := []) (K := []) ev3 rfl hx hb hml hown hall (sw_good2 mt_74.2.2.1) (hall _ wy_886) mt_74 hall (by decide) (by decide) hw2 hS2 hA hR2 (by unfold hp_k at hk5 ⊢; rw [k2]; exact hk5) hq5 trivial rfl hl.1 (Nat.le_of_ble_eq_true rfl) dl_1033 (by show _ ≤ 601024; omega) (by show _ ≤ 7293034; omega) (fun w z H3 locs3 hw3 hS3 hr3 hz3 hkk3 hR3 => ?_)
    cases sw_z hw2 hw3 rfl
    rw [List.append_nil] at hw3 hr3
    have hc3 := sw_ck hc2 hkk3
    cases w with
    | none => exact False.elim hr3
    | some w =>
      have e3 : w = .int r := hr3.1
      subst e3
      refine W.eq (g2 := F0 m 1036 ls2 [.int r]) rfl ?_
      refine lv_iload hx hb dl_1036 (lv_at hl 5 rfl) ?_
      refine lv_icmp_eq (tgt := 1043) hx hb dl_1038 (by decide) (fun _ => ?_) (fun h9 => absurd rfl h9)
      refine lv_iload hx hb dl_1043 (lv_at hl 5 rfl) ?_
      refine lv_if_ne (tgt := 1060) hx hb dl_1045 (by decide) (fun _ => ?_) (fun h9 => ?_)
      · refine lv_goto (tgt := 1063) hx hb dl_1060 (by decide) ?_
        exact kk h2 f9 H3 locs3 ls2 _ _ hj k2 ⟨hw3, hc3, hS3, hR3, lv_sub hl [0, 1, 2, 3, 4] rfl, by omega, by omega⟩
      · have hf0 := hg1 h9
        refine lv_aload_n hx hb dl_1048 rfl (lv_at hl 3 rfl) ?_
        refine lv_iconst (v := 0) hx hb dl_1049 (by decide) ?_
        refine sw_lald hx hb hc3 dl_1050 ?_
        rw [hf0]
        refine lv_iload hx hb dl_1051 (lv_at hl 6 rfl) ?_
        refine lv_i2l hx hb dl_1053 rfl ?_
        refine W.lcmp hx hb dl_1054 ?_
        refine lv_if_eq (tgt := 1060) hx hb dl_1055 (by decide) (fun _ => ?_) (fun h8 => absurd (lg_same _) h8)
        refine lv_goto (tgt := 1063) hx hb dl_1060 (by decide) ?_
        exact kk h2 f9 H3 locs3 ls2 _ _ hj k2 ⟨hw3, hc3, hS3, hR3, lv_sub hl [0, 1, 2, 3, 4] rfl, by omega, by omega⟩
end Cases
end
section
theorem lq_15 (w : Int32) : ∃ j : Nat, j < 16 ∧ w &&& 15 = nI j := by
  refine ⟨(w &&& 15).toBitVec.toNat, ?_, ?_⟩
  · have h1 : (w &&& 15).toBitVec = w.toBitVec &&& 15#32 := rfl
    rw [h1, BitVec.toNat_and]
    have h2 := Nat.and_le_right (n := w.toBitVec.toNat) (m := (15#32).toNat)
    have h3 : (15#32).toNat = 15 := rfl
    omega
  · unfold nI
    apply Int32.toBitVec_inj.mp
    rw [Int32.toBitVec_ofNat', BitVec.ofNat_toNat, BitVec.setWidth_eq]
theorem lq_gt {i L : Nat} (hi : i < 100020) (hL : L < 100000) : nI L - nI 6 < nI i ↔ L < i + 6 := by
  rw [Int32.lt_iff_toInt_lt, pk_sub_toInt (by omega) (by omega), nI_toInt (by omega)]
  omega
section Loop
variable {p : Program} {l : Launch} {e : Env} {s : State} {m : MethodId} {args : Array Value} {below : List Frame} {meth : Method} {c : Code} {H : Heap} {locs : List Loc} {cells slots : Nat} {Q : State → Prop} {ls : Array Slot} {D : va_G} {A : Nat → Prop} {ad : List Nat} {h : hp_T} {b L i a0 a2 qo : Nat} {f : Nat → Int64} {xs : Nat → Int32} {J : hp_T → Prop}
theorem lq_next (C0 : lq_C p s m args c A b L xs) (S0 : lq_S D A ad h f b a0 a2 qo i s H locs ls cells slots)
    (kk : ∀ ls2, lq_S D A ad h f b a0 a2 qo (i + 6) s H locs ls2 cells slots → W p l e room_1 s m args below meth c H locs cells slots Q (F0 m 23 ls2 [])) : W p l e room_1 s m args below meth c H locs cells slots Q (F0 m 1063 ls []) := by
  obtain ⟨hx, hb, hml, hown, hall, hX, hbl, hbA, hA, hn, hLs⟩ := C0
  obtain ⟨hw, hc0, hSt, hR, hl, e1, e2⟩ := S0
  refine lv_iinc (k := 4) hx hb dl_1063 hl rfl (nI_add i 6) (by decide) rfl (fun ls2 hl2 => ?_)
  refine lv_goto (tgt := 23) hx hb dl_1066 (by decide) ?_
  exact kk ls2 ⟨hw, hc0, hSt, hR, lv_sub hl2 [1, 2, 3, 4, 0] rfl, e1, e2⟩

set_option maxHeartbeats 4000000 in
set_option maxRecDepth 100000 in
theorem lq_step (hlt : l.stackTraces = false) (C0 : lq_C p s m args c A b L xs) (hJ : lq_H J) (hk0 : hp_k h 0 = some (7, 0)) (hk5 : hp_k h 52 = some (8, 0)) (hq0 : ad[0]? = some a0) (hq5 : ad[52]? = some a2) (hi : i + 6 ≤ L) (hp : pu_step J h (xs i) (xs (i + 1)) (xs (i + 2)) (xs (i + 3)) (xs (i + 4)) (xs (i + 5))) (S0 : lq_S D A ad h f b a0 a2 qo i s H locs ls cells slots)
    (kk : ∀ (h2 : hp_T) (f2 : Nat → Int64) (H2 : Heap) (locs2 : List Loc) (ls2 : Array Slot) (c2 s2 : Nat), J h2 → lq_S D A ad h2 f2 b a0 a2 qo (i + 6) s H2 locs2 ls2 c2 s2 → W p l e room_1 s m args below meth c H2 locs2 c2 s2 Q (F0 m 23 ls2 [])) : W p l e room_1 s m args below meth c H locs cells slots Q (F0 m 33 ls []) := by
  have C1 := C0
  have S1 := S0
  obtain ⟨hx, hb, hml, hown, hall, hX, hbl, hbA, hA, hn, hLs⟩ := C1
  obtain ⟨hw, hc0, hSt, hR, hl, -, -⟩ := S1
  have kn : ∀ (h2 : hp_T) (f2 : Nat → Int64) (H2 : Heap) (locs2 : List Loc) (ls2 : Array Slot) (c2 s2 : Nat), J h2 → h2.1 = h.1 → lq_S D A ad h2 f2 b a0 a2 qo i s H2 locs2 ls2 c2 s2 → W p l e room_1 s m args below meth c H2 locs2 c2 s2 Q (F0 m 1063 ls2 []) := fun h2 f2 H2 locs2 ls2 c2 s2 hj _ S2 => lq_next C0 S2 (fun ls3 S3 => kk h2 f2 H2 locs2 ls3 c2 s2 hj S3)
  refine lv_aload_n hx hb dl_33 rfl (lv_at hl 0 rfl) ?_
  refine lv_iload hx hb dl_34 (lv_at hl 4 rfl) ?_
  refine va_sld hx hb hX hbl hbA hSt (vp_in_nI (by omega) (by omega)) dl_36 ?_
  rw [nI_clamp (by omega)]
  refine lv_bipush (v := 15) hx hb dl_37 (by decide) ?_
  refine lv_iand hx hb dl_39 ?_
  obtain ⟨j, hj, ej⟩ := lq_15 (xs i)
  rw [ej]
  obtain ⟨q0, q1, q2, q3, q4, q5, q6, q7, q8, q9, q10, q11, q12, q13, q14, q15⟩ := hp
  have hcases : j = 0 ∨ j = 1 ∨ j = 2 ∨ j = 3 ∨ j = 4 ∨ j = 5 ∨ j = 6 ∨ j = 7 ∨ j = 8 ∨ j = 9 ∨ j = 10 ∨ j = 11 ∨ j = 12 ∨ j = 13 ∨ j = 14 ∨ j = 15 := by omega
  rcases hcases with rfl | rfl | rfl | rfl | rfl | rfl | rfl | rfl | rfl | rfl | rfl | rfl | rfl | rfl | rfl | rfl
  · exact lv_tableIn (off := 76) (tgt := 116) hx hb dl_40 (by decide) (by decide) (by decide +kernel) (by decide) (lc_port hlt C0 hJ hk0 hk5 hq0 hq5 hi (q0 ej) S0 kn)
  · exact lv_tableIn (off := 136) (tgt := 176) hx hb dl_40 (by decide) (by decide) (by decide +kernel) (by decide) (lc_up hlt C0 hJ hk0 hk5 hq0 hq5 hi (q1 ej) S0 kn)
  · exact lv_tableIn (off := 227) (tgt := 267) hx hb dl_40 (by decide) (by decide) (by decide +kernel) (by decide) (lc_route hlt C0 hJ hk0 hk5 hq0 hq5 hi (q2 ej) S0 kn)
  · exact lv_tableIn (off := 319) (tgt := 359) hx hb dl_40 (by decide) (by decide) (by decide +kernel) (by decide) (lc_unroute hlt C0 hJ hk0 hk5 hq0 hq5 hi (q3 ej) S0 kn)
  · exact lv_tableIn (off := 394) (tgt := 434) hx hb dl_40 (by decide) (by decide) (by decide +kernel) (by decide) (lc_lookup hlt C0 hJ hk0 hk5 hq0 hq5 hi (q4 ej) S0 kn)
  · exact lv_tableIn (off := 462) (tgt := 502) hx hb dl_40 (by decide) (by decide) (by decide +kernel) (by decide) (lc_feed hlt C0 hJ hk0 hk5 hq0 hq5 hi (q5 ej) S0 kn)
  · exact lv_tableIn (off := 566) (tgt := 606) hx hb dl_40 (by decide) (by decide) (by decide +kernel) (by decide) (lc_end hlt C0 hJ hk0 hk5 hq0 hq5 hi (q6 ej) S0 kn)
  · exact lv_tableIn (off := 602) (tgt := 642) hx hb dl_40 (by decide) (by decide) (by decide +kernel) (by decide) (lc_sum hlt C0 hJ hk0 hk5 hq0 hq5 hi (q7 ej) S0 kn)
  · exact lv_tableIn (off := 638) (tgt := 678) hx hb dl_40 (by decide) (by decide) (by decide +kernel) (by decide) (lc_copy hlt C0 hJ hk0 hk5 hq0 hq5 hi (q8 ej) S0 kn)
  · exact lv_tableIn (off := 694) (tgt := 734) hx hb dl_40 (by decide) (by decide) (by decide +kernel) (by decide) (lc_receive hlt C0 hJ hk0 hk5 hq0 hq5 hi (q9 ej) S0 kn)
  · exact lv_tableIn (off := 750) (tgt := 790) hx hb dl_40 (by decide) (by decide) (by decide +kernel) (by decide) (lc_pass hlt C0 hJ hk0 hk5 hq0 hq5 hi (q10 ej) S0 kn)
  · exact lv_tableIn (off := 806) (tgt := 846) hx hb dl_40 (by decide) (by decide) (by decide +kernel) (by decide) (lc_sent hlt C0 hJ hk0 hk5 hq0 hq5 hi (q11 ej) S0 kn)
  · exact lv_tableIn (off := 874) (tgt := 914) hx hb dl_40 (by decide) (by decide) (by decide +kernel) (by decide) (lc_out hlt C0 hJ hk0 hk5 hq0 hq5 hi (q12 ej) S0 kn)
  · exact lv_tableIn (off := 942) (tgt := 982) hx hb dl_40 (by decide) (by decide) (by decide +kernel) (by decide) (lc_data hlt C0 hJ hk0 hk5 hq0 hq5 hi (q13 ej) S0 kn)
  · exact lv_tableIn (off := 967) (tgt := 1007) hx hb dl_40 (by decide) (by decide) (by decide +kernel) (by decide) (lc_about hlt C0 hJ hk0 hk5 hq0 hq5 hi (q14 ej) S0 kn)
  · exact lv_tableOut (tgt := 1063) hx hb dl_40 (by decide) (by decide) (kn h f H locs ls cells slots (q15 ej) rfl S0)
theorem lq_loop (hlt : l.stackTraces = false) (C0 : lq_C p s m args c A b L xs) {Jn : Nat → hp_T → Prop} (hJ : ∀ n, lq_H (Jn n)) (hk : ∀ n h, Jn n h → hp_k h 0 = some (7, 0) ∧ hp_k h 52 = some (8, 0)) (hq0 : ad[0]? = some a0) (hq5 : ad[52]? = some a2)
    (hst : ∀ n h, Jn n h → 6 * n + 6 ≤ L → pu_step (Jn (n + 1)) h (xs (6 * n)) (xs (6 * n + 1)) (xs (6 * n + 2)) (xs (6 * n + 3)) (xs (6 * n + 4)) (xs (6 * n + 5)))
    (kk : ∀ (n : Nat) (h : hp_T) (f : Nat → Int64) (H : Heap) (locs : List Loc) (ls : Array Slot) (cells slots : Nat), Jn n h → lq_S D A ad h f b a0 a2 qo (6 * n) s H locs ls cells slots → W p l e room_1 s m args below meth c H locs cells slots Q (F0 m 1069 ls [])) :
    ∀ (k n : Nat) (h : hp_T) (f : Nat → Int64) (H : Heap) (locs : List Loc) (ls : Array Slot) (cells slots : Nat), L < 6 * n + 6 + 6 * k → 6 * n < L + 6 → Jn n h → lq_S D A ad h f b a0 a2 qo (6 * n) s H locs ls cells slots → W p l e room_1 s m args below meth c H locs cells slots Q (F0 m 23 ls []) := by
  have C1 := C0
  obtain ⟨hx, hb, hml, hown, hall, hX, hbl, hbA, hA, hn, hLs⟩ := C1
  intro k
  induction k with
  | zero =>
    intro n h f H locs ls cells slots hL hU hj S0
    obtain ⟨hw, hc0, hSt, hR, hl, -, -⟩ := id S0
    refine lv_iload hx hb dl_23 (lv_at hl 4 rfl) ?_
    refine lv_aload_n hx hb dl_25 rfl (lv_at hl 0 rfl) ?_
    refine va_slen hx hb hX hbl hbA hSt dl_26 ?_
    refine lv_bipush (v := nI 6) hx hb dl_27 (by decide) ?_
    refine lv_isub hx hb dl_29 ?_
    exact lv_icmp_gt (tgt := 1069) hx hb dl_30 (by decide) (fun _ => kk n h f H locs ls cells slots hj S0) (fun h9 => absurd ((lq_gt (by omega) hLs).mpr (by omega)) h9)
  | succ k ih =>
    intro n h f H locs ls cells slots hL hU hj S0
    obtain ⟨hw, hc0, hSt, hR, hl, -, -⟩ := id S0
    refine lv_iload hx hb dl_23 (lv_at hl 4 rfl) ?_
    refine lv_aload_n hx hb dl_25 rfl (lv_at hl 0 rfl) ?_
    refine va_slen hx hb hX hbl hbA hSt dl_26 ?_
    refine lv_bipush (v := nI 6) hx hb dl_27 (by decide) ?_
    refine lv_isub hx hb dl_29 ?_
    refine lv_icmp_gt (tgt := 1069) hx hb dl_30 (by decide) (fun _ => kk n h f H locs ls cells slots hj S0) (fun h9 => ?_)
    have h8 : ¬ L < 6 * n + 6 := fun h7 => h9 ((lq_gt (by omega) hLs).mpr h7)
    exact lq_step hlt C0 (hJ (n + 1)) (hk n h hj).1 (hk n h hj).2 hq0 hq5 (by omega) (hst n h hj (by omega)) S0 (fun h2 f2 H2 locs2 ls2 c2 s2 hj2 S2 => ih (n + 1) h2 f2 H2 locs2 ls2 c2 s2 (by omega) (by omega) hj2 S2)
end Loop
end
section
theorem lb_1 {i : Nat} {w : Jvm.Cond} (h : tables_1_1[i]? = some w) : w ∈ lw_tbl := List.mem_append_right _ (by have h : w ∈ tables_1_1 := List.mem_of_getElem? h; exact List.mem_append_left _ h)
theorem lb_2 {i : Nat} {w : Jvm.Cond} (h : tables_1_2[i]? = some w) : w ∈ lw_tbl := List.mem_append_right _ (by have h : w ∈ tables_1_2 := List.mem_of_getElem? h; exact List.mem_append_right _ (List.mem_append_left _ h))
theorem lb_3 {i : Nat} {w : Jvm.Cond} (h : tables_1_3[i]? = some w) : w ∈ lw_tbl := List.mem_append_right _ (by have h : w ∈ tables_1_3 := List.mem_of_getElem? h; exact List.mem_append_right _ (List.mem_append_right _ (List.mem_append_left _ h)))
theorem lb_4 {i : Nat} {w : Jvm.Cond} (h : tables_1_4[i]? = some w) : w ∈ lw_tbl := List.mem_append_right _ (by have h : w ∈ tables_1_4 := List.mem_of_getElem? h; exact List.mem_append_right _ (List.mem_append_right _ (List.mem_append_right _ (List.mem_append_left _ h))))
theorem lb_5 {i : Nat} {w : Jvm.Cond} (h : tables_1_5[i]? = some w) : w ∈ lw_tbl := List.mem_append_right _ (by have h : w ∈ tables_1_5 := List.mem_of_getElem? h; exact List.mem_append_right _ (List.mem_append_right _ (List.mem_append_right _ (List.mem_append_right _ h))))
theorem lw9_cl8 : (Jvm.Cond.classLink "RouteHouseLaw" (8 : Nat) "RouteHouse") ∈ tb_all := wd_o1 (i := 20) rfl rfl
theorem lw9_cl68 : (Jvm.Cond.classLink "RouteHouseLaw" (68 : Nat) "RouteHouseModel") ∈ tb_all := wd_o4 (i := 30) rfl rfl
theorem lw9_in7 : (Jvm.Cond.instantiable "RouteHouse" (11 : Nat)) ∈ tb_all := wd_o1 (i := 21) rfl rfl
theorem lw9_in8 : (Jvm.Cond.instantiable "RouteHouseModel" (43 : Nat)) ∈ tb_all := wd_o4 (i := 31) rfl rfl
theorem lw9_it7 : (Jvm.Cond.initialized "RouteHouse") ∈ tb_all := wd_o1 (i := 1) rfl rfl
theorem lw9_it8 : (Jvm.Cond.initialized "RouteHouseModel") ∈ tb_all := wd_o1 (i := 9) rfl rfl
theorem lw9_ml67 : (Jvm.Cond.methodLink "RouteHouseLaw" (67 : Nat) ({ cls := "RouteHouse", name := "<init>", desc := "()V" } : Jvm.MethodName)) ∈ tb_all := wd_o1 (i := 22) rfl rfl
theorem lw9_ml70 : (Jvm.Cond.methodLink "RouteHouseLaw" (70 : Nat) ({ cls := "RouteHouseModel", name := "<init>", desc := "()V" } : Jvm.MethodName)) ∈ tb_all := wd_o4 (i := 32) rfl rfl
theorem lw9_arL : (Jvm.Cond.arrayClass Jvm.ClassFile.FieldType.long) ∈ tb_all := wd_o5 (i := 101) rfl rfl
theorem lb_g {b : Nat} {s : State} (hts : ∀ w ∈ lw_tbl, w.before #[Value.ref b] s = true) (hs : (Jvm.Cond.and given_1 narrow_1).before #[Value.ref b] s = true) : sd_g s := by
  have hf := flat_of_before _ hs
  show ∀ q ∈ [("RouteHouse", 211, "no such port"), ("RouteHouse", 68, "no such mtu"), ("RouteHouse", 215, "no such beginning"), ("RouteHouse", 95, "too many routes"), ("RouteHouse", 105, "no such question about a route"), ("RouteHouse", 124, "the tape is full"), ("RouteHouse", 137, "the tape has not so many bytes"), ("RouteHouse", 139, "no header of so many words"), ("RouteHouse", 213, "no such packet"), ("RouteHouse", 176, "no such time to pass"), ("RouteHouse", 184, "no such question about a packet"), ("RouteHouse", 188, "no such byte"), ("RouteHouse", 209, "no such question")], ∃ sa : Nat, vk_R q.1 q.2.1 q.2.2 sa s
  refine List.forall_mem_cons.mpr ⟨?_, ?_⟩
  · obtain ⟨sa, _, _, _, h1, _⟩ := Cond.exactly_spec (hf (Jvm.Cond.exactly (Jvm.Term.string "RouteHouse" (211 : Nat)) "java/lang/String") (by decide +kernel))
    exact ⟨sa, vk_R.of (hts _ (lb_2 (i := 79) rfl)) h1⟩
  refine List.forall_mem_cons.mpr ⟨?_, ?_⟩
  · obtain ⟨sa, _, _, _, h1, _⟩ := Cond.exactly_spec (hf (Jvm.Cond.exactly (Jvm.Term.string "RouteHouse" (68 : Nat)) "java/lang/String") (by decide +kernel))
    exact ⟨sa, vk_R.of (hts _ (lb_2 (i := 114) rfl)) h1⟩
  refine List.forall_mem_cons.mpr ⟨?_, ?_⟩
  · obtain ⟨sa, _, _, _, h1, _⟩ := Cond.exactly_spec (hf (Jvm.Cond.exactly (Jvm.Term.string "RouteHouse" (215 : Nat)) "java/lang/String") (by decide +kernel))
    exact ⟨sa, vk_R.of (hts _ (lb_2 (i := 140) rfl)) h1⟩
  refine List.forall_mem_cons.mpr ⟨?_, ?_⟩
  · obtain ⟨sa, _, _, _, h1, _⟩ := Cond.exactly_spec (hf (Jvm.Cond.exactly (Jvm.Term.string "RouteHouse" (95 : Nat)) "java/lang/String") (by decide +kernel))
    exact ⟨sa, vk_R.of (hts _ (lb_2 (i := 157) rfl)) h1⟩
  refine List.forall_mem_cons.mpr ⟨?_, ?_⟩
  · obtain ⟨sa, _, _, _, h1, _⟩ := Cond.exactly_spec (hf (Jvm.Cond.exactly (Jvm.Term.string "RouteHouse" (105 : Nat)) "java/lang/String") (by decide +kernel))
    exact ⟨sa, vk_R.of (hts _ (lb_2 (i := 186) rfl)) h1⟩
  refine List.forall_mem_cons.mpr ⟨?_, ?_⟩
  · obtain ⟨sa, _, _, _, h1, _⟩ := Cond.exactly_spec (hf (Jvm.Cond.exactly (Jvm.Term.string "RouteHouse" (124 : Nat)) "java/lang/String") (by decide +kernel))
    exact ⟨sa, vk_R.of (hts _ (lb_2 (i := 208) rfl)) h1⟩
  refine List.forall_mem_cons.mpr ⟨?_, ?_⟩
  · obtain ⟨sa, _, _, _, h1, _⟩ := Cond.exactly_spec (hf (Jvm.Cond.exactly (Jvm.Term.string "RouteHouse" (137 : Nat)) "java/lang/String") (by decide +kernel))
    exact ⟨sa, vk_R.of (hts _ (lb_2 (i := 225) rfl)) h1⟩
  refine List.forall_mem_cons.mpr ⟨?_, ?_⟩
  · obtain ⟨sa, _, _, _, h1, _⟩ := Cond.exactly_spec (hf (Jvm.Cond.exactly (Jvm.Term.string "RouteHouse" (139 : Nat)) "java/lang/String") (by decide +kernel))
    exact ⟨sa, vk_R.of (hts _ (lb_2 (i := 233) rfl)) h1⟩
  refine List.forall_mem_cons.mpr ⟨?_, ?_⟩
  · obtain ⟨sa, _, _, _, h1, _⟩ := Cond.exactly_spec (hf (Jvm.Cond.exactly (Jvm.Term.string "RouteHouse" (213 : Nat)) "java/lang/String") (by decide +kernel))
    exact ⟨sa, vk_R.of (hts _ (lb_3 (i := 12) rfl)) h1⟩
  refine List.forall_mem_cons.mpr ⟨?_, ?_⟩
  · obtain ⟨sa, _, _, _, h1, _⟩ := Cond.exactly_spec (hf (Jvm.Cond.exactly (Jvm.Term.string "RouteHouse" (176 : Nat)) "java/lang/String") (by decide +kernel))
    exact ⟨sa, vk_R.of (hts _ (lb_3 (i := 236) rfl)) h1⟩
  refine List.forall_mem_cons.mpr ⟨?_, ?_⟩
  · obtain ⟨sa, _, _, _, h1, _⟩ := Cond.exactly_spec (hf (Jvm.Cond.exactly (Jvm.Term.string "RouteHouse" (184 : Nat)) "java/lang/String") (by decide +kernel))
    exact ⟨sa, vk_R.of (hts _ (lb_4 (i := 13) rfl)) h1⟩
  refine List.forall_mem_cons.mpr ⟨?_, ?_⟩
  · obtain ⟨sa, _, _, _, h1, _⟩ := Cond.exactly_spec (hf (Jvm.Cond.exactly (Jvm.Term.string "RouteHouse" (188 : Nat)) "java/lang/String") (by decide +kernel))
    exact ⟨sa, vk_R.of (hts _ (lb_4 (i := 21) rfl)) h1⟩
  refine List.forall_mem_cons.mpr ⟨?_, ?_⟩
  · obtain ⟨sa, _, _, _, h1, _⟩ := Cond.exactly_spec (hf (Jvm.Cond.exactly (Jvm.Term.string "RouteHouse" (209 : Nat)) "java/lang/String") (by decide +kernel))
    exact ⟨sa, vk_R.of (hts _ (lb_4 (i := 29) rfl)) h1⟩
  exact fun _ h => absurd h List.not_mem_nil
theorem lb_n {b : Nat} {s : State} (hs : (Jvm.Cond.and given_1 narrow_1).before #[Value.ref b] s = true) : sw_n s := by
  have hf := flat_of_before _ hs
  exact ⟨va_Nc.of (hf _ (by decide +kernel)), va_Nc.of (hf _ (by decide +kernel)), va_Nc.of (hf _ (by decide +kernel)), va_Nc.of (hf _ (by decide +kernel))⟩
theorem lb_h {b : Nat} {s : State} (hts : ∀ w ∈ lw_tbl, w.before #[Value.ref b] s = true) (hs : (Jvm.Cond.and given_1 narrow_1).before #[Value.ref b] s = true) : sx_h s := by
  have hf := flat_of_before _ hs
  exact ⟨sx_kept (a1 := #[Value.ref b]) (hts _ (lb_2 (i := 64) rfl)) (hf _ (by decide +kernel)) (Vm.Alike.refl s.vm) (fun _ _ h _ => h), sx_kept (a1 := #[Value.ref b]) (hts _ (lb_2 (i := 66) rfl)) (hf _ (by decide +kernel)) (Vm.Alike.refl s.vm) (fun _ _ h _ => h)⟩
theorem lb_a {b : Nat} {s : State} (hts : ∀ w ∈ lw_tbl, w.before #[Value.ref b] s = true) : sd_a s := by
  refine ⟨fun w hw ho hk => sx_word (State.WarmedH.refl s) ho hk (hts w hw), ?_⟩
  show ∀ C ∈ ["RouteHouse$Port", "RouteHouse$Waiting"], va_AO C s
  exact List.forall_mem_cons.mpr ⟨va_AO.of (hts _ (lb_1 (i := 29) rfl)), List.forall_mem_cons.mpr ⟨va_AO.of (hts _ (lb_1 (i := 137) rfl)), fun _ h => absurd h List.not_mem_nil⟩⟩
section LawB
variable {p : Program} {l : Launch} {e : Env} {R : Room} {s : State} {m : MethodId} {args : Array Value} {below : List Frame} {meth : Method} {c : Code} {H : Heap} {locs : List Loc} {cells slots : Nat} {Q : State → Prop} {cc : ByteArray} {nL pc : Nat} {ls : Array Slot} {Ts : List Jvm.Cond} {own : String} {D : va_G} {A : Nat → Prop} {ad : List Nat} {h h2 : hp_T} {rest : List Value}
-- what a caller keeps, where only new cells may change
theorem lb_R (h1 : sx_h s) (h2 : sd_a s) (h3 : sd_g s) (hSt : va_S (fun q => s.heap.size ≤ q) s.heap H locs) : sw_R s H := by
  refine ⟨h1, h2, h3, fun a cell h5 h6 => ?_⟩
  have h7 := (Array.getElem?_eq_some_iff.mp h5).1
  rw [hSt.2.1 a h7 (by omega)]
  exact h5
-- a constructor of the evaluator
theorem sw_ini (hlt : l.stackTraces = false) {d f0 k x b qb : Nat} {K : List Value} (hev : ev_m d f0 k [.ref b] h = some (.inl none, h2)) (hk : tb_ok k = true) (hx : p.tables.exec = Jvm.exec) (hb : c.code = cc) (hml : c.maxLocals = nL) (hown : s.vm.findClass own = some m.cls) (hts : ∀ w ∈ Ts, w.before args s = true)
    (hG : GoodIn Ts (sd_ws k)) (hl : (Jvm.Cond.methodLink own x (tb_y k)).before args s = true) (hlm : lf_m k 2) (hall : ∀ w ∈ tb_all, w.before args s = true) (hrf : tb_rf k + 1 ≤ R.frames) (hrl : 8 + (tb_ml k + 11) + tb_rl k ≤ R.locals)
    (hw : sd_w D A ad h s H) (hSt : va_S A s.heap H locs) (hA : ∀ q, s.heap.size ≤ q → A q) (hR : sw_R s H) (hqb : ad[b]? = some qb) (hna : 0 = tb_na k) (hsz : ls.size = nL) (hK : (K.map fun v => v.category).sum ≤ 8) (hdg : decode cc pc = .ok (.invokespecial x, 3)) (hRc : cells + (hp_c h2 - hp_c h) ≤ R.cells) (hRs : slots + (hp_s h2 - hp_s h) ≤ R.slots)
    (kk : ∀ (z : List Nat) (H1 : Heap) (locs1 : List Loc), sd_w D A (ad ++ z) h2 s H1 → va_S A s.heap H1 locs1 → W p l e R s m args below meth c H1 locs1 (cells + (hp_c h2 - hp_c h)) (slots + (hp_s h2 - hp_s h)) Q (F0 m (pc + 3) ls K)) :
    W p l e R s m args below meth c H locs cells slots Q (F0 m pc ls (.ref qb :: K)) := by
  obtain ⟨-, g2, g3, g4, -, -, g6⟩ := hlm
  obtain ⟨g7, g8, g9⟩ := g6 rfl
  have hmm : hp_c h ≤ hp_c h2 ∧ hp_s h ≤ hp_s h2 := ev_m_c d f0 _ _ _ _ hev
  have hM := (sd_main (l := l) tb_true hlt D d f0 k _ h _ hk hev ad H.size [.ref qb] ⟨⟨qb, hqb, rfl⟩, trivial⟩ (hp_c h2 - hp_c h) (hp_s h2 - hp_s h) (by show _ = hp_c h2; omega) (by show _ = hp_s h2; omega)).1 none rfl
  have cb : CallB R s args own x (tb_y k) (tb_b k) (tb_ml k) none (sd_ws k) (sd_rm k (hp_c h2 - hp_c h) (hp_s h2 - hp_s h)) (hp_c h2 - hp_c h) (hp_s h2 - hp_s h) (tb_na k) := callB_of _ hts hG (by unfold sd_ws; rw [g8]) rfl rfl (hall _ g2) hl g4 ⟨hrf, hrl⟩
  refine sd_callR (va_runI (As := []) ⟨hx, hb, hml, hown, hts⟩ hM ⟨cb, g7, hall _ g9⟩ ⟨sd_Pc_blind, sw_pre hw hR _⟩ rfl hna hsz rfl (lv_room hK) hdg ⟨hRc, hRs⟩) (fun w st₀ t H1 Lc e0 e1 hvm hq hL => ?_)
  obtain ⟨v2, w2, z2, q1, q2, q3, q4, q5⟩ := hq
  cases q1
  cases q2
  subst e1
  have hsub := sw_sub hw hSt hA
  cases w with
  | some w => exact False.elim q3
  | none => exact kk z2 t.heap (locs ++ Lc) (sd_w_moved hvm.symm (sd_w_own q4 (fun q h9 => hsub q (sd_w_at q4 q h9).1))) (sd_keepS e0 rfl hSt hsub hL q5)
-- new long[1]
theorem sw_newl (hx : p.tables.exec = Jvm.exec) (hb : c.code = cc) (hall : ∀ w ∈ tb_all, w.before args s = true) (hw : sd_w D A ad h s H) (hSt : va_S A s.heap H locs) (hA : ∀ q, s.heap.size ≤ q → A q) (hdg : decode cc pc = .ok (.newarray .long, 2)) (hRc : cells + 1 ≤ R.cells) (hRs : slots + 1 ≤ R.slots)
    (kk : ∀ (q : Nat) (H1 : Heap), sd_w D A ad h s H1 → sw_c D A ad q (fun _ => 0) s H1 → va_S A s.heap H1 locs → W p l e R s m args below meth c H1 locs (cells + 1) (slots + 1) Q (F0 m (pc + 2) ls (.ref q :: rest))) :
    W p l e R s m args below meth c H locs cells slots Q (F0 m pc ls (.int 1 :: rest)) := by
  obtain ⟨ws, tys, hK, hP, hD, hr⟩ := hw
  refine va_newa hx hb (atype := .long) (hall _ lw9_arL) (ty := .long) rfl hK hP hD hSt hA (N' := 1) (a0 := (1, .inr (.inl (fun _ => 0)))) (fun _ => rfl) (by decide) (by decide) (by decide) hRc hRs hdg (fun q cA H1 hK1 hP1 hD1 hS1 => ?_)
  have hKL : va_K D vwCl [(cA, .long)] s := ⟨hK1.1, fun k q9 hk => hK1.2 (tys.length + k) q9 (by rw [List.getElem?_append_right (by omega)]; simpa using hk)⟩
  have hq : q ∉ ad := by
    intro h9
    obtain ⟨i, hi⟩ := List.getElem?_of_mem h9
    obtain ⟨hlw, hla, hr9⟩ := hr
    have hlt : i < h.1.length := by rw [← hla]; exact (List.getElem?_eq_some_iff.mp hi).1
    obtain ⟨a, E, g1, g2, -⟩ := hr9 i (h.1[i]).1 (h.1[i]).2 (by unfold hp_k; rw [List.getElem?_eq_getElem hlt])
    cases Option.some.inj (g1.symm.trans hi)
    have g3 := hD1.1 i ws.length (q, E) (q, .inl (cA, 1, .inr (.inl (fun _ => 0)))) (by rw [List.getElem?_append_left (List.getElem?_eq_some_iff.mp g2).1]; exact g2) (by rw [List.getElem?_append_right (Nat.le_refl _)]; simp) rfl
    omega
  obtain ⟨g1, g2⟩ := sw_split hP1 hD1 hr hK hKL hq
  exact kk q H1 g1 g2 hS1
end LawB
end
section
/-! THE CLAIM OUT OF ONE WALK OF THE LAW'S BODY. Your part is whole_start (and what it stands on); all else here is the same for every law, but numbers. -/
def R_law : String := "RouteHouseLaw"
def lw_P (b : Addr) (xs : List Int32) (args : Array Value) (s : State) : Prop := args = #[.ref b] ∧ s.IntsAt b xs ∧ xs.length ≤ 3072 ∧ (Jvm.Cond.and given_1 narrow_1).before args s = true
def lw_Q (_ : Array Value) (s : State) (o : Outcome) (t : State) : Prop := o = .returned (some (.int 1)) ∧ Framed s o t [] 601024 7293034
def lw_Z (below : List Frame) (a : Array Value) (s : State) : State → Prop := fun t => ∃ o, t.status = .running ∧ Ended t below o ∧ lw_Q a s o t
/-- the law's own end, with 1 on the stack, nothing written that was there before, its room as the claim has it -/
theorem lw_ret {p : Program} {l : Launch} {e : Env} {s : State} {m : MethodId} {below : List Frame} {meth : Method} {c : Code} {b : Nat} (hx : p.tables.exec = Jvm.exec) (hb : c.code = code) (hr : meth.sig.returnType = ret) (hlocks : meth.locks = false) {pc : Nat} {H : Heap} {ls : Array Slot} (hdg : decode code pc = .ok (.ireturn, 1)) : W p l e room_1 s m #[Value.ref b] below meth c H [] 601024 7293034 (lw_Z below #[Value.ref b] s) (F0 m pc ls [.int 1]) := by
  intro T hT X
  obtain ⟨fs, hret, hrun, hended, hW, hframe⟩ := X.leave (v := some (.int 1)) (hlocks := hlocks) (fun h => by rw [hr] at h; cases h)
  have hmeth' : T.vm.method? m = some meth := X.method'
  refine ⟨T.setFrames fs, ?_, .returned (some (.int 1)), hrun, hended, rfl, ⟨_, rfl⟩, hW, hframe⟩
  jvm_step X.here [X.here.top, hx, hb, hdg, hmeth', hr, ret, narrow_b1]
  (try refine ⟨rfl, ?_⟩); (try refine ⟨rfl, ?_⟩)
  first | (intro acts; rw [hret _ acts rfl rfl rfl]) | rw [hret _ _ rfl rfl rfl]
  exact Steps.refl _
/-- what holds at the law's entry: the machine, the code, the tables' words (any of lw_tbl by 'hts w (by decide +kernel)'), the script of L ints xs at the cell b, what the Statement gives of the start (any of its parts by flat_of_before) -/
def lw_At (p : Program) (s : State) (m : MethodId) (meth : Method) (c : Code) (b L : Nat) (xs : Nat → Int32) : Prop :=
  p.tables.exec = Jvm.exec ∧ c.code = code ∧ meth.sig.returnType = ret ∧ c.maxLocals = 7 ∧ s.vm.findClass R_law = some m.cls ∧ (∀ w ∈ lw_tbl, w.before #[Value.ref b] s = true) ∧ va_X b L xs s s.heap ∧ b < s.heap.size ∧ meth.locks = false ∧ (Jvm.Cond.and given_1 narrow_1).before #[Value.ref b] s = true
theorem lb_i0 : Jvm.Cond.instantiable tc_0 5 ∈ tb_all := wd_o1 (i := 200) rfl rfl
theorem lb_i1 : Jvm.Cond.instantiable tc_1 8 ∈ tb_all := wd_o1 (i := 94) rfl rfl
theorem lb_i2 : Jvm.Cond.instantiable tc_2 2 ∈ tb_all := wd_o1 (i := 75) rfl rfl
theorem lb_i3 : Jvm.Cond.instantiable tc_3 3 ∈ tb_all := wd_o1 (i := 30) rfl rfl
theorem lb_i4 : Jvm.Cond.instantiable tc_4 5 ∈ tb_all := wd_o1 (i := 48) rfl rfl
theorem lb_i5 : Jvm.Cond.instantiable tc_5 13 ∈ tb_all := wd_o1 (i := 138) rfl rfl
theorem lb_i6 : Jvm.Cond.instantiable tc_6 2 ∈ tb_all := wd_o1 (i := 131) rfl rfl
theorem lb_i7 : Jvm.Cond.instantiable tc_7 11 ∈ tb_all := wd_o1 (i := 21) rfl rfl
theorem lb_i8 : Jvm.Cond.instantiable tc_8 43 ∈ tb_all := wd_o4 (i := 31) rfl rfl
theorem lb_k1 {s : State} {args : Array Value} (hall : ∀ w ∈ tb_all, w.before args s = true) {C : String} {T : u_T} {N n : Nat} {c : Nat} (hv : vwCl[c]? = some (C, T, N)) (hu : ∀ w ∈ u_ws C T N, w ∈ tb_all) (hi : Jvm.Cond.instantiable C n ∈ tb_all) : ∃ (cC : ClassId) (iS : Nat → Nat), ∀ q : vw_C, vwCl[c]? = some q → u_Kn s q.1 q.2.1 q.2.2 cC iS := by
  obtain ⟨cC, iS, h⟩ := u_known hall hu (hall _ hi)
  refine ⟨cC, iS, fun q hq => ?_⟩
  cases Option.some.inj (hv.symm.trans hq)
  exact h
theorem lb_k {s : State} {args : Array Value} (hall : ∀ w ∈ tb_all, w.before args s = true) (c : Nat) : ∃ (cC : ClassId) (iS : Nat → Nat), ∀ q : vw_C, vwCl[c]? = some q → u_Kn s q.1 q.2.1 q.2.2 cC iS := by
  match c with
  | 0 => exact lb_k1 hall (c := 0) rfl uw_0 lb_i0
  | 1 => exact lb_k1 hall (c := 1) rfl uw_1 lb_i1
  | 2 => exact lb_k1 hall (c := 2) rfl uw_2 lb_i2
  | 3 => exact lb_k1 hall (c := 3) rfl uw_3 lb_i3
  | 4 => exact lb_k1 hall (c := 4) rfl uw_4 lb_i4
  | 5 => exact lb_k1 hall (c := 5) rfl uw_5 lb_i5
  | 6 => exact lb_k1 hall (c := 6) rfl uw_6 lb_i6
  | 7 => exact lb_k1 hall (c := 7) rfl uw_7 lb_i7
  | 8 => exact lb_k1 hall (c := 8) rfl uw_8 lb_i8
  | n + 9 =>
    obtain ⟨cC, iS, -⟩ := lb_k1 hall (c := 0) rfl uw_0 lb_i0
    exact ⟨cC, iS, fun q hq => by cases hq⟩
def hp_0 : hp_T := ([], fun _ _ => 0, fun _ _ => none, 0, 0)
theorem lb_w {s : State} {args : Array Value} (hall : ∀ w ∈ tb_all, w.before args s = true) (A : Nat → Prop) : ∃ D : va_G, sd_w D A [] hp_0 s s.heap := by
  refine ⟨(fun c => (lb_k hall c).choose, fun c => (lb_k hall c).choose_spec.choose), [], [], ⟨fun c q hq => (lb_k hall c).choose_spec.choose_spec q hq, fun k q hk => ?_⟩, fun k q hk => ?_, ⟨fun i j p q hi hj _ => ?_, fun k q hk => ?_⟩, rfl, rfl, fun i t n hi => ?_⟩
  · cases hk
  · cases hk
  · cases hi
  · cases hk
  · cases hi
-- the two constructors, one behind the other, on the empty heap
def li_I (J : hp_T → Prop) : Prop := ∃ hC hM : hp_T, pr_ 46 [.ref 0] (hp_new hp_0 7 0 11) (.inl none, hC) ∧ hC.1.length = 52 ∧ pr_ 73 [.ref 52] (hp_new hC 8 0 43) (.inl none, hM) ∧ J hM
def lb_rs : Nat → ev_R := fun x => if x = 8 then (3, 7, 11, 0) else (3, 8, 43, 0)
theorem lb_loc {p : Program} {b : Nat} {s : State} {H : Heap} {locs : List Loc} (hSt : va_S (fun q => s.heap.size ≤ q) s.heap H locs) : ∀ q ∈ locs, s.heap.size ≤ q.base := fun q hq => hSt.2.2 q hq
set_option maxHeartbeats 4000000 in
set_option maxRecDepth 100000 in
theorem lb_start {p : Program} {e : Env} {s : State} {m : MethodId} {below : List Frame} {meth : Method} {c : Code} (l : Launch) (hlt : l.stackTraces = false) {b L : Nat} {xs : Nat → Int32} (hL : L ≤ 3072) (C0 : lw_At p s m meth c b L xs)
    {Jn : Nat → hp_T → Prop} (hI : li_I (Jn 0)) (hJ : ∀ n, lq_H (Jn n)) (hk : ∀ n h, Jn n h → hp_k h 0 = some (7, 0) ∧ hp_k h 52 = some (8, 0))
    (hst : ∀ n h, Jn n h → 6 * n + 6 ≤ L → pu_step (Jn (n + 1)) h (xs (6 * n)) (xs (6 * n + 1)) (xs (6 * n + 2)) (xs (6 * n + 3)) (xs (6 * n + 4)) (xs (6 * n + 5))) :
    W p l e room_1 s m #[Value.ref b] below meth c s.heap [] 0 0 (lw_Z below #[Value.ref b] s) (entryFrame m ([Value.ref b] : List Value).toArray 7) := by
  obtain ⟨hx, hb, hr, hml, hown, hts, hX, hbl, hlocks, hgv⟩ := C0
  have hall : ∀ w ∈ tb_all, w.before #[Value.ref b] s = true := fun w hw => hts w (List.mem_filter.mp hw).1
  have f1 := lb_h hts hgv
  have f2 := lb_a hts
  have f3 := lb_g hts hgv
  have f4 := lb_n hgv
  obtain ⟨D, hw0⟩ := lb_w hall (fun q => s.heap.size ≤ q)
  obtain ⟨hC, hM, ⟨d1, g1, ev1⟩, hlen, ⟨d2, g2, ev2⟩, hj⟩ := hI
  have m1 : hp_c (hp_new hp_0 7 0 11) ≤ hp_c hC ∧ hp_s (hp_new hp_0 7 0 11) ≤ hp_s hC := ev_m_c _ _ _ _ _ _ ev1
  have m2 : hp_c (hp_new hC 8 0 43) ≤ hp_c hM ∧ hp_s (hp_new hC 8 0 43) ≤ hp_s hM := ev_m_c _ _ _ _ _ _ ev2
  have e3 : hp_c (hp_new hC 8 0 43) = hp_c hC + 1 := rfl
  have e4 : hp_s (hp_new hC 8 0 43) = hp_s hC + 43 := rfl
  have m3 := hJ 0 hM hj
  have hl := lv_entry [Value.ref b] (n := 7) (by show 1 ≤ 7; decide)
  rw [lg_entry_eq]
  generalize (lg_sl [Value.ref b] ++ List.replicate (7 - (lg_sl [Value.ref b]).length) Slot.unset).toArray = ls at hl ⊢
  replace hl : lv_has ls 7 [(0, .ref b)] := hl
  have hown : s.vm.findClass "RouteHouseLaw" = some m.cls := hown
  have hA : ∀ q, s.heap.size ≤ q → (fun q => s.heap.size ≤ q) q := fun q h => h
  have hnull : ∀ (ad : List Nat) (i : Nat) (v : Value), (List.replicate 7 Value.null)[i]? = some v → v ≠ .null → ∃ w : Value, sd_v ad v w ∧ (i, w) ∈ ([] : List (Nat × Value)) := by
    intro ad i v h1 h2
    have h3 := List.mem_of_getElem? h1
    exact absurd (List.eq_of_mem_replicate h3) h2
  refine sd_h tb_true.1 hx hb hml (own := "RouteHouseLaw") (rs := lb_rs) (Ts := tb_all) hown hall (i := .new 8) (L := List.replicate 7 .null) (st := []) (st' := [.ref 0]) (h := hp_0) (h' := hp_new hp_0 7 0 11) rfl dl_0 (fun _ => ⟨_, _, rfl, uw_7, hall _ lw9_cl8, hall _ lw9_in7, hall _ lw9_it7⟩) hw0 va_S.rf hA ⟨rfl, [], lv_sub hl [] rfl, hnull _⟩ trivial (by decide) (by decide) (c0 := 0) (s0 := 0) rfl rfl (by show 1 ≤ 601024; decide) (by show 11 ≤ 7293034; decide) (fun z H1 locs1 S1 c1 s1 hw1 hS1 hl1 e1 e2 => ?_)
  obtain ⟨a0, K, hq0, rfl, hK⟩ := sd_l_r hl1
  cases K with
  | cons _ _ => exact False.elim hK
  | nil =>
  rw [Nat.add_zero] at e1 e2
  subst e1
  subst e2
  refine lv_dup hx hb dl_3 rfl ?_
  refine sw_ini hlt (k := 46) (K := [.ref a0]) ev1 rfl hx hb hml hown hall (sw_good2 mt_46.2.2.1) (hall _ lw9_ml67) mt_46 hall (by decide) (by decide) hw1 hS1 hA (lb_R f1 f2 f3 hS1) hq0 rfl hl.1 (Nat.le_of_ble_eq_true rfl) dl_4 (by show _ ≤ 601024; omega) (by show _ ≤ 7293034; omega) (fun z2 H2 locs2 hw2 hS2 => ?_)
  refine lv_astore_n (i := 1) hx hb dl_7 rfl hl (by decide) rfl (fun ls2 hl2 => ?_)
  have hq0 : ([] ++ z ++ z2)[0]? = some a0 := by rw [List.getElem?_append_left (List.getElem?_eq_some_iff.mp hq0).1]; exact hq0
  generalize hadE : [] ++ z ++ z2 = ad2 at hw2 hq0
  have hc2 : hp_c (hp_new hp_0 7 0 11) + (hp_c hC - hp_c (hp_new hp_0 7 0 11)) = hp_c hC := by omega
  have hs2 : hp_s (hp_new hp_0 7 0 11) + (hp_s hC - hp_s (hp_new hp_0 7 0 11)) = hp_s hC := by omega
  rw [hc2, hs2]
  refine sd_h tb_true.1 hx hb hml (own := "RouteHouseLaw") (rs := lb_rs) (Ts := tb_all) hown hall (i := .new 68) (L := List.replicate 7 .null) (st := []) (st' := [.ref hC.1.length]) (h := hC) (h' := hp_new hC 8 0 43) rfl dl_8 (fun _ => ⟨_, _, rfl, uw_8, hall _ lw9_cl68, hall _ lw9_in8, hall _ lw9_it8⟩) hw2 hS2 hA ⟨rfl, [], lv_sub hl2 [] rfl, hnull _⟩ trivial (by decide) (by decide) (c0 := 0) (s0 := 0) rfl rfl (by show hp_c hC + 1 ≤ 601024 + 0; omega) (by show hp_s hC + 43 ≤ 7293034 + 0; omega) (fun z3 H3 locs3 S3 c3 s3 hw3 hS3 hl3 e5 e6 => ?_)
  rw [hlen] at hl3
  obtain ⟨a2, K, hq5, rfl, hK⟩ := sd_l_r hl3
  cases K with
  | cons _ _ => exact False.elim hK
  | nil =>
  rw [Nat.add_zero] at e5 e6
  subst e5
  subst e6
  have hq0 : (ad2 ++ z3)[0]? = some a0 := by rw [List.getElem?_append_left (List.getElem?_eq_some_iff.mp hq0).1]; exact hq0
  refine lv_dup hx hb dl_11 rfl ?_
  refine sw_ini hlt (k := 73) (K := [.ref a2]) ev2 rfl hx hb hml hown hall (sw_good2 mt_73.2.2.1) (hall _ lw9_ml70) mt_73 hall (by decide) (by decide) hw3 hS3 hA (lb_R f1 f2 f3 hS3) hq5 rfl hl2.1 (Nat.le_of_ble_eq_true rfl) dl_12 (by show _ ≤ 601024; omega) (by show _ ≤ 7293034; omega) (fun z4 H4 locs4 hw4 hS4 => ?_)
  refine lv_astore_n (i := 2) hx hb dl_15 rfl hl2 (by decide) rfl (fun ls4 hl4 => ?_)
  have hq0 : (ad2 ++ z3 ++ z4)[0]? = some a0 := by rw [List.getElem?_append_left (List.getElem?_eq_some_iff.mp hq0).1]; exact hq0
  have hq5 : (ad2 ++ z3 ++ z4)[52]? = some a2 := by rw [List.getElem?_append_left (List.getElem?_eq_some_iff.mp hq5).1]; exact hq5
  generalize ad2 ++ z3 ++ z4 = ad at hw4 hq0 hq5
  have hc4 : hp_c (hp_new hC 8 0 43) + (hp_c hM - hp_c (hp_new hC 8 0 43)) = hp_c hM := by omega
  have hs4 : hp_s (hp_new hC 8 0 43) + (hp_s hM - hp_s (hp_new hC 8 0 43)) = hp_s hM := by omega
  rw [hc4, hs4]
  refine lv_iconst (v := 1) hx hb dl_16 (by decide) ?_
  refine sw_newl hx hb hall hw4 hS4 hA dl_17 (by show _ ≤ 601024; omega) (by show _ ≤ 7293034; omega) (fun qo H5 hw5 hc5 hS5 => ?_)
  refine lv_astore_n (i := 3) hx hb dl_19 rfl hl4 (by decide) rfl (fun ls5 hl5 => ?_)
  refine lv_iconst (v := 0) hx hb dl_20 (by decide) ?_
  refine lv_istore hx hb dl_21 hl5 (by decide) rfl (fun ls6 hl6 => ?_)
  refine lq_loop (A := fun q => s.heap.size ≤ q) hlt ⟨hx, hb, hml, hown, hall, hX, hbl, by omega, hA, f4, by omega⟩ hJ hk hq0 hq5 hst (fun n h f H locs ls cells slots hj9 S9 => ?_) (L / 6 + 1) 0 hM (fun _ => 0) H5 locs4 ls6 _ _ (by omega) (by omega) hj ⟨hw5, hc5, hS5, lb_R f1 f2 f3 hS5, lv_sub hl6 [4, 3, 2, 1, 0] rfl, rfl, rfl⟩
  obtain ⟨-, -, hS9, -, -, rfl, rfl⟩ := S9
  have m9 := hJ n h hj9
  refine lv_iconst (v := 1) hx hb dl_1069 (by decide) ?_
  refine va_forget (fun q hq => hS9.2.2 q hq) ?_
  refine W.widen (k := 601024) (n := 7293034) m9.1 m9.2 ?_
  exact lw_ret hx hb hr hlocks dl_1070
end
section
section Runs
-- runs of the evaluator with enough fuel
def rg (k pc : Nat) (L st : List Value) (h : hp_T) (o : ev_O) : Prop := ∃ N : Nat, ∀ d f0 g : Nat, N ≤ d → N ≤ f0 → N ≤ g → ev_1 (ev_m d f0) g k pc L st h = some o
def rm (k : Nat) (as : List Value) (h : hp_T) (o : ev_O) : Prop := ∃ N : Nat, ∀ d f : Nat, N ≤ d → N ≤ f → ev_m d f k as h = some o
variable {k pc pc' x ci fk n a b r : Nat} {i : Instr} {L L' st st' as : List Value} {h h' h2 : hp_T} {o : ev_O} {v w u j : Int32}
theorem rm_pr (hr : rm k as h o) : pr_ k as h o := by
  obtain ⟨N, hN⟩ := hr
  exact ⟨N, N, hN N N (Nat.le_refl _) (Nat.le_refl _)⟩
theorem rm_in (hl : as.length ≤ tb_ml k) (hL : as ++ List.replicate (tb_ml k - as.length) .null = L) (hr : rg k 0 L [] h o) : rm k as h o := by
  obtain ⟨N, hN⟩ := hr
  subst hL
  refine ⟨N + 1, fun d f h1 h2 => ?_⟩
  obtain ⟨d, rfl⟩ : ∃ e, d = e + 1 := ⟨d - 1, by omega⟩
  rw [ev_m, if_pos hl]
  exact hN d f f (by omega) (by omega) (by omega)
theorem rg_st (hs : ∀ call g, ev_1 call (g + 1) k pc L st h = ev_1 call g k pc' L' st' h') (kk : rg k pc' L' st' h' o) : rg k pc L st h o := by
  obtain ⟨N, hN⟩ := kk
  refine ⟨N + 1, fun d f0 g h1 h2 h3 => ?_⟩
  obtain ⟨g, rfl⟩ : ∃ e, g = e + 1 := ⟨g - 1, by omega⟩
  rw [hs]
  exact hN d f0 g (by omega) (by omega) (by omega)
theorem rg_p (hi : tb_ins k pc = some i) (hp : ev_p i pc L st = some (pc', L', st')) (kk : rg k pc' L' st' h o) : rg k pc L st h o :=
  rg_st (fun call g => by rw [ev_1_s]; unfold ev_b; rw [hi]; simp only [hp]) kk
theorem rg_h (hi : tb_ins k pc = some i) (hp : ev_p i pc L st = none) (hh : ev_h (tb_rs k) i st h = some (st', h')) (hl : pc + ev_len i = pc') (kk : rg k pc' L st' h' o) : rg k pc L st h o := by
  subst hl
  exact rg_st (fun call g => by rw [ev_1_s]; unfold ev_b; rw [hi]; simp only [hp, hh]) kk
theorem rg_o (hs : ∀ call g, ev_1 call (g + 1) k pc L st h = some o) : rg k pc L st h o := by
  refine ⟨1, fun d f0 g h1 h2 h3 => ?_⟩
  obtain ⟨g, rfl⟩ : ∃ e, g = e + 1 := ⟨g - 1, by omega⟩
  exact hs _ _
-- a branch
theorem rg_bt {c : Bool} {t : Nat} (hi : tb_ins k pc = some i) (hp : ev_p i pc L st = some (if c = true then t else pc', L', st')) (hc : c = true) (kk : rg k t L' st' h o) : rg k pc L st h o := by
  rw [if_pos hc] at hp
  exact rg_p hi hp kk
theorem rg_bf {c : Bool} {t : Nat} (hi : tb_ins k pc = some i) (hp : ev_p i pc L st = some (if c = true then t else pc', L', st')) (hc : c = false) (kk : rg k pc' L' st' h o) : rg k pc L st h o := by
  rw [if_neg (by rw [hc]; simp)] at hp
  exact rg_p hi hp kk
-- constants
theorem rg_ic {z : Int} (hi : tb_ins k pc = some (.iconst z)) (hv : Int32.ofInt z = v) (kk : rg k (pc + 1) L (.int v :: st) h o) : rg k pc L st h o := by
  subst hv
  exact rg_p hi rfl kk
theorem rg_bi {z : Int} (hi : tb_ins k pc = some (.bipush z)) (hv : (Int8.ofInt z).toInt32 = v) (kk : rg k (pc + 2) L (.int v :: st) h o) : rg k pc L st h o := by
  subst hv
  exact rg_p hi rfl kk
theorem rg_si {z : Int} (hi : tb_ins k pc = some (.sipush z)) (hv : (Int16.ofInt z).toInt32 = v) (kk : rg k (pc + 3) L (.int v :: st) h o) : rg k pc L st h o := by
  subst hv
  exact rg_p hi rfl kk
theorem rg_ld {z1 z2 : Nat} (hi : tb_ins k pc = some (.ldc x)) (hr : tb_rs k x = (4, z1, z2, v)) (kk : rg k (pc + 2) L (.int v :: st) h o) : rg k pc L st h o :=
  rg_h hi rfl (by simp only [ev_h]; rw [hr]; rfl) rfl kk
theorem rg_lw {z1 z2 : Nat} (hi : tb_ins k pc = some (.ldc_w x)) (hr : tb_rs k x = (4, z1, z2, v)) (kk : rg k (pc + 3) L (.int v :: st) h o) : rg k pc L st h o :=
  rg_h hi rfl (by simp only [ev_h]; rw [hr]; rfl) rfl kk
theorem rg_dv (hi : tb_ins k pc = some .idiv) (hv : ¬ v = 0) (kk : rg k (pc + 1) L (.int (w / v) :: st) h o) : rg k pc L (.int v :: .int w :: st) h o :=
  rg_p hi (by simp only [ev_p]; rw [if_neg hv]) kk
theorem rg_rm (hi : tb_ins k pc = some .irem) (hv : ¬ v = 0) (kk : rg k (pc + 1) L (.int (w - w / v * v) :: st) h o) : rg k pc L (.int v :: .int w :: st) h o :=
  rg_p hi (by simp only [ev_p]; rw [if_neg hv]) kk
-- the heap
def wz (h : hp_T) (a k : Nat) (v : Int32) : hp_T := hp_zw h a (upd (hp_z h a) k v)
def wc (h : hp_T) (a : Nat) (u : Int32) (b : Nat) (w v : Int32) : hp_T := hp_zw h b (va_cpy (hp_z h a) (hp_z h b) u.toNatClampNeg w.toNatClampNeg v.toNatClampNeg)
def dz (v : Int32) : Prop := v = 0 ∨ v = 1
theorem dz_0 : dz 0 := Or.inl rfl
theorem dz_1 : dz 1 := Or.inr rfl
def dzb (v : Int32) : Bool := decide (v = 0) || decide (v = 1)
theorem dz_of (hv : dzb v = true) : dz v := by
  unfold dzb at hv
  simp only [Bool.or_eq_true, decide_eq_true_eq] at hv
  exact hv
def ai (t : Nat) (h : hp_T) (a : Nat) (j : Int32) : Prop := ∃ n, hp_k h a = some (t, n) ∧ ev_in j n = true
def aib (t : Nat) (h : hp_T) (a : Nat) (j : Int32) : Bool := match hp_k h a with
  | some (t2, n) => decide (t2 = t) && ev_in j n
  | none => false
theorem ai_of {t : Nat} (hb : aib t h a j = true) : ai t h a j := by
  unfold aib at hb
  split at hb
  · rename_i t2 n e
    simp only [Bool.and_eq_true, decide_eq_true_eq] at hb
    exact ⟨n, by rw [e, hb.1], hb.2⟩
  · cases hb
def ac (t : Nat) (h : hp_T) (a : Nat) (u : Int32) (b : Nat) (w v : Int32) : Prop := (¬ u < 0 ∧ ¬ w < 0 ∧ ¬ v < 0) ∧ (∃ n, hp_k h a = some (t, n) ∧ u.toNatClampNeg + v.toNatClampNeg ≤ n) ∧ ∃ n, hp_k h b = some (t, n) ∧ w.toNatClampNeg + v.toNatClampNeg ≤ n
def acl (t : Nat) (h : hp_T) (a m : Nat) : Bool := match hp_k h a with
  | some (t2, n) => decide (t2 = t) && decide (m ≤ n)
  | none => false
def acb (t : Nat) (h : hp_T) (a : Nat) (u : Int32) (b : Nat) (w v : Int32) : Bool := decide (¬ u < 0 ∧ ¬ w < 0 ∧ ¬ v < 0) && (acl t h a (u.toNatClampNeg + v.toNatClampNeg) && acl t h b (w.toNatClampNeg + v.toNatClampNeg))
theorem acl_of {t m : Nat} (hb : acl t h a m = true) : ∃ n, hp_k h a = some (t, n) ∧ m ≤ n := by
  unfold acl at hb
  split at hb
  · rename_i t2 n e
    simp only [Bool.and_eq_true, decide_eq_true_eq] at hb
    exact ⟨n, by rw [e, hb.1], hb.2⟩
  · cases hb
theorem ac_of {t : Nat} (hb : acb t h a u b w v = true) : ac t h a u b w v := by
  unfold acb at hb
  simp only [Bool.and_eq_true, decide_eq_true_eq] at hb
  exact ⟨hb.1, acl_of hb.2.1, acl_of hb.2.2⟩
theorem rg_gz {z : Int32} (hi : tb_ins k pc = some (.getfield x)) (hr : tb_rs k x = (1, ci, fk, z)) (hf : ev_rr (tb_ft ci fk) = false) (hk : hp_k h a = some (ci, 0)) (kk : rg k (pc + 3) L (.int (hp_z h a fk) :: st) h o) : rg k pc L (.ref a :: st) h o :=
  rg_h hi rfl (by simp only [ev_h]; rw [hr, if_pos ⟨rfl, hk⟩, ev_fv, if_neg (by rw [hf]; simp)]) rfl kk
theorem rg_gp {z : Int32} (hi : tb_ins k pc = some (.getfield x)) (hr : tb_rs k x = (1, ci, fk, z)) (hf : ev_rr (tb_ft ci fk) = true) (hk : hp_k h a = some (ci, 0)) (hp : hp_p h a fk = some r) (kk : rg k (pc + 3) L (.ref r :: st) h o) : rg k pc L (.ref a :: st) h o :=
  rg_h hi rfl (by simp only [ev_h]; rw [hr, if_pos ⟨rfl, hk⟩, ev_fv, if_pos hf, hp]; rfl) rfl kk
theorem rg_pi {z : Int32} (hi : tb_ins k pc = some (.putfield x)) (hr : tb_rs k x = (1, ci, fk, z)) (hf : tb_ft ci fk = .int) (hk : hp_k h a = some (ci, 0)) (e : h' = wz h a fk v) (kk : rg k (pc + 3) L st h' o) : rg k pc L (.int v :: .ref a :: st) h o := by
  subst e
  exact rg_h hi rfl (by simp only [ev_h]; rw [hr, if_pos ⟨rfl, hk, by rw [hf]; rfl, by rw [hf]; rfl, by rw [hf]; rfl⟩]; rfl) rfl kk
theorem rg_pb {z : Int32} (hi : tb_ins k pc = some (.putfield x)) (hr : tb_rs k x = (1, ci, fk, z)) (hf : tb_ft ci fk = .boolean) (hk : hp_k h a = some (ci, 0)) (hv : dz v) (e : h' = wz h a fk v) (kk : rg k (pc + 3) L st h' o) : rg k pc L (.int v :: .ref a :: st) h o := by
  subst e
  exact rg_h hi rfl (by simp only [ev_h]; rw [hr, if_pos ⟨rfl, hk, by rw [hf]; rfl, by rw [hf]; rcases hv with rfl | rfl <;> rfl, by rw [hf]; rcases hv with rfl | rfl <;> rfl⟩]; rfl) rfl kk
theorem rg_pp {z : Int32} (hi : tb_ins k pc = some (.putfield x)) (hr : tb_rs k x = (1, ci, fk, z)) (hf : ev_rr (tb_ft ci fk) = true) (hk : hp_k h a = some (ci, 0)) (e : h' = hp_pw h a fk (some b)) (kk : rg k (pc + 3) L st h' o) : rg k pc L (.ref b :: .ref a :: st) h o := by
  subst e
  exact rg_h hi rfl (by simp only [ev_h]; rw [hr, if_pos ⟨rfl, hk, hf⟩]) rfl kk
theorem rg_ia (hi : tb_ins k pc = some .iaload) (hk : ai 64 h a j) (kk : rg k (pc + 1) L (.int (hp_z h a j.toNatClampNeg) :: st) h o) : rg k pc L (.int j :: .ref a :: st) h o := by
  obtain ⟨n, h1, h2⟩ := hk
  exact rg_h hi rfl (by simp only [ev_h, h1]; rw [if_pos ⟨trivial, h2⟩]) rfl kk
theorem rg_ba {t : Nat} (ht : t = 65 ∨ t = 66) (hi : tb_ins k pc = some .baload) (hk : ai t h a j) (kk : rg k (pc + 1) L (.int (hp_z h a j.toNatClampNeg) :: st) h o) : rg k pc L (.int j :: .ref a :: st) h o := by
  obtain ⟨n, h1, h2⟩ := hk
  exact rg_h hi rfl (by simp only [ev_h, h1]; rw [if_pos ⟨ht, h2⟩]) rfl kk
theorem rg_aa {t : Nat} (ht : 100 ≤ t) (hi : tb_ins k pc = some .aaload) (hk : ai t h a j) (hp : hp_p h a j.toNatClampNeg = some r) (kk : rg k (pc + 1) L (.ref r :: st) h o) : rg k pc L (.int j :: .ref a :: st) h o := by
  obtain ⟨n, h1, h2⟩ := hk
  exact rg_h hi rfl (by simp only [ev_h, h1]; rw [if_pos ⟨ht, h2⟩, hp]; rfl) rfl kk
theorem rg_is (hi : tb_ins k pc = some .iastore) (hk : ai 64 h a j) (e : h' = wz h a j.toNatClampNeg v) (kk : rg k (pc + 1) L st h' o) : rg k pc L (.int v :: .int j :: .ref a :: st) h o := by
  obtain ⟨n, h1, h2⟩ := hk
  subst e
  exact rg_h hi rfl (by simp only [ev_h, h1]; rw [if_pos ⟨trivial, h2⟩]; rfl) rfl kk
theorem rg_bs {t : Nat} {ty : FieldType} (ht : t = 65 ∨ t = 66) (hty : ev_ty t = ty) (hi : tb_ins k pc = some .bastore) (hk : ai t h a j) (e : h' = wz h a j.toNatClampNeg (vp_nar ty v)) (kk : rg k (pc + 1) L st h' o) : rg k pc L (.int v :: .int j :: .ref a :: st) h o := by
  obtain ⟨n, h1, h2⟩ := hk
  subst e
  subst hty
  exact rg_h hi rfl (by simp only [ev_h, h1]; rw [if_pos ⟨ht, h2⟩]; rfl) rfl kk
theorem rg_as {t : Nat} (ht : t < 64) (hi : tb_ins k pc = some .aastore) (hk : ai (100 + t) h a j) (hb : hp_k h b = some (t, 0)) (e : h' = hp_pw h a j.toNatClampNeg (some b)) (kk : rg k (pc + 1) L st h' o) : rg k pc L (.ref b :: .int j :: .ref a :: st) h o := by
  obtain ⟨n, h1, h2⟩ := hk
  subst e
  exact rg_h hi rfl (by simp only [ev_h, h1]; rw [if_pos ⟨by omega, h2, by rw [hb]; simp, by omega⟩]) rfl kk
theorem rg_al {t : Nat} (ht : 64 ≤ t) (hi : tb_ins k pc = some .arraylength) (hk : hp_k h a = some (t, n)) (kk : rg k (pc + 1) L (.int (Int32.ofNat n) :: st) h o) : rg k pc L (.ref a :: st) h o :=
  rg_h hi rfl (by simp only [ev_h, hk]; rw [if_pos ht]) rfl kk
theorem rg_na {y : Jvm.ClassFile.ArrayType} {t : Nat} (ht : ev_at y = t) (h6 : 64 ≤ t) (hi : tb_ins k pc = some (.newarray y)) (hv : ¬ v < 0 ∧ v.toNatClampNeg ≤ 100000) (e : h' = hp_new h t v.toNatClampNeg v.toNatClampNeg) (kk : rg k (pc + 2) L (.ref h.1.length :: st) h' o) : rg k pc L (.int v :: st) h o := by
  subst e
  subst ht
  exact rg_h hi rfl (by simp only [ev_h]; rw [if_pos ⟨hv.1, hv.2, h6⟩]) rfl kk
theorem rg_nq {z1 : Nat} {z : Int32} (hi : tb_ins k pc = some (.anewarray x)) (hr : tb_rs k x = (3, ci, z1, z)) (hv : ¬ v < 0 ∧ v.toNatClampNeg ≤ 100000) (e : h' = hp_new h (100 + ci) v.toNatClampNeg v.toNatClampNeg) (kk : rg k (pc + 3) L (.ref h.1.length :: st) h' o) : rg k pc L (.int v :: st) h o := by
  subst e
  exact rg_h hi rfl (by simp only [ev_h]; rw [hr, if_pos ⟨hv.1, hv.2, rfl⟩]) rfl kk
theorem rg_nw {z1 : Nat} {z : Int32} (hi : tb_ins k pc = some (.new x)) (hr : tb_rs k x = (3, ci, z1, z)) (hc : ci < 64) (e : h' = hp_new h ci 0 z1) (kk : rg k (pc + 3) L (.ref h.1.length :: st) h' o) : rg k pc L st h o := by
  subst e
  exact rg_h hi rfl (by simp only [ev_h]; rw [hr, if_pos ⟨rfl, hc⟩]) rfl kk
theorem rg_oi {z1 z2 : Nat} {z : Int32} (hi : tb_ins k pc = some (.invokespecial x)) (hr : tb_rs k x = (8, z1, z2, z)) (hl : st.length ≤ 8) (kk : rg k (pc + 3) L st h o) : rg k pc L (.ref a :: st) h o :=
  rg_h hi rfl (by simp only [ev_h]; rw [hr, if_pos ⟨rfl, hl⟩]) rfl kk
theorem rg_cp {z1 z2 t : Nat} {z : Int32} (ht : 64 ≤ t ∧ t < 100) (hi : tb_ins k pc = some (.invokestatic x)) (hr : tb_rs k x = (5, z1, z2, z)) (hl : st.length ≤ 8) (hc : ac t h a u b w v) (e : h' = wc h a u b w v) (kk : rg k (pc + 3) L st h' o) : rg k pc L (.int v :: .int w :: .ref b :: .int u :: .ref a :: st) h o := by
  obtain ⟨⟨c1, c2, c3⟩, ⟨n, h1, h2⟩, n2, h3, h4⟩ := hc
  subst e
  exact rg_h hi rfl (by simp only [ev_h]; rw [hr, if_pos ⟨rfl, hl⟩]; simp only [h1, h3]; rw [if_pos ⟨trivial, ht.1, ht.2, c1, c2, c3, h2, h4⟩]; rfl) rfl kk
theorem rg_mx {z1 z2 : Nat} {z : Int32} (hi : tb_ins k pc = some (.invokestatic x)) (hr : tb_rs k x = (6, z1, z2, z)) (hl : st.length ≤ 8) (hq : ∀ q ∈ st.head?, ∀ q2, q ≠ .ref q2) (kk : rg k (pc + 3) L (.int (if w < v then v else w) :: st) h o) : rg k pc L (.int v :: .int w :: st) h o := by
  refine rg_h hi rfl (st' := .int (if w < v then v else w) :: st) (h' := h) ?_ rfl kk
  rcases st with _ | ⟨q, st⟩
  · simp only [ev_h]; rw [hr, if_pos ⟨rfl, hl⟩]
  · cases q with
    | ref q2 => exact absurd rfl (hq _ rfl q2)
    | _ => simp only [ev_h]; rw [hr, if_pos ⟨rfl, hl⟩]
theorem rg_mn {z1 z2 : Nat} {z : Int32} (hi : tb_ins k pc = some (.invokestatic x)) (hr : tb_rs k x = (7, z1, z2, z)) (hl : st.length ≤ 8) (hq : ∀ q ∈ st.head?, ∀ q2, q ≠ .ref q2) (kk : rg k (pc + 3) L (.int (if v < w then v else w) :: st) h o) : rg k pc L (.int v :: .int w :: st) h o := by
  refine rg_h hi rfl (st' := .int (if v < w then v else w) :: st) (h' := h) ?_ rfl kk
  rcases st with _ | ⟨q, st⟩
  · simp only [ev_h]; rw [hr, if_neg (by simp), if_pos ⟨rfl, hl⟩]
  · cases q with
    | ref q2 => exact absurd rfl (hq _ rfl q2)
    | _ => simp only [ev_h]; rw [hr, if_neg (by simp), if_pos ⟨rfl, hl⟩]
-- the ends
theorem rg_ri {ty : FieldType} (hi : tb_ins k pc = some .ireturn) (hr : tb_rt k = some ty) (hn : narrow ty (.int v) = .int v) : rg k pc L [.int v] h (.inl (some (.int v)), h) :=
  rg_o (fun call g => by rw [ev_1_s]; unfold ev_b; rw [hi]; simp only [ev_p, ev_h, hr]; rw [if_pos hn])
theorem dz_n (hv : dz v) : narrow .boolean (.int v) = .int v := by rcases hv with rfl | rfl <;> rfl
theorem rg_rv (hi : tb_ins k pc = some .return_) (hr : tb_rt k = none) : rg k pc L [] h (.inl none, h) :=
  rg_o (fun call g => by rw [ev_1_s]; unfold ev_b; rw [hi]; simp only [ev_p, ev_h]; rw [if_pos hr])
theorem rg_th {q z1 : Nat} {z : Int32} (hi : tb_ins k pc = some (.new x)) (hr : tb_rs k x = (9, q, z1, z)) (hl : st.length ≤ 8) : rg k pc L st h (.inr q, hp_thr h) :=
  rg_o (fun call g => by rw [ev_1_s]; unfold ev_b; rw [hi]; simp only [ev_p, ev_h]; rw [hr, if_neg (by simp)]; simp only []; rw [if_pos ⟨trivial, hl⟩])
-- calls
theorem rg_call {k2 : Nat} {rest : List Value} (hs : ∀ call g, ev_1 call (g + 1) k pc L st h = (match call k2 as h with
      | some (.inl v, h') => ev_1 call g k (pc + 3) L (v.toList ++ rest) h'
      | some (.inr q, h') => some (.inr q, h')
      | none => none)) {v : Option Value} (hc : rm k2 as h (.inl v, h2)) (kk : rg k (pc + 3) L (v.toList ++ rest) h2 o) : rg k pc L st h o := by
  obtain ⟨N1, h1⟩ := hc
  obtain ⟨N2, h3⟩ := kk
  refine ⟨N1 + N2 + 1, fun d f0 g q1 q2 q3 => ?_⟩
  obtain ⟨g, rfl⟩ : ∃ e, g = e + 1 := ⟨g - 1, by omega⟩
  rw [hs, h1 d f0 (by omega) (by omega)]
  exact h3 d f0 g (by omega) (by omega) (by omega)
theorem rg_callX {k2 q : Nat} {rest : List Value} (hs : ∀ call g, ev_1 call (g + 1) k pc L st h = (match call k2 as h with
      | some (.inl v, h') => ev_1 call g k (pc + 3) L (v.toList ++ rest) h'
      | some (.inr q, h') => some (.inr q, h')
      | none => none)) (hc : rm k2 as h (.inr q, h2)) : rg k pc L st h (.inr q, h2) := by
  obtain ⟨N1, h1⟩ := hc
  refine ⟨N1 + 1, fun d f0 g q1 q2 q3 => ?_⟩
  obtain ⟨g, rfl⟩ : ∃ e, g = e + 1 := ⟨g - 1, by omega⟩
  rw [hs, h1 d f0 (by omega) (by omega)]
theorem rg_v9 {k2 z1 : Nat} {z : Int32} {rest ar : List Value} (hi : tb_ins k pc = some (.invokevirtual x)) (hr : tb_rs k x = (2, k2, z1, z)) (hn : tb_na k2 = n) (hl : n ≤ st.length) (hd : st.drop n = .ref b :: rest) (ht : .ref b :: (st.take n).reverse = as) (h8 : rest.length ≤ 8) (hk : hp_k h b = some (tb_ci k2, 0)) : ∀ (call : Nat → List Value → hp_T → Option ev_O) (g : Nat), ev_1 call (g + 1) k pc L st h = (match call k2 as h with
      | some (.inl v, h') => ev_1 call g k (pc + 3) L (v.toList ++ rest) h'
      | some (.inr q, h') => some (.inr q, h')
      | none => none) := by
  intro call g
  rw [ev_1_s]
  unfold ev_b
  rw [hi]
  simp only [ev_p, ev_h, hr, hn]
  rw [if_pos ⟨trivial, hl⟩]
  simp only [hd]
  rw [if_pos ⟨h8, hk⟩, ht]
  generalize call k2 as h = y
  rcases y with _ | ⟨_ | _, _⟩ <;> rfl
theorem rg_s9 {k2 z1 : Nat} {z : Int32} {rest ar : List Value} (hi : tb_ins k pc = some (.invokestatic x)) (hh : ev_h (tb_rs k) (.invokestatic x) st h = none) (hr : tb_rs k x = (2, k2, z1, z)) (hn : tb_na k2 = n) (hl : n ≤ st.length) (hd : st.drop n = rest) (ht : (st.take n).reverse = as) (h8 : rest.length ≤ 8) : ∀ (call : Nat → List Value → hp_T → Option ev_O) (g : Nat), ev_1 call (g + 1) k pc L st h = (match call k2 as h with
      | some (.inl v, h') => ev_1 call g k (pc + 3) L (v.toList ++ rest) h'
      | some (.inr q, h') => some (.inr q, h')
      | none => none) := by
  intro call g
  rw [ev_1_s]
  unfold ev_b
  rw [hi]
  simp only [ev_p, hh, hr, hn, hd]
  rw [if_pos ⟨trivial, hl, h8⟩, ht]
  generalize call k2 as h = y
  rcases y with _ | ⟨_ | _, _⟩ <;> rfl
theorem rg_i9 {k2 z1 : Nat} {z : Int32} {rest : List Value} (hi : tb_ins k pc = some (.invokespecial x)) (hr : tb_rs k x = (2, k2, z1, z)) (hn : tb_na k2 = n) (hl : n ≤ st.length) (hd : st.drop n = .ref b :: rest) (ht : .ref b :: (st.take n).reverse = as) (h8 : rest.length ≤ 8) (hc : rm k2 as h (.inl none, h2)) (kk : rg k (pc + 3) L rest h2 o) : rg k pc L st h o := by
  have hh : ev_h (tb_rs k) (.invokespecial x) st h = none := by
    rcases st with _ | ⟨q, st⟩
    · rfl
    · cases q <;> simp [ev_h, hr]
  obtain ⟨N1, h1⟩ := hc
  obtain ⟨N2, h3⟩ := kk
  refine ⟨N1 + N2 + 1, fun d f0 g q1 q2 q3 => ?_⟩
  obtain ⟨g, rfl⟩ : ∃ e, g = e + 1 := ⟨g - 1, by omega⟩
  rw [ev_1_s]
  unfold ev_b
  rw [hi]
  simp only [ev_p, hh, hr, hn]
  rw [if_pos ⟨trivial, hl⟩]
  simp only [hd]
  rw [if_pos h8, ht, h1 d f0 (by omega) (by omega)]
  exact h3 d f0 g (by omega) (by omega) (by omega)
theorem rg_s0 {z1 k2 : Nat} {z : Int32} (hr : tb_rs k x = (2, k2, z1, z)) : ev_h (tb_rs k) (.invokestatic x) st h = none := by
  simp only [ev_h]
  split
  · simp [hr]
  · simp [hr]
  · rfl
-- what the method's own text is built of
def dg (c : Bool) (x : Option ev_O) : Option ev_O := if c = true then x else none
def db (c : Bool) (x y : Option ev_O) : Option ev_O := if c = true then x else y
def dl (x : hp_T) (f : hp_T → Option ev_O) : Option ev_O := f x
def dp (x : Option Nat) (f : Nat → Option ev_O) : Option ev_O := match x with
  | some r => f r
  | none => none
def dn (t : Nat) (h : hp_T) (a : Nat) (f : Nat → Option ev_O) : Option ev_O := match hp_k h a with
  | some (t2, n) => if t2 = t then f n else none
  | none => none
def dv (x : Option ev_O) (f : hp_T → Option ev_O) : Option ev_O := match x with
  | some (.inl none, h) => f h
  | some (.inr q, h) => some (.inr q, h)
  | _ => none
def di (x : Option ev_O) (f : Int32 → hp_T → Option ev_O) : Option ev_O := match x with
  | some (.inl (some (.int v)), h) => f v h
  | some (.inr q, h) => some (.inr q, h)
  | _ => none
theorem dg_e {c : Bool} {x : Option ev_O} (hB : dg c x = some o) : c = true ∧ x = some o := by
  unfold dg at hB
  split at hB
  · rename_i q; exact ⟨q, hB⟩
  · cases hB
theorem db_e {c : Bool} {x y : Option ev_O} (hB : db c x y = some o) : (c = true ∧ x = some o) ∨ (c = false ∧ y = some o) := by
  unfold db at hB
  cases c with
  | true => exact Or.inl ⟨rfl, hB⟩
  | false => exact Or.inr ⟨rfl, hB⟩
theorem dl_e {x : hp_T} {f : hp_T → Option ev_O} (hB : dl x f = some o) : ∃ h', h' = x ∧ f h' = some o := ⟨x, rfl, hB⟩
theorem dp_e {x : Option Nat} {f : Nat → Option ev_O} (hB : dp x f = some o) : ∃ r, x = some r ∧ f r = some o := by
  unfold dp at hB
  split at hB
  · exact ⟨_, rfl, hB⟩
  · cases hB
theorem dn_e {t : Nat} {f : Nat → Option ev_O} (hB : dn t h a f = some o) : ∃ n, hp_k h a = some (t, n) ∧ f n = some o := by
  unfold dn at hB
  split at hB
  · rename_i t2 n e
    split at hB
    · rename_i q; subst q; exact ⟨n, e, hB⟩
    · cases hB
  · cases hB
theorem dv_e {x : Option ev_O} {f : hp_T → Option ev_O} (hB : dv x f = some o) : (∃ h', x = some (.inl none, h') ∧ f h' = some o) ∨ ∃ q h', x = some (.inr q, h') ∧ o = (.inr q, h') := by
  unfold dv at hB
  split at hB
  · exact Or.inl ⟨_, rfl, hB⟩
  · exact Or.inr ⟨_, _, rfl, (Option.some.inj hB).symm⟩
  · cases hB
theorem di_e {x : Option ev_O} {f : Int32 → hp_T → Option ev_O} (hB : di x f = some o) : (∃ v h', x = some (.inl (some (.int v)), h') ∧ f v h' = some o) ∨ ∃ q h', x = some (.inr q, h') ∧ o = (.inr q, h') := by
  unfold di at hB
  split at hB
  · exact Or.inl ⟨_, _, rfl, hB⟩
  · exact Or.inr ⟨_, _, rfl, (Option.some.inj hB).symm⟩
  · cases hB
end Runs
end
