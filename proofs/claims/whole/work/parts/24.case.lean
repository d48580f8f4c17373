theorem wy_264 : (Jvm.Cond.methodLink "RouteHouseLaw" (71 : Nat) ({ cls := "RouteHouseLaw", name := "port", desc := "(LRouteHouse;III)I" } : Jvm.MethodName)) ∈ tb_all := wd_o2 (i := 24) rfl rfl
theorem wy_265 : (Jvm.Cond.static ({ cls := "RouteHouseLaw", name := "port", desc := "(LRouteHouse;III)I" } : Jvm.MethodName)) ∈ tb_all := wd_o2 (i := 25) rfl rfl
theorem wy_0 : (Jvm.Cond.initialized "RouteHouseLaw") ∈ tb_all := wd_o1 (i := 0) rfl rfl
theorem wy_266 : (Jvm.Cond.codeWith ({ cls := "RouteHouseLaw", name := "port", desc := "(LRouteHouse;III)I" } : Jvm.MethodName) method_3_code (5 : Nat) (Option.some Jvm.ClassFile.FieldType.int) [((0 : Nat), (7 : Nat), (10 : Nat), (13 : Nat)), ((0 : Nat), (7 : Nat), (14 : Nat), (15 : Nat))]) ∈ tb_all := wd_o2 (i := 26) rfl rfl
theorem wy_890 : (Jvm.Cond.methodLink "RouteHouseLaw" (76 : Nat) ({ cls := "RouteHouseModel", name := "port", desc := "(III)V" } : Jvm.MethodName)) ∈ tb_all := wd_o4 (i := 170) rfl rfl
theorem wy_886 : (Jvm.Cond.methodLink "RouteHouseLaw" (77 : Nat) ({ cls := "RouteHouseModel", name := "thrown", desc := "()I" } : Jvm.MethodName)) ∈ tb_all := wd_o4 (i := 166) rfl rfl
theorem wy_361 : (Jvm.Cond.methodLink "RouteHouseLaw" (81 : Nat) ({ cls := "RouteHouseLaw", name := "up", desc := "(LRouteHouse;IZ[J)I" } : Jvm.MethodName)) ∈ tb_all := wd_o2 (i := 121) rfl rfl
theorem wy_362 : (Jvm.Cond.static ({ cls := "RouteHouseLaw", name := "up", desc := "(LRouteHouse;IZ[J)I" } : Jvm.MethodName)) ∈ tb_all := wd_o2 (i := 122) rfl rfl
theorem wy_363 : (Jvm.Cond.codeWith ({ cls := "RouteHouseLaw", name := "up", desc := "(LRouteHouse;IZ[J)I" } : Jvm.MethodName) method_4_code (5 : Nat) (Option.some Jvm.ClassFile.FieldType.int) [((0 : Nat), (17 : Nat), (20 : Nat), (13 : Nat))]) ∈ tb_all := wd_o2 (i := 123) rfl rfl
theorem wy_901 : (Jvm.Cond.methodLink "RouteHouseLaw" (84 : Nat) ({ cls := "RouteHouseModel", name := "up", desc := "(IZ)Z" } : Jvm.MethodName)) ∈ tb_all := wd_o4 (i := 181) rfl rfl
theorem wy_368 : (Jvm.Cond.methodLink "RouteHouseLaw" (85 : Nat) ({ cls := "RouteHouseLaw", name := "route", desc := "(LRouteHouse;IIII[J)I" } : Jvm.MethodName)) ∈ tb_all := wd_o2 (i := 128) rfl rfl
theorem wy_369 : (Jvm.Cond.static ({ cls := "RouteHouseLaw", name := "route", desc := "(LRouteHouse;IIII[J)I" } : Jvm.MethodName)) ∈ tb_all := wd_o2 (i := 129) rfl rfl
theorem wy_370 : (Jvm.Cond.codeWith ({ cls := "RouteHouseLaw", name := "route", desc := "(LRouteHouse;IIII[J)I" } : Jvm.MethodName) method_5_code (7 : Nat) (Option.some Jvm.ClassFile.FieldType.int) [((0 : Nat), (14 : Nat), (17 : Nat), (15 : Nat)), ((0 : Nat), (14 : Nat), (21 : Nat), (13 : Nat)), ((0 : Nat), (14 : Nat), (25 : Nat), (25 : Nat))]) ∈ tb_all := wd_o2 (i := 130) rfl rfl
theorem wy_905 : (Jvm.Cond.methodLink "RouteHouseLaw" (88 : Nat) ({ cls := "RouteHouseModel", name := "route", desc := "(IIII)I" } : Jvm.MethodName)) ∈ tb_all := wd_o4 (i := 185) rfl rfl
theorem wy_408 : (Jvm.Cond.methodLink "RouteHouseLaw" (89 : Nat) ({ cls := "RouteHouseLaw", name := "unroute", desc := "(LRouteHouse;II[J)I" } : Jvm.MethodName)) ∈ tb_all := wd_o2 (i := 168) rfl rfl
theorem wy_409 : (Jvm.Cond.static ({ cls := "RouteHouseLaw", name := "unroute", desc := "(LRouteHouse;II[J)I" } : Jvm.MethodName)) ∈ tb_all := wd_o2 (i := 169) rfl rfl
theorem wy_410 : (Jvm.Cond.codeWith ({ cls := "RouteHouseLaw", name := "unroute", desc := "(LRouteHouse;II[J)I" } : Jvm.MethodName) method_6_code (5 : Nat) (Option.some Jvm.ClassFile.FieldType.int) [((0 : Nat), (17 : Nat), (20 : Nat), (15 : Nat))]) ∈ tb_all := wd_o2 (i := 170) rfl rfl
theorem wy_916 : (Jvm.Cond.methodLink "RouteHouseLaw" (92 : Nat) ({ cls := "RouteHouseModel", name := "unroute", desc := "(II)Z" } : Jvm.MethodName)) ∈ tb_all := wd_o4 (i := 196) rfl rfl
theorem wy_419 : (Jvm.Cond.methodLink "RouteHouseLaw" (93 : Nat) ({ cls := "RouteHouseLaw", name := "lookup", desc := "(LRouteHouse;II[J)I" } : Jvm.MethodName)) ∈ tb_all := wd_o2 (i := 179) rfl rfl
theorem wy_420 : (Jvm.Cond.static ({ cls := "RouteHouseLaw", name := "lookup", desc := "(LRouteHouse;II[J)I" } : Jvm.MethodName)) ∈ tb_all := wd_o2 (i := 180) rfl rfl
theorem wy_421 : (Jvm.Cond.codeWith ({ cls := "RouteHouseLaw", name := "lookup", desc := "(LRouteHouse;II[J)I" } : Jvm.MethodName) method_7_code (5 : Nat) (Option.some Jvm.ClassFile.FieldType.int) [((0 : Nat), (10 : Nat), (13 : Nat), (15 : Nat))]) ∈ tb_all := wd_o2 (i := 181) rfl rfl
theorem wy_920 : (Jvm.Cond.methodLink "RouteHouseLaw" (95 : Nat) ({ cls := "RouteHouseModel", name := "lookup", desc := "(II)I" } : Jvm.MethodName)) ∈ tb_all := wd_o4 (i := 200) rfl rfl
theorem wy_431 : (Jvm.Cond.methodLink "RouteHouseLaw" (96 : Nat) ({ cls := "RouteHouseLaw", name := "feed", desc := "(LRouteHouse;IIIII[J)I" } : Jvm.MethodName)) ∈ tb_all := wd_o2 (i := 191) rfl rfl
theorem wy_432 : (Jvm.Cond.static ({ cls := "RouteHouseLaw", name := "feed", desc := "(LRouteHouse;IIIII[J)I" } : Jvm.MethodName)) ∈ tb_all := wd_o2 (i := 192) rfl rfl
theorem wy_433 : (Jvm.Cond.codeWith ({ cls := "RouteHouseLaw", name := "feed", desc := "(LRouteHouse;IIIII[J)I" } : Jvm.MethodName) method_8_code (8 : Nat) (Option.some Jvm.ClassFile.FieldType.int) [((0 : Nat), (16 : Nat), (19 : Nat), (39 : Nat))]) ∈ tb_all := wd_o2 (i := 193) rfl rfl
theorem wy_928 : (Jvm.Cond.methodLink "RouteHouseLaw" (99 : Nat) ({ cls := "RouteHouseModel", name := "feed", desc := "(IIIII)I" } : Jvm.MethodName)) ∈ tb_all := wd_o4 (i := 208) rfl rfl
theorem wy_458 : (Jvm.Cond.methodLink "RouteHouseLaw" (100 : Nat) ({ cls := "RouteHouseLaw", name := "end", desc := "(LRouteHouse;I)I" } : Jvm.MethodName)) ∈ tb_all := wd_o2 (i := 218) rfl rfl
theorem wy_459 : (Jvm.Cond.static ({ cls := "RouteHouseLaw", name := "end", desc := "(LRouteHouse;I)I" } : Jvm.MethodName)) ∈ tb_all := wd_o2 (i := 219) rfl rfl
theorem wy_460 : (Jvm.Cond.codeWith ({ cls := "RouteHouseLaw", name := "end", desc := "(LRouteHouse;I)I" } : Jvm.MethodName) method_9_code (3 : Nat) (Option.some Jvm.ClassFile.FieldType.int) [((0 : Nat), (5 : Nat), (8 : Nat), (15 : Nat))]) ∈ tb_all := wd_o2 (i := 220) rfl rfl
theorem wy_932 : (Jvm.Cond.methodLink "RouteHouseLaw" (103 : Nat) ({ cls := "RouteHouseModel", name := "end", desc := "(I)V" } : Jvm.MethodName)) ∈ tb_all := wd_o4 (i := 212) rfl rfl
theorem wy_466 : (Jvm.Cond.methodLink "RouteHouseLaw" (104 : Nat) ({ cls := "RouteHouseLaw", name := "sum", desc := "(LRouteHouse;I)I" } : Jvm.MethodName)) ∈ tb_all := wd_o2 (i := 226) rfl rfl
theorem wy_467 : (Jvm.Cond.static ({ cls := "RouteHouseLaw", name := "sum", desc := "(LRouteHouse;I)I" } : Jvm.MethodName)) ∈ tb_all := wd_o2 (i := 227) rfl rfl
theorem wy_468 : (Jvm.Cond.codeWith ({ cls := "RouteHouseLaw", name := "sum", desc := "(LRouteHouse;I)I" } : Jvm.MethodName) method_10_code (3 : Nat) (Option.some Jvm.ClassFile.FieldType.int) [((0 : Nat), (5 : Nat), (8 : Nat), (15 : Nat))]) ∈ tb_all := wd_o2 (i := 228) rfl rfl
theorem wy_936 : (Jvm.Cond.methodLink "RouteHouseLaw" (106 : Nat) ({ cls := "RouteHouseModel", name := "sum", desc := "(I)V" } : Jvm.MethodName)) ∈ tb_all := wd_o4 (i := 216) rfl rfl
theorem wy_481 : (Jvm.Cond.methodLink "RouteHouseLaw" (107 : Nat) ({ cls := "RouteHouseLaw", name := "copy", desc := "(LRouteHouse;I[J)I" } : Jvm.MethodName)) ∈ tb_all := wd_o3 (i := 1) rfl rfl
theorem wy_482 : (Jvm.Cond.static ({ cls := "RouteHouseLaw", name := "copy", desc := "(LRouteHouse;I[J)I" } : Jvm.MethodName)) ∈ tb_all := wd_o3 (i := 2) rfl rfl
theorem wy_483 : (Jvm.Cond.codeWith ({ cls := "RouteHouseLaw", name := "copy", desc := "(LRouteHouse;I[J)I" } : Jvm.MethodName) method_11_code (4 : Nat) (Option.some Jvm.ClassFile.FieldType.int) [((0 : Nat), (9 : Nat), (12 : Nat), (13 : Nat))]) ∈ tb_all := wd_o3 (i := 3) rfl rfl
theorem wy_947 : (Jvm.Cond.methodLink "RouteHouseLaw" (110 : Nat) ({ cls := "RouteHouseModel", name := "copy", desc := "(I)I" } : Jvm.MethodName)) ∈ tb_all := wd_o4 (i := 227) rfl rfl
theorem wy_496 : (Jvm.Cond.methodLink "RouteHouseLaw" (111 : Nat) ({ cls := "RouteHouseLaw", name := "receive", desc := "(LRouteHouse;I[J)I" } : Jvm.MethodName)) ∈ tb_all := wd_o3 (i := 16) rfl rfl
theorem wy_497 : (Jvm.Cond.static ({ cls := "RouteHouseLaw", name := "receive", desc := "(LRouteHouse;I[J)I" } : Jvm.MethodName)) ∈ tb_all := wd_o3 (i := 17) rfl rfl
theorem wy_498 : (Jvm.Cond.codeWith ({ cls := "RouteHouseLaw", name := "receive", desc := "(LRouteHouse;I[J)I" } : Jvm.MethodName) method_12_code (4 : Nat) (Option.some Jvm.ClassFile.FieldType.int) [((0 : Nat), (9 : Nat), (12 : Nat), (13 : Nat))]) ∈ tb_all := wd_o3 (i := 18) rfl rfl
theorem wy_951 : (Jvm.Cond.methodLink "RouteHouseLaw" (113 : Nat) ({ cls := "RouteHouseModel", name := "receive", desc := "(I)I" } : Jvm.MethodName)) ∈ tb_all := wd_o4 (i := 231) rfl rfl
theorem wy_709 : (Jvm.Cond.methodLink "RouteHouseLaw" (114 : Nat) ({ cls := "RouteHouseLaw", name := "pass", desc := "(LRouteHouse;I[J)I" } : Jvm.MethodName)) ∈ tb_all := wd_o3 (i := 229) rfl rfl
theorem wy_710 : (Jvm.Cond.static ({ cls := "RouteHouseLaw", name := "pass", desc := "(LRouteHouse;I[J)I" } : Jvm.MethodName)) ∈ tb_all := wd_o3 (i := 230) rfl rfl
theorem wy_711 : (Jvm.Cond.codeWith ({ cls := "RouteHouseLaw", name := "pass", desc := "(LRouteHouse;I[J)I" } : Jvm.MethodName) method_13_code (4 : Nat) (Option.some Jvm.ClassFile.FieldType.int) [((0 : Nat), (9 : Nat), (12 : Nat), (15 : Nat))]) ∈ tb_all := wd_o3 (i := 231) rfl rfl
theorem wy_1037 : (Jvm.Cond.methodLink "RouteHouseLaw" (116 : Nat) ({ cls := "RouteHouseModel", name := "pass", desc := "(I)I" } : Jvm.MethodName)) ∈ tb_all := wd_o5 (i := 77) rfl rfl
theorem wy_726 : (Jvm.Cond.methodLink "RouteHouseLaw" (117 : Nat) ({ cls := "RouteHouseLaw", name := "sent", desc := "(LRouteHouse;II[J)I" } : Jvm.MethodName)) ∈ tb_all := wd_o4 (i := 6) rfl rfl
theorem wy_727 : (Jvm.Cond.static ({ cls := "RouteHouseLaw", name := "sent", desc := "(LRouteHouse;II[J)I" } : Jvm.MethodName)) ∈ tb_all := wd_o4 (i := 7) rfl rfl
theorem wy_728 : (Jvm.Cond.codeWith ({ cls := "RouteHouseLaw", name := "sent", desc := "(LRouteHouse;II[J)I" } : Jvm.MethodName) method_14_code (5 : Nat) (Option.some Jvm.ClassFile.FieldType.int) [((0 : Nat), (10 : Nat), (13 : Nat), (13 : Nat)), ((0 : Nat), (10 : Nat), (17 : Nat), (15 : Nat))]) ∈ tb_all := wd_o4 (i := 8) rfl rfl
theorem wy_1045 : (Jvm.Cond.methodLink "RouteHouseLaw" (119 : Nat) ({ cls := "RouteHouseModel", name := "sent", desc := "(II)I" } : Jvm.MethodName)) ∈ tb_all := wd_o5 (i := 85) rfl rfl
theorem wy_734 : (Jvm.Cond.methodLink "RouteHouseLaw" (120 : Nat) ({ cls := "RouteHouseLaw", name := "out", desc := "(LRouteHouse;II[J)I" } : Jvm.MethodName)) ∈ tb_all := wd_o4 (i := 14) rfl rfl
theorem wy_735 : (Jvm.Cond.static ({ cls := "RouteHouseLaw", name := "out", desc := "(LRouteHouse;II[J)I" } : Jvm.MethodName)) ∈ tb_all := wd_o4 (i := 15) rfl rfl
theorem wy_736 : (Jvm.Cond.codeWith ({ cls := "RouteHouseLaw", name := "out", desc := "(LRouteHouse;II[J)I" } : Jvm.MethodName) method_15_code (5 : Nat) (Option.some Jvm.ClassFile.FieldType.int) [((0 : Nat), (10 : Nat), (13 : Nat), (13 : Nat))]) ∈ tb_all := wd_o4 (i := 16) rfl rfl
theorem wy_1049 : (Jvm.Cond.methodLink "RouteHouseLaw" (122 : Nat) ({ cls := "RouteHouseModel", name := "out", desc := "(II)I" } : Jvm.MethodName)) ∈ tb_all := wd_o5 (i := 89) rfl rfl
theorem wy_260 : (Jvm.Cond.methodLink "RouteHouseLaw" (123 : Nat) ({ cls := "RouteHouse", name := "data", desc := "(I)I" } : Jvm.MethodName)) ∈ tb_all := wd_o2 (i := 20) rfl rfl
theorem wy_1053 : (Jvm.Cond.methodLink "RouteHouseLaw" (126 : Nat) ({ cls := "RouteHouseModel", name := "data", desc := "(I)I" } : Jvm.MethodName)) ∈ tb_all := wd_o5 (i := 93) rfl rfl
theorem wy_742 : (Jvm.Cond.methodLink "RouteHouseLaw" (127 : Nat) ({ cls := "RouteHouseLaw", name := "about", desc := "(LRouteHouse;I[J)I" } : Jvm.MethodName)) ∈ tb_all := wd_o4 (i := 22) rfl rfl
theorem wy_743 : (Jvm.Cond.static ({ cls := "RouteHouseLaw", name := "about", desc := "(LRouteHouse;I[J)I" } : Jvm.MethodName)) ∈ tb_all := wd_o4 (i := 23) rfl rfl
theorem wy_744 : (Jvm.Cond.codeWith ({ cls := "RouteHouseLaw", name := "about", desc := "(LRouteHouse;I[J)I" } : Jvm.MethodName) method_16_code (4 : Nat) (Option.some Jvm.ClassFile.FieldType.int) [((0 : Nat), (9 : Nat), (12 : Nat), (15 : Nat))]) ∈ tb_all := wd_o4 (i := 24) rfl rfl
theorem wy_1057 : (Jvm.Cond.methodLink "RouteHouseLaw" (129 : Nat) ({ cls := "RouteHouseModel", name := "about", desc := "(I)I" } : Jvm.MethodName)) ∈ tb_all := wd_o5 (i := 97) rfl rfl
theorem lg_same (x : Int64) : lg_cmp x x = 0 := by
  unfold lg_cmp
  rw [if_neg (by simp), if_pos rfl]
section Cases
variable {p : Program} {l : Launch} {e : Env} {s : State} {m : MethodId} {args : Array Value} {below : List Frame} {meth : Method} {c : Code} {H : Heap} {locs : List Loc} {cells slots : Nat} {Q : State → Prop} {ls : Array Slot} {D : va_G} {A : Nat → Prop} {ad : List Nat} {h : hp_T} {b L i a0 a2 qo : Nat} {f : Nat → Int64} {xs : Nat → Int32} {J : hp_T → Prop}
-- what stands at the head of the loop and at its end
def lq_H (J : hp_T → Prop) : Prop := ∀ h, J h → hp_c h + 1 ≤ 601024 ∧ hp_s h + 1 ≤ 7293034
def lq_C (p : Program) (s : State) (m : MethodId) (args : Array Value) (c : Code) (A : Nat → Prop) (b L : Nat) (xs : Nat → Int32) : Prop := p.tables.exec = Jvm.exec ∧ c.code = code ∧ c.maxLocals = 7 ∧ s.vm.findClass "RouteHouseLaw" = some m.cls ∧ (∀ w ∈ tb_all, w.before args s = true) ∧ va_X b L xs s s.heap ∧ b < s.heap.size ∧ ¬ A b ∧ (∀ q, s.heap.size ≤ q → A q) ∧ sw_n s ∧ L < 100000
def lq_S (D : va_G) (A : Nat → Prop) (ad : List Nat) (h : hp_T) (f : Nat → Int64) (b a0 a2 qo i : Nat) (s : State) (H : Heap) (locs : List Loc) (ls : Array Slot) (cells slots : Nat) : Prop := sd_w D A ad h s H ∧ sw_c D A ad qo f s H ∧ va_S A s.heap H locs ∧ sw_R s H ∧ lv_has ls 7 [(0, .ref b), (1, .ref a0), (2, .ref a2), (3, .ref qo), (4, .int (nI i))] ∧ cells = hp_c h + 1 ∧ slots = hp_s h + 1
set_option maxHeartbeats 4000000 in
set_option maxRecDepth 100000 in
theorem lc_port (hlt : l.stackTraces = false) (C0 : lq_C p s m args c A b L xs) (hJ : lq_H J) (hk0 : hp_k h 0 = some (7, 0)) (hk5 : hp_k h 52 = some (8, 0)) (hq0 : ad[0]? = some a0) (hq5 : ad[52]? = some a2) (hi : i + 6 ≤ L) (hp : pu_v 47 77 cd_port [.int (xs (i + 1)), .int (xs (i + 2)), .int (xs (i + 3))] h J) (S0 : lq_S D A ad h f b a0 a2 qo i s H locs ls cells slots)
    (kk : ∀ (h2 : hp_T) (f2 : Nat → Int64) (H2 : Heap) (locs2 : List Loc) (ls2 : Array Slot) (c2 s2 : Nat), J h2 → h2.1 = h.1 → lq_S D A ad h2 f2 b a0 a2 qo i s H2 locs2 ls2 c2 s2 → W p l e room_1 s m args below meth c H2 locs2 c2 s2 Q (F0 m 1063 ls2 [])) : W p l e room_1 s m args below meth c H locs cells slots Q (F0 m 116 ls []) := by
  obtain ⟨hx, hb, hml, hown, hall, hX, hbl, hbA, hA, hn, hLs⟩ := C0
  obtain ⟨hw, hc0, hSt, hR, hl, rfl, rfl⟩ := S0
  obtain ⟨o, h2, r, hev, k1, hout, ⟨d2, f2, ev2⟩, k2, ⟨d3, f3, ev3⟩, hj⟩ := hp
  obtain ⟨d1, f1, ev1⟩ := id hev
  have m1 := ev_m_c _ _ _ _ _ _ ev1
  have m2 : hp_c o.2 ≤ hp_c h2 ∧ hp_s o.2 ≤ hp_s h2 := ev_m_c _ _ _ _ _ _ ev2
  have m3 := hJ h2 hj
  refine lv_aload_n hx hb dl_116 rfl (lv_at hl 1 rfl) ?_
  refine lq_arg hx hb hX hbl hbA hSt (lv_at hl 0 rfl) (lv_at hl 4 rfl) hLs 1 (by omega) (by decide) dl_117 dl_118 dl_120 dl_121 dl_122 ?_
  refine lq_arg hx hb hX hbl hbA hSt (lv_at hl 0 rfl) (lv_at hl 4 rfl) hLs 2 (by omega) (by decide) dl_123 dl_124 dl_126 dl_127 dl_128 ?_
  refine lq_arg hx hb hX hbl hbA hSt (lv_at hl 0 rfl) (lv_at hl 4 rfl) hLs 3 (by omega) (by decide) dl_129 dl_130 dl_132 dl_133 dl_134 ?_
  refine sw_stat (k := 47) (as := [.ref a0, .int (xs (i + 1)), .int (xs (i + 2)), .int (xs (i + 3))]) (rest := []) hx hb hml hown (wo_port hlt D hev hk0 hq0 k1 (mc := hp_c o.2 - hp_c h) (ms := hp_s o.2 - hp_s h) (by omega) (by omega) hout) hall wy_266 wy_264 wy_265 wy_0 ⟨by decide +kernel, by decide +kernel, by show (parseMethodDescriptor yw_port.desc).map (fun d => d.parameters.length) = some 4; decide +kernel⟩ (by decide) (by decide) hw hc0 hSt hA hR hn hl.1 (Nat.le_of_ble_eq_true rfl) dl_135 (by show _ ≤ 601024; omega) (by show _ ≤ 7293034; omega) (fun f9 H1 locs1 hg1 hw1 hc1 hS1 hR1 => ?_)
  refine lv_istore hx hb dl_138 hl (by decide) rfl (fun ls1 hl1 => ?_)
  replace hl : lv_has ls1 7 [(0, .ref b), (1, .ref a0), (2, .ref a2), (3, .ref qo), (4, .int (nI i)), (5, .int r)] := lv_sub hl1 [1, 2, 3, 4, 5, 0] rfl
  replace hSt := hS1
  refine lv_aload_n hx hb dl_140 rfl (lv_at hl 2 rfl) ?_
  refine lq_arg hx hb hX hbl hbA hSt (lv_at hl 0 rfl) (lv_at hl 4 rfl) hLs 1 (by omega) (by decide) dl_141 dl_142 dl_144 dl_145 dl_146 ?_
  refine lq_arg hx hb hX hbl hbA hSt (lv_at hl 0 rfl) (lv_at hl 4 rfl) hLs 2 (by omega) (by decide) dl_147 dl_148 dl_150 dl_151 dl_152 ?_
  refine lq_arg hx hb hX hbl hbA hSt (lv_at hl 0 rfl) (lv_at hl 4 rfl) hLs 3 (by omega) (by decide) dl_153 dl_154 dl_156 dl_157 dl_158 ?_
  refine sw_ret hlt (AsC := [.int (xs (i + 1)), .int (xs (i + 2)), .int (xs (i + 3))]) (K := []) ev2 rfl hx hb hml hown hall (sw_good2 mt_77.2.2.1) (hall _ wy_890) mt_77 hall (by decide) (by decide) hw1 hS1 hA hR1 (by unfold hp_k at hk5 ⊢; rw [k1]; exact hk5) hq5 ⟨rfl, rfl, rfl, trivial⟩ rfl hl.1 (Nat.le_of_ble_eq_true rfl) dl_159 (by show _ ≤ 601024; omega) (by show _ ≤ 7293034; omega) (fun w z H2 locs2 hw2 hS2 hr2 hz2 hkk2 hR2 => ?_)
  cases sw_z hw1 hw2 (k2.trans k1.symm)
  rw [List.append_nil] at hw2 hr2
  have hc2 := sw_ck hc1 hkk2
  cases w with
  | some w => exact False.elim hr2
  | none =>
    refine W.eq (g2 := F0 m 162 ls1 []) rfl ?_
    refine lv_aload_n hx hb dl_162 rfl (lv_at hl 2 rfl) ?_
    refine sw_ret hlt (AsC := []) (K := []) ev3 rfl hx hb hml hown hall (sw_good2 mt_74.2.2.1) (hall _ wy_886) mt_74 hall (by decide) (by decide) hw2 hS2 hA hR2 (by unfold hp_k at hk5 ⊢; rw [k2]; exact hk5) hq5 trivial rfl hl.1 (Nat.le_of_ble_eq_true rfl) dl_163 (by show _ ≤ 601024; omega) (by show _ ≤ 7293034; omega) (fun w z H3 locs3 hw3 hS3 hr3 hz3 hkk3 hR3 => ?_)
    cases sw_z hw2 hw3 rfl
    rw [List.append_nil] at hw3 hr3
    have hc3 := sw_ck hc2 hkk3
    cases w with
    | none => exact False.elim hr3
    | some w =>
      have e3 : w = .int r := hr3.1
      subst e3
      refine W.eq (g2 := F0 m 166 ls1 [.int r]) rfl ?_
      refine lv_iload hx hb dl_166 (lv_at hl 5 rfl) ?_
      refine lv_icmp_eq (tgt := 173) hx hb dl_168 (by decide) (fun _ => ?_) (fun h9 => absurd rfl h9)
      refine lv_goto (tgt := 1063) hx hb dl_173 (by decide) ?_
      exact kk h2 f9 H3 locs3 ls1 _ _ hj k2 ⟨hw3, hc3, hS3, hR3, lv_sub hl [0, 1, 2, 3, 4] rfl, by omega, by omega⟩
set_option maxHeartbeats 4000000 in
set_option maxRecDepth 100000 in
theorem lc_up (hlt : l.stackTraces = false) (C0 : lq_C p s m args c A b L xs) (hJ : lq_H J) (hk0 : hp_k h 0 = some (7, 0)) (hk5 : hp_k h 52 = some (8, 0)) (hq0 : ad[0]? = some a0) (hq5 : ad[52]? = some a2) (hi : i + 6 ≤ L) (hp : pu_i true 48 78 cd_up [.int (xs (i + 1)), .int (if xs (i + 2) = 0 then 0 else 1)] h J) (S0 : lq_S D A ad h f b a0 a2 qo i s H locs ls cells slots)
    (kk : ∀ (h2 : hp_T) (f2 : Nat → Int64) (H2 : Heap) (locs2 : List Loc) (ls2 : Array Slot) (c2 s2 : Nat), J h2 → h2.1 = h.1 → lq_S D A ad h2 f2 b a0 a2 qo i s H2 locs2 ls2 c2 s2 → W p l e room_1 s m args below meth c H2 locs2 c2 s2 Q (F0 m 1063 ls2 [])) : W p l e room_1 s m args below meth c H locs cells slots Q (F0 m 176 ls []) := by
  obtain ⟨hx, hb, hml, hown, hall, hX, hbl, hbA, hA, hn, hLs⟩ := C0
  obtain ⟨hw, hc0, hSt, hR, hl, rfl, rfl⟩ := S0
  obtain ⟨o, h2, r, bv, hev, k1, hout, ⟨d2, f2, ev2⟩, k2, ⟨d3, f3, ev3⟩, hj⟩ := hp
  obtain ⟨d1, f1, ev1⟩ := id hev
  have m1 := ev_m_c _ _ _ _ _ _ ev1
  have m2 : hp_c o.2 ≤ hp_c h2 ∧ hp_s o.2 ≤ hp_s h2 := ev_m_c _ _ _ _ _ _ ev2
  have m3 := hJ h2 hj
  refine lv_aload_n hx hb dl_176 rfl (lv_at hl 1 rfl) ?_
  refine lq_arg hx hb hX hbl hbA hSt (lv_at hl 0 rfl) (lv_at hl 4 rfl) hLs 1 (by omega) (by decide) dl_177 dl_178 dl_180 dl_181 dl_182 ?_
  refine lq_arg hx hb hX hbl hbA hSt (lv_at hl 0 rfl) (lv_at hl 4 rfl) hLs 2 (by omega) (by decide) dl_183 dl_184 dl_186 dl_187 dl_188 ?_
  refine lq_bool hx hb dl_189 dl_192 dl_193 dl_196 ?_
  refine lv_aload_n hx hb dl_197 rfl (lv_at hl 3 rfl) ?_
  refine sw_stat (k := 48) (as := [.ref a0, .int (xs (i + 1)), .int (if xs (i + 2) = 0 then 0 else 1), .ref qo]) (rest := []) hx hb hml hown (wo_up hlt D hev hk0 hq0 k1 (mc := hp_c o.2 - hp_c h) (ms := hp_s o.2 - hp_s h) (by omega) (by omega) (hout.imp (fun h9 => ⟨h9.1, h9.2.1, h9.2.2 rfl⟩) id)) hall wy_363 wy_361 wy_362 wy_0 ⟨by decide +kernel, by decide +kernel, by show (parseMethodDescriptor yw_up.desc).map (fun d => d.parameters.length) = some 4; decide +kernel⟩ (by decide) (by decide) hw hc0 hSt hA hR hn hl.1 (Nat.le_of_ble_eq_true rfl) dl_198 (by show _ ≤ 601024; omega) (by show _ ≤ 7293034; omega) (fun f9 H1 locs1 hg1 hw1 hc1 hS1 hR1 => ?_)
  refine lv_istore hx hb dl_201 hl (by decide) rfl (fun ls1 hl1 => ?_)
  replace hl : lv_has ls1 7 [(0, .ref b), (1, .ref a0), (2, .ref a2), (3, .ref qo), (4, .int (nI i)), (5, .int r)] := lv_sub hl1 [1, 2, 3, 4, 5, 0] rfl
  replace hSt := hS1
  refine lv_aload_n hx hb dl_203 rfl (lv_at hl 2 rfl) ?_
  refine lq_arg hx hb hX hbl hbA hSt (lv_at hl 0 rfl) (lv_at hl 4 rfl) hLs 1 (by omega) (by decide) dl_204 dl_205 dl_207 dl_208 dl_209 ?_
  refine lq_arg hx hb hX hbl hbA hSt (lv_at hl 0 rfl) (lv_at hl 4 rfl) hLs 2 (by omega) (by decide) dl_210 dl_211 dl_213 dl_214 dl_215 ?_
  refine lq_bool hx hb dl_216 dl_219 dl_220 dl_223 ?_
  refine sw_ret hlt (AsC := [.int (xs (i + 1)), .int (if xs (i + 2) = 0 then 0 else 1)]) (K := []) ev2 rfl hx hb hml hown hall (sw_good2 mt_78.2.2.1) (hall _ wy_901) mt_78 hall (by decide) (by decide) hw1 hS1 hA hR1 (by unfold hp_k at hk5 ⊢; rw [k1]; exact hk5) hq5 ⟨rfl, rfl, trivial⟩ rfl hl.1 (Nat.le_of_ble_eq_true rfl) dl_224 (by show _ ≤ 601024; omega) (by show _ ≤ 7293034; omega) (fun w z H2 locs2 hw2 hS2 hr2 hz2 hkk2 hR2 => ?_)
  cases sw_z hw1 hw2 (k2.trans k1.symm)
  rw [List.append_nil] at hw2 hr2
  have hc2 := sw_ck hc1 hkk2
  cases w with
  | none => exact False.elim hr2
  | some w =>
    have e1 : w = .int bv := hr2.1
    subst e1
    refine W.eq (g2 := F0 m 227 ls1 [.int bv]) rfl ?_
    refine lv_istore hx hb dl_227 hl (by decide) rfl (fun ls2 hl2 => ?_)
    replace hl : lv_has ls2 7 [(0, .ref b), (1, .ref a0), (2, .ref a2), (3, .ref qo), (4, .int (nI i)), (5, .int r), (6, .int bv)] := lv_sub hl2 [1, 2, 3, 4, 5, 6, 0] rfl
    refine lv_aload_n hx hb dl_229 rfl (lv_at hl 2 rfl) ?_
    refine sw_ret hlt (AsC := []) (K := []) ev3 rfl hx hb hml hown hall (sw_good2 mt_74.2.2.1) (hall _ wy_886) mt_74 hall (by decide) (by decide) hw2 hS2 hA hR2 (by unfold hp_k at hk5 ⊢; rw [k2]; exact hk5) hq5 trivial rfl hl.1 (Nat.le_of_ble_eq_true rfl) dl_230 (by show _ ≤ 601024; omega) (by show _ ≤ 7293034; omega) (fun w z H3 locs3 hw3 hS3 hr3 hz3 hkk3 hR3 => ?_)
    cases sw_z hw2 hw3 rfl
    rw [List.append_nil] at hw3 hr3
    have hc3 := sw_ck hc2 hkk3
    cases w with
    | none => exact False.elim hr3
    | some w =>
      have e3 : w = .int r := hr3.1
      subst e3
      refine W.eq (g2 := F0 m 233 ls2 [.int r]) rfl ?_
      refine lv_iload hx hb dl_233 (lv_at hl 5 rfl) ?_
      refine lv_icmp_eq (tgt := 240) hx hb dl_235 (by decide) (fun _ => ?_) (fun h9 => absurd rfl h9)
      refine lv_iload hx hb dl_240 (lv_at hl 5 rfl) ?_
      refine lv_if_ne (tgt := 264) hx hb dl_242 (by decide) (fun _ => ?_) (fun h9 => ?_)
      · refine lv_goto (tgt := 1063) hx hb dl_264 (by decide) ?_
        exact kk h2 f9 H3 locs3 ls2 _ _ hj k2 ⟨hw3, hc3, hS3, hR3, lv_sub hl [0, 1, 2, 3, 4] rfl, by omega, by omega⟩
      · have hf0 := hg1 h9
        refine lv_aload_n hx hb dl_245 rfl (lv_at hl 3 rfl) ?_
        refine lv_iconst (v := 0) hx hb dl_246 (by decide) ?_
        refine sw_lald hx hb hc3 dl_247 ?_
        rw [hf0]
        refine lv_iload hx hb dl_248 (lv_at hl 6 rfl) ?_
        have hbb : bv = 0 ∨ bv = 1 := by
          rcases hout with h8 | ⟨q9, h8, h7⟩
          · exact h8.2.2 rfl
          · subst h9
            unfold cd_up at h7
            split at h7 <;> cases h7
        refine lv_if_eq (tgt := 257) hx hb dl_250 (by decide) (fun h8 => ?_) (fun h8 => ?_)
        · subst h8
          refine lv_lconst (v := 0) hx hb dl_257 (by decide) ?_
          refine W.lcmp hx hb dl_258 ?_
          refine lv_if_eq (tgt := 264) hx hb dl_259 (by decide) (fun _ => ?_) (fun h8 => absurd (lg_same _) h8)
          refine lv_goto (tgt := 1063) hx hb dl_264 (by decide) ?_
          exact kk h2 f9 H3 locs3 ls2 _ _ hj k2 ⟨hw3, hc3, hS3, hR3, lv_sub hl [0, 1, 2, 3, 4] rfl, by omega, by omega⟩
        · have h6 : bv = 1 := hbb.resolve_left h8
          subst h6
          refine lv_lconst (v := 1) hx hb dl_253 (by decide) ?_
          refine lv_goto (tgt := 258) hx hb dl_254 (by decide) ?_
          refine W.lcmp hx hb dl_258 ?_
          refine lv_if_eq (tgt := 264) hx hb dl_259 (by decide) (fun _ => ?_) (fun h8 => absurd (lg_same _) h8)
          refine lv_goto (tgt := 1063) hx hb dl_264 (by decide) ?_
          exact kk h2 f9 H3 locs3 ls2 _ _ hj k2 ⟨hw3, hc3, hS3, hR3, lv_sub hl [0, 1, 2, 3, 4] rfl, by omega, by omega⟩
set_option maxHeartbeats 4000000 in
set_option maxRecDepth 100000 in
theorem lc_route (hlt : l.stackTraces = false) (C0 : lq_C p s m args c A b L xs) (hJ : lq_H J) (hk0 : hp_k h 0 = some (7, 0)) (hk5 : hp_k h 52 = some (8, 0)) (hq0 : ad[0]? = some a0) (hq5 : ad[52]? = some a2) (hi : i + 6 ≤ L) (hp : pu_i false 49 81 cd_route [.int (xs (i + 1)), .int (xs (i + 2)), .int (xs (i + 3)), .int (xs (i + 4))] h J) (S0 : lq_S D A ad h f b a0 a2 qo i s H locs ls cells slots)
    (kk : ∀ (h2 : hp_T) (f2 : Nat → Int64) (H2 : Heap) (locs2 : List Loc) (ls2 : Array Slot) (c2 s2 : Nat), J h2 → h2.1 = h.1 → lq_S D A ad h2 f2 b a0 a2 qo i s H2 locs2 ls2 c2 s2 → W p l e room_1 s m args below meth c H2 locs2 c2 s2 Q (F0 m 1063 ls2 [])) : W p l e room_1 s m args below meth c H locs cells slots Q (F0 m 267 ls []) := by
  obtain ⟨hx, hb, hml, hown, hall, hX, hbl, hbA, hA, hn, hLs⟩ := C0
  obtain ⟨hw, hc0, hSt, hR, hl, rfl, rfl⟩ := S0
  obtain ⟨o, h2, r, bv, hev, k1, hout, ⟨d2, f2, ev2⟩, k2, ⟨d3, f3, ev3⟩, hj⟩ := hp
  obtain ⟨d1, f1, ev1⟩ := id hev
  have m1 := ev_m_c _ _ _ _ _ _ ev1
  have m2 : hp_c o.2 ≤ hp_c h2 ∧ hp_s o.2 ≤ hp_s h2 := ev_m_c _ _ _ _ _ _ ev2
  have m3 := hJ h2 hj
  refine lv_aload_n hx hb dl_267 rfl (lv_at hl 1 rfl) ?_
  refine lq_arg hx hb hX hbl hbA hSt (lv_at hl 0 rfl) (lv_at hl 4 rfl) hLs 1 (by omega) (by decide) dl_268 dl_269 dl_271 dl_272 dl_273 ?_
  refine lq_arg hx hb hX hbl hbA hSt (lv_at hl 0 rfl) (lv_at hl 4 rfl) hLs 2 (by omega) (by decide) dl_274 dl_275 dl_277 dl_278 dl_279 ?_
  refine lq_arg hx hb hX hbl hbA hSt (lv_at hl 0 rfl) (lv_at hl 4 rfl) hLs 3 (by omega) (by decide) dl_280 dl_281 dl_283 dl_284 dl_285 ?_
  refine lq_arg hx hb hX hbl hbA hSt (lv_at hl 0 rfl) (lv_at hl 4 rfl) hLs 4 (by omega) (by decide) dl_286 dl_287 dl_289 dl_290 dl_291 ?_
  refine lv_aload_n hx hb dl_292 rfl (lv_at hl 3 rfl) ?_
  refine sw_stat (k := 49) (as := [.ref a0, .int (xs (i + 1)), .int (xs (i + 2)), .int (xs (i + 3)), .int (xs (i + 4)), .ref qo]) (rest := []) hx hb hml hown (wo_route hlt D hev hk0 hq0 k1 (mc := hp_c o.2 - hp_c h) (ms := hp_s o.2 - hp_s h) (by omega) (by omega) (hout.imp (fun h9 => ⟨h9.1, h9.2.1⟩) id)) hall wy_370 wy_368 wy_369 wy_0 ⟨by decide +kernel, by decide +kernel, by show (parseMethodDescriptor yw_route.desc).map (fun d => d.parameters.length) = some 6; decide +kernel⟩ (by decide) (by decide) hw hc0 hSt hA hR hn hl.1 (Nat.le_of_ble_eq_true rfl) dl_293 (by show _ ≤ 601024; omega) (by show _ ≤ 7293034; omega) (fun f9 H1 locs1 hg1 hw1 hc1 hS1 hR1 => ?_)
  refine lv_istore hx hb dl_296 hl (by decide) rfl (fun ls1 hl1 => ?_)
  replace hl : lv_has ls1 7 [(0, .ref b), (1, .ref a0), (2, .ref a2), (3, .ref qo), (4, .int (nI i)), (5, .int r)] := lv_sub hl1 [1, 2, 3, 4, 5, 0] rfl
  replace hSt := hS1
  refine lv_aload_n hx hb dl_298 rfl (lv_at hl 2 rfl) ?_
  refine lq_arg hx hb hX hbl hbA hSt (lv_at hl 0 rfl) (lv_at hl 4 rfl) hLs 1 (by omega) (by decide) dl_299 dl_300 dl_302 dl_303 dl_304 ?_
  refine lq_arg hx hb hX hbl hbA hSt (lv_at hl 0 rfl) (lv_at hl 4 rfl) hLs 2 (by omega) (by decide) dl_305 dl_306 dl_308 dl_309 dl_310 ?_
  refine lq_arg hx hb hX hbl hbA hSt (lv_at hl 0 rfl) (lv_at hl 4 rfl) hLs 3 (by omega) (by decide) dl_311 dl_312 dl_314 dl_315 dl_316 ?_
  refine lq_arg hx hb hX hbl hbA hSt (lv_at hl 0 rfl) (lv_at hl 4 rfl) hLs 4 (by omega) (by decide) dl_317 dl_318 dl_320 dl_321 dl_322 ?_
  refine sw_ret hlt (AsC := [.int (xs (i + 1)), .int (xs (i + 2)), .int (xs (i + 3)), .int (xs (i + 4))]) (K := []) ev2 rfl hx hb hml hown hall (sw_good2 mt_81.2.2.1) (hall _ wy_905) mt_81 hall (by decide) (by decide) hw1 hS1 hA hR1 (by unfold hp_k at hk5 ⊢; rw [k1]; exact hk5) hq5 ⟨rfl, rfl, rfl, rfl, trivial⟩ rfl hl.1 (Nat.le_of_ble_eq_true rfl) dl_323 (by show _ ≤ 601024; omega) (by show _ ≤ 7293034; omega) (fun w z H2 locs2 hw2 hS2 hr2 hz2 hkk2 hR2 => ?_)
  cases sw_z hw1 hw2 (k2.trans k1.symm)
  rw [List.append_nil] at hw2 hr2
  have hc2 := sw_ck hc1 hkk2
  cases w with
  | none => exact False.elim hr2
  | some w =>
    have e1 : w = .int bv := hr2.1
    subst e1
    refine W.eq (g2 := F0 m 326 ls1 [.int bv]) rfl ?_
    refine lv_istore hx hb dl_326 hl (by decide) rfl (fun ls2 hl2 => ?_)
    replace hl : lv_has ls2 7 [(0, .ref b), (1, .ref a0), (2, .ref a2), (3, .ref qo), (4, .int (nI i)), (5, .int r), (6, .int bv)] := lv_sub hl2 [1, 2, 3, 4, 5, 6, 0] rfl
    refine lv_aload_n hx hb dl_328 rfl (lv_at hl 2 rfl) ?_
    refine sw_ret hlt (AsC := []) (K := []) ev3 rfl hx hb hml hown hall (sw_good2 mt_74.2.2.1) (hall _ wy_886) mt_74 hall (by decide) (by decide) hw2 hS2 hA hR2 (by unfold hp_k at hk5 ⊢; rw [k2]; exact hk5) hq5 trivial rfl hl.1 (Nat.le_of_ble_eq_true rfl) dl_329 (by show _ ≤ 601024; omega) (by show _ ≤ 7293034; omega) (fun w z H3 locs3 hw3 hS3 hr3 hz3 hkk3 hR3 => ?_)
    cases sw_z hw2 hw3 rfl
    rw [List.append_nil] at hw3 hr3
    have hc3 := sw_ck hc2 hkk3
    cases w with
    | none => exact False.elim hr3
    | some w =>
      have e3 : w = .int r := hr3.1
      subst e3
      refine W.eq (g2 := F0 m 332 ls2 [.int r]) rfl ?_
      refine lv_iload hx hb dl_332 (lv_at hl 5 rfl) ?_
      refine lv_icmp_eq (tgt := 339) hx hb dl_334 (by decide) (fun _ => ?_) (fun h9 => absurd rfl h9)
      refine lv_iload hx hb dl_339 (lv_at hl 5 rfl) ?_
      refine lv_if_ne (tgt := 356) hx hb dl_341 (by decide) (fun _ => ?_) (fun h9 => ?_)
      · refine lv_goto (tgt := 1063) hx hb dl_356 (by decide) ?_
        exact kk h2 f9 H3 locs3 ls2 _ _ hj k2 ⟨hw3, hc3, hS3, hR3, lv_sub hl [0, 1, 2, 3, 4] rfl, by omega, by omega⟩
      · have hf0 := hg1 h9
        refine lv_aload_n hx hb dl_344 rfl (lv_at hl 3 rfl) ?_
        refine lv_iconst (v := 0) hx hb dl_345 (by decide) ?_
        refine sw_lald hx hb hc3 dl_346 ?_
        rw [hf0]
        refine lv_iload hx hb dl_347 (lv_at hl 6 rfl) ?_
        refine lv_i2l hx hb dl_349 rfl ?_
        refine W.lcmp hx hb dl_350 ?_
        refine lv_if_eq (tgt := 356) hx hb dl_351 (by decide) (fun _ => ?_) (fun h8 => absurd (lg_same _) h8)
        refine lv_goto (tgt := 1063) hx hb dl_356 (by decide) ?_
        exact kk h2 f9 H3 locs3 ls2 _ _ hj k2 ⟨hw3, hc3, hS3, hR3, lv_sub hl [0, 1, 2, 3, 4] rfl, by omega, by omega⟩
set_option maxHeartbeats 4000000 in
set_option maxRecDepth 100000 in
theorem lc_unroute (hlt : l.stackTraces = false) (C0 : lq_C p s m args c A b L xs) (hJ : lq_H J) (hk0 : hp_k h 0 = some (7, 0)) (hk5 : hp_k h 52 = some (8, 0)) (hq0 : ad[0]? = some a0) (hq5 : ad[52]? = some a2) (hi : i + 6 ≤ L) (hp : pu_i true 50 82 cd_unroute [.int (xs (i + 1)), .int (xs (i + 2))] h J) (S0 : lq_S D A ad h f b a0 a2 qo i s H locs ls cells slots)
    (kk : ∀ (h2 : hp_T) (f2 : Nat → Int64) (H2 : Heap) (locs2 : List Loc) (ls2 : Array Slot) (c2 s2 : Nat), J h2 → h2.1 = h.1 → lq_S D A ad h2 f2 b a0 a2 qo i s H2 locs2 ls2 c2 s2 → W p l e room_1 s m args below meth c H2 locs2 c2 s2 Q (F0 m 1063 ls2 [])) : W p l e room_1 s m args below meth c H locs cells slots Q (F0 m 359 ls []) := by
  obtain ⟨hx, hb, hml, hown, hall, hX, hbl, hbA, hA, hn, hLs⟩ := C0
  obtain ⟨hw, hc0, hSt, hR, hl, rfl, rfl⟩ := S0
  obtain ⟨o, h2, r, bv, hev, k1, hout, ⟨d2, f2, ev2⟩, k2, ⟨d3, f3, ev3⟩, hj⟩ := hp
  obtain ⟨d1, f1, ev1⟩ := id hev
  have m1 := ev_m_c _ _ _ _ _ _ ev1
  have m2 : hp_c o.2 ≤ hp_c h2 ∧ hp_s o.2 ≤ hp_s h2 := ev_m_c _ _ _ _ _ _ ev2
  have m3 := hJ h2 hj
  refine lv_aload_n hx hb dl_359 rfl (lv_at hl 1 rfl) ?_
  refine lq_arg hx hb hX hbl hbA hSt (lv_at hl 0 rfl) (lv_at hl 4 rfl) hLs 1 (by omega) (by decide) dl_360 dl_361 dl_363 dl_364 dl_365 ?_
  refine lq_arg hx hb hX hbl hbA hSt (lv_at hl 0 rfl) (lv_at hl 4 rfl) hLs 2 (by omega) (by decide) dl_366 dl_367 dl_369 dl_370 dl_371 ?_
  refine lv_aload_n hx hb dl_372 rfl (lv_at hl 3 rfl) ?_
  refine sw_stat (k := 50) (as := [.ref a0, .int (xs (i + 1)), .int (xs (i + 2)), .ref qo]) (rest := []) hx hb hml hown (wo_unroute hlt D hev hk0 hq0 k1 (mc := hp_c o.2 - hp_c h) (ms := hp_s o.2 - hp_s h) (by omega) (by omega) (hout.imp (fun h9 => ⟨h9.1, h9.2.1, h9.2.2 rfl⟩) id)) hall wy_410 wy_408 wy_409 wy_0 ⟨by decide +kernel, by decide +kernel, by show (parseMethodDescriptor yw_unroute.desc).map (fun d => d.parameters.length) = some 4; decide +kernel⟩ (by decide) (by decide) hw hc0 hSt hA hR hn hl.1 (Nat.le_of_ble_eq_true rfl) dl_373 (by show _ ≤ 601024; omega) (by show _ ≤ 7293034; omega) (fun f9 H1 locs1 hg1 hw1 hc1 hS1 hR1 => ?_)
  refine lv_istore hx hb dl_376 hl (by decide) rfl (fun ls1 hl1 => ?_)
  replace hl : lv_has ls1 7 [(0, .ref b), (1, .ref a0), (2, .ref a2), (3, .ref qo), (4, .int (nI i)), (5, .int r)] := lv_sub hl1 [1, 2, 3, 4, 5, 0] rfl
  replace hSt := hS1
  refine lv_aload_n hx hb dl_378 rfl (lv_at hl 2 rfl) ?_
  refine lq_arg hx hb hX hbl hbA hSt (lv_at hl 0 rfl) (lv_at hl 4 rfl) hLs 1 (by omega) (by decide) dl_379 dl_380 dl_382 dl_383 dl_384 ?_
  refine lq_arg hx hb hX hbl hbA hSt (lv_at hl 0 rfl) (lv_at hl 4 rfl) hLs 2 (by omega) (by decide) dl_385 dl_386 dl_388 dl_389 dl_390 ?_
  refine sw_ret hlt (AsC := [.int (xs (i + 1)), .int (xs (i + 2))]) (K := []) ev2 rfl hx hb hml hown hall (sw_good2 mt_82.2.2.1) (hall _ wy_916) mt_82 hall (by decide) (by decide) hw1 hS1 hA hR1 (by unfold hp_k at hk5 ⊢; rw [k1]; exact hk5) hq5 ⟨rfl, rfl, trivial⟩ rfl hl.1 (Nat.le_of_ble_eq_true rfl) dl_391 (by show _ ≤ 601024; omega) (by show _ ≤ 7293034; omega) (fun w z H2 locs2 hw2 hS2 hr2 hz2 hkk2 hR2 => ?_)
  cases sw_z hw1 hw2 (k2.trans k1.symm)
  rw [List.append_nil] at hw2 hr2
  have hc2 := sw_ck hc1 hkk2
  cases w with
  | none => exact False.elim hr2
  | some w =>
    have e1 : w = .int bv := hr2.1
    subst e1
    refine W.eq (g2 := F0 m 394 ls1 [.int bv]) rfl ?_
    refine lv_istore hx hb dl_394 hl (by decide) rfl (fun ls2 hl2 => ?_)
    replace hl : lv_has ls2 7 [(0, .ref b), (1, .ref a0), (2, .ref a2), (3, .ref qo), (4, .int (nI i)), (5, .int r), (6, .int bv)] := lv_sub hl2 [1, 2, 3, 4, 5, 6, 0] rfl
    refine lv_aload_n hx hb dl_396 rfl (lv_at hl 2 rfl) ?_
    refine sw_ret hlt (AsC := []) (K := []) ev3 rfl hx hb hml hown hall (sw_good2 mt_74.2.2.1) (hall _ wy_886) mt_74 hall (by decide) (by decide) hw2 hS2 hA hR2 (by unfold hp_k at hk5 ⊢; rw [k2]; exact hk5) hq5 trivial rfl hl.1 (Nat.le_of_ble_eq_true rfl) dl_397 (by show _ ≤ 601024; omega) (by show _ ≤ 7293034; omega) (fun w z H3 locs3 hw3 hS3 hr3 hz3 hkk3 hR3 => ?_)
    cases sw_z hw2 hw3 rfl
    rw [List.append_nil] at hw3 hr3
    have hc3 := sw_ck hc2 hkk3
    cases w with
    | none => exact False.elim hr3
    | some w =>
      have e3 : w = .int r := hr3.1
      subst e3
      refine W.eq (g2 := F0 m 400 ls2 [.int r]) rfl ?_
      refine lv_iload hx hb dl_400 (lv_at hl 5 rfl) ?_
      refine lv_icmp_eq (tgt := 407) hx hb dl_402 (by decide) (fun _ => ?_) (fun h9 => absurd rfl h9)
      refine lv_iload hx hb dl_407 (lv_at hl 5 rfl) ?_
      refine lv_if_ne (tgt := 431) hx hb dl_409 (by decide) (fun _ => ?_) (fun h9 => ?_)
      · refine lv_goto (tgt := 1063) hx hb dl_431 (by decide) ?_
        exact kk h2 f9 H3 locs3 ls2 _ _ hj k2 ⟨hw3, hc3, hS3, hR3, lv_sub hl [0, 1, 2, 3, 4] rfl, by omega, by omega⟩
      · have hf0 := hg1 h9
        refine lv_aload_n hx hb dl_412 rfl (lv_at hl 3 rfl) ?_
        refine lv_iconst (v := 0) hx hb dl_413 (by decide) ?_
        refine sw_lald hx hb hc3 dl_414 ?_
        rw [hf0]
        refine lv_iload hx hb dl_415 (lv_at hl 6 rfl) ?_
        have hbb : bv = 0 ∨ bv = 1 := by
          rcases hout with h8 | ⟨q9, h8, h7⟩
          · exact h8.2.2 rfl
          · subst h9
            unfold cd_unroute at h7
            split at h7 <;> cases h7
        refine lv_if_eq (tgt := 424) hx hb dl_417 (by decide) (fun h8 => ?_) (fun h8 => ?_)
        · subst h8
          refine lv_lconst (v := 0) hx hb dl_424 (by decide) ?_
          refine W.lcmp hx hb dl_425 ?_
          refine lv_if_eq (tgt := 431) hx hb dl_426 (by decide) (fun _ => ?_) (fun h8 => absurd (lg_same _) h8)
          refine lv_goto (tgt := 1063) hx hb dl_431 (by decide) ?_
          exact kk h2 f9 H3 locs3 ls2 _ _ hj k2 ⟨hw3, hc3, hS3, hR3, lv_sub hl [0, 1, 2, 3, 4] rfl, by omega, by omega⟩
        · have h6 : bv = 1 := hbb.resolve_left h8
          subst h6
          refine lv_lconst (v := 1) hx hb dl_420 (by decide) ?_
          refine lv_goto (tgt := 425) hx hb dl_421 (by decide) ?_
          refine W.lcmp hx hb dl_425 ?_
          refine lv_if_eq (tgt := 431) hx hb dl_426 (by decide) (fun _ => ?_) (fun h8 => absurd (lg_same _) h8)
          refine lv_goto (tgt := 1063) hx hb dl_431 (by decide) ?_
          exact kk h2 f9 H3 locs3 ls2 _ _ hj k2 ⟨hw3, hc3, hS3, hR3, lv_sub hl [0, 1, 2, 3, 4] rfl, by omega, by omega⟩
set_option maxHeartbeats 4000000 in
set_option maxRecDepth 100000 in
theorem lc_lookup (hlt : l.stackTraces = false) (C0 : lq_C p s m args c A b L xs) (hJ : lq_H J) (hk0 : hp_k h 0 = some (7, 0)) (hk5 : hp_k h 52 = some (8, 0)) (hq0 : ad[0]? = some a0) (hq5 : ad[52]? = some a2) (hi : i + 6 ≤ L) (hp : pu_i false 51 84 cd_lookup [.int (xs (i + 1)), .int (xs (i + 2))] h J) (S0 : lq_S D A ad h f b a0 a2 qo i s H locs ls cells slots)
    (kk : ∀ (h2 : hp_T) (f2 : Nat → Int64) (H2 : Heap) (locs2 : List Loc) (ls2 : Array Slot) (c2 s2 : Nat), J h2 → h2.1 = h.1 → lq_S D A ad h2 f2 b a0 a2 qo i s H2 locs2 ls2 c2 s2 → W p l e room_1 s m args below meth c H2 locs2 c2 s2 Q (F0 m 1063 ls2 [])) : W p l e room_1 s m args below meth c H locs cells slots Q (F0 m 434 ls []) := by
  obtain ⟨hx, hb, hml, hown, hall, hX, hbl, hbA, hA, hn, hLs⟩ := C0
  obtain ⟨hw, hc0, hSt, hR, hl, rfl, rfl⟩ := S0
  obtain ⟨o, h2, r, bv, hev, k1, hout, ⟨d2, f2, ev2⟩, k2, ⟨d3, f3, ev3⟩, hj⟩ := hp
  obtain ⟨d1, f1, ev1⟩ := id hev
  have m1 := ev_m_c _ _ _ _ _ _ ev1
  have m2 : hp_c o.2 ≤ hp_c h2 ∧ hp_s o.2 ≤ hp_s h2 := ev_m_c _ _ _ _ _ _ ev2
  have m3 := hJ h2 hj
  refine lv_aload_n hx hb dl_434 rfl (lv_at hl 1 rfl) ?_
  refine lq_arg hx hb hX hbl hbA hSt (lv_at hl 0 rfl) (lv_at hl 4 rfl) hLs 1 (by omega) (by decide) dl_435 dl_436 dl_438 dl_439 dl_440 ?_
  refine lq_arg hx hb hX hbl hbA hSt (lv_at hl 0 rfl) (lv_at hl 4 rfl) hLs 2 (by omega) (by decide) dl_441 dl_442 dl_444 dl_445 dl_446 ?_
  refine lv_aload_n hx hb dl_447 rfl (lv_at hl 3 rfl) ?_
  refine sw_stat (k := 51) (as := [.ref a0, .int (xs (i + 1)), .int (xs (i + 2)), .ref qo]) (rest := []) hx hb hml hown (wo_lookup hlt D hev hk0 hq0 k1 (mc := hp_c o.2 - hp_c h) (ms := hp_s o.2 - hp_s h) (by omega) (by omega) (hout.imp (fun h9 => ⟨h9.1, h9.2.1⟩) id)) hall wy_421 wy_419 wy_420 wy_0 ⟨by decide +kernel, by decide +kernel, by show (parseMethodDescriptor yw_lookup.desc).map (fun d => d.parameters.length) = some 4; decide +kernel⟩ (by decide) (by decide) hw hc0 hSt hA hR hn hl.1 (Nat.le_of_ble_eq_true rfl) dl_448 (by show _ ≤ 601024; omega) (by show _ ≤ 7293034; omega) (fun f9 H1 locs1 hg1 hw1 hc1 hS1 hR1 => ?_)
  refine lv_istore hx hb dl_451 hl (by decide) rfl (fun ls1 hl1 => ?_)
  replace hl : lv_has ls1 7 [(0, .ref b), (1, .ref a0), (2, .ref a2), (3, .ref qo), (4, .int (nI i)), (5, .int r)] := lv_sub hl1 [1, 2, 3, 4, 5, 0] rfl
  replace hSt := hS1
  refine lv_aload_n hx hb dl_453 rfl (lv_at hl 2 rfl) ?_
  refine lq_arg hx hb hX hbl hbA hSt (lv_at hl 0 rfl) (lv_at hl 4 rfl) hLs 1 (by omega) (by decide) dl_454 dl_455 dl_457 dl_458 dl_459 ?_
  refine lq_arg hx hb hX hbl hbA hSt (lv_at hl 0 rfl) (lv_at hl 4 rfl) hLs 2 (by omega) (by decide) dl_460 dl_461 dl_463 dl_464 dl_465 ?_
  refine sw_ret hlt (AsC := [.int (xs (i + 1)), .int (xs (i + 2))]) (K := []) ev2 rfl hx hb hml hown hall (sw_good2 mt_84.2.2.1) (hall _ wy_920) mt_84 hall (by decide) (by decide) hw1 hS1 hA hR1 (by unfold hp_k at hk5 ⊢; rw [k1]; exact hk5) hq5 ⟨rfl, rfl, trivial⟩ rfl hl.1 (Nat.le_of_ble_eq_true rfl) dl_466 (by show _ ≤ 601024; omega) (by show _ ≤ 7293034; omega) (fun w z H2 locs2 hw2 hS2 hr2 hz2 hkk2 hR2 => ?_)
  cases sw_z hw1 hw2 (k2.trans k1.symm)
  rw [List.append_nil] at hw2 hr2
  have hc2 := sw_ck hc1 hkk2
  cases w with
  | none => exact False.elim hr2
  | some w =>
    have e1 : w = .int bv := hr2.1
    subst e1
    refine W.eq (g2 := F0 m 469 ls1 [.int bv]) rfl ?_
    refine lv_istore hx hb dl_469 hl (by decide) rfl (fun ls2 hl2 => ?_)
    replace hl : lv_has ls2 7 [(0, .ref b), (1, .ref a0), (2, .ref a2), (3, .ref qo), (4, .int (nI i)), (5, .int r), (6, .int bv)] := lv_sub hl2 [1, 2, 3, 4, 5, 6, 0] rfl
    refine lv_aload_n hx hb dl_471 rfl (lv_at hl 2 rfl) ?_
    refine sw_ret hlt (AsC := []) (K := []) ev3 rfl hx hb hml hown hall (sw_good2 mt_74.2.2.1) (hall _ wy_886) mt_74 hall (by decide) (by decide) hw2 hS2 hA hR2 (by unfold hp_k at hk5 ⊢; rw [k2]; exact hk5) hq5 trivial rfl hl.1 (Nat.le_of_ble_eq_true rfl) dl_472 (by show _ ≤ 601024; omega) (by show _ ≤ 7293034; omega) (fun w z H3 locs3 hw3 hS3 hr3 hz3 hkk3 hR3 => ?_)
    cases sw_z hw2 hw3 rfl
    rw [List.append_nil] at hw3 hr3
    have hc3 := sw_ck hc2 hkk3
    cases w with
    | none => exact False.elim hr3
    | some w =>
      have e3 : w = .int r := hr3.1
      subst e3
      refine W.eq (g2 := F0 m 475 ls2 [.int r]) rfl ?_
      refine lv_iload hx hb dl_475 (lv_at hl 5 rfl) ?_
      refine lv_icmp_eq (tgt := 482) hx hb dl_477 (by decide) (fun _ => ?_) (fun h9 => absurd rfl h9)
      refine lv_iload hx hb dl_482 (lv_at hl 5 rfl) ?_
      refine lv_if_ne (tgt := 499) hx hb dl_484 (by decide) (fun _ => ?_) (fun h9 => ?_)
      · refine lv_goto (tgt := 1063) hx hb dl_499 (by decide) ?_
        exact kk h2 f9 H3 locs3 ls2 _ _ hj k2 ⟨hw3, hc3, hS3, hR3, lv_sub hl [0, 1, 2, 3, 4] rfl, by omega, by omega⟩
      · have hf0 := hg1 h9
        refine lv_aload_n hx hb dl_487 rfl (lv_at hl 3 rfl) ?_
        refine lv_iconst (v := 0) hx hb dl_488 (by decide) ?_
        refine sw_lald hx hb hc3 dl_489 ?_
        rw [hf0]
        refine lv_iload hx hb dl_490 (lv_at hl 6 rfl) ?_
        refine lv_i2l hx hb dl_492 rfl ?_
        refine W.lcmp hx hb dl_493 ?_
        refine lv_if_eq (tgt := 499) hx hb dl_494 (by decide) (fun _ => ?_) (fun h8 => absurd (lg_same _) h8)
        refine lv_goto (tgt := 1063) hx hb dl_499 (by decide) ?_
        exact kk h2 f9 H3 locs3 ls2 _ _ hj k2 ⟨hw3, hc3, hS3, hR3, lv_sub hl [0, 1, 2, 3, 4] rfl, by omega, by omega⟩
set_option maxHeartbeats 4000000 in
set_option maxRecDepth 100000 in
theorem lc_feed (hlt : l.stackTraces = false) (C0 : lq_C p s m args c A b L xs) (hJ : lq_H J) (hk0 : hp_k h 0 = some (7, 0)) (hk5 : hp_k h 52 = some (8, 0)) (hq0 : ad[0]? = some a0) (hq5 : ad[52]? = some a2) (hi : i + 6 ≤ L) (hp : pu_i false 52 85 cd_feed [.int (xs (i + 1)), .int (xs (i + 2)), .int (xs (i + 3)), .int (xs (i + 4)), .int (xs (i + 5))] h J) (S0 : lq_S D A ad h f b a0 a2 qo i s H locs ls cells slots)
    (kk : ∀ (h2 : hp_T) (f2 : Nat → Int64) (H2 : Heap) (locs2 : List Loc) (ls2 : Array Slot) (c2 s2 : Nat), J h2 → h2.1 = h.1 → lq_S D A ad h2 f2 b a0 a2 qo i s H2 locs2 ls2 c2 s2 → W p l e room_1 s m args below meth c H2 locs2 c2 s2 Q (F0 m 1063 ls2 [])) : W p l e room_1 s m args below meth c H locs cells slots Q (F0 m 502 ls []) := by
  obtain ⟨hx, hb, hml, hown, hall, hX, hbl, hbA, hA, hn, hLs⟩ := C0
  obtain ⟨hw, hc0, hSt, hR, hl, rfl, rfl⟩ := S0
  obtain ⟨o, h2, r, bv, hev, k1, hout, ⟨d2, f2, ev2⟩, k2, ⟨d3, f3, ev3⟩, hj⟩ := hp
  obtain ⟨d1, f1, ev1⟩ := id hev
  have m1 := ev_m_c _ _ _ _ _ _ ev1
  have m2 : hp_c o.2 ≤ hp_c h2 ∧ hp_s o.2 ≤ hp_s h2 := ev_m_c _ _ _ _ _ _ ev2
  have m3 := hJ h2 hj
  refine lv_aload_n hx hb dl_502 rfl (lv_at hl 1 rfl) ?_
  refine lq_arg hx hb hX hbl hbA hSt (lv_at hl 0 rfl) (lv_at hl 4 rfl) hLs 1 (by omega) (by decide) dl_503 dl_504 dl_506 dl_507 dl_508 ?_
  refine lq_arg hx hb hX hbl hbA hSt (lv_at hl 0 rfl) (lv_at hl 4 rfl) hLs 2 (by omega) (by decide) dl_509 dl_510 dl_512 dl_513 dl_514 ?_
  refine lq_arg hx hb hX hbl hbA hSt (lv_at hl 0 rfl) (lv_at hl 4 rfl) hLs 3 (by omega) (by decide) dl_515 dl_516 dl_518 dl_519 dl_520 ?_
  refine lq_arg hx hb hX hbl hbA hSt (lv_at hl 0 rfl) (lv_at hl 4 rfl) hLs 4 (by omega) (by decide) dl_521 dl_522 dl_524 dl_525 dl_526 ?_
  refine lq_arg hx hb hX hbl hbA hSt (lv_at hl 0 rfl) (lv_at hl 4 rfl) hLs 5 (by omega) (by decide) dl_527 dl_528 dl_530 dl_531 dl_532 ?_
  refine lv_aload_n hx hb dl_533 rfl (lv_at hl 3 rfl) ?_
  refine sw_stat (k := 52) (as := [.ref a0, .int (xs (i + 1)), .int (xs (i + 2)), .int (xs (i + 3)), .int (xs (i + 4)), .int (xs (i + 5)), .ref qo]) (rest := []) hx hb hml hown (wo_feed hlt D hev hk0 hq0 k1 (mc := hp_c o.2 - hp_c h) (ms := hp_s o.2 - hp_s h) (by omega) (by omega) (hout.imp (fun h9 => ⟨h9.1, h9.2.1⟩) id)) hall wy_433 wy_431 wy_432 wy_0 ⟨by decide +kernel, by decide +kernel, by show (parseMethodDescriptor yw_feed.desc).map (fun d => d.parameters.length) = some 7; decide +kernel⟩ (by decide) (by decide) hw hc0 hSt hA hR hn hl.1 (Nat.le_of_ble_eq_true rfl) dl_534 (by show _ ≤ 601024; omega) (by show _ ≤ 7293034; omega) (fun f9 H1 locs1 hg1 hw1 hc1 hS1 hR1 => ?_)
  refine lv_istore hx hb dl_537 hl (by decide) rfl (fun ls1 hl1 => ?_)
  replace hl : lv_has ls1 7 [(0, .ref b), (1, .ref a0), (2, .ref a2), (3, .ref qo), (4, .int (nI i)), (5, .int r)] := lv_sub hl1 [1, 2, 3, 4, 5, 0] rfl
  replace hSt := hS1
  refine lv_aload_n hx hb dl_539 rfl (lv_at hl 2 rfl) ?_
  refine lq_arg hx hb hX hbl hbA hSt (lv_at hl 0 rfl) (lv_at hl 4 rfl) hLs 1 (by omega) (by decide) dl_540 dl_541 dl_543 dl_544 dl_545 ?_
  refine lq_arg hx hb hX hbl hbA hSt (lv_at hl 0 rfl) (lv_at hl 4 rfl) hLs 2 (by omega) (by decide) dl_546 dl_547 dl_549 dl_550 dl_551 ?_
  refine lq_arg hx hb hX hbl hbA hSt (lv_at hl 0 rfl) (lv_at hl 4 rfl) hLs 3 (by omega) (by decide) dl_552 dl_553 dl_555 dl_556 dl_557 ?_
  refine lq_arg hx hb hX hbl hbA hSt (lv_at hl 0 rfl) (lv_at hl 4 rfl) hLs 4 (by omega) (by decide) dl_558 dl_559 dl_561 dl_562 dl_563 ?_
  refine lq_arg hx hb hX hbl hbA hSt (lv_at hl 0 rfl) (lv_at hl 4 rfl) hLs 5 (by omega) (by decide) dl_564 dl_565 dl_567 dl_568 dl_569 ?_
  refine sw_ret hlt (AsC := [.int (xs (i + 1)), .int (xs (i + 2)), .int (xs (i + 3)), .int (xs (i + 4)), .int (xs (i + 5))]) (K := []) ev2 rfl hx hb hml hown hall (sw_good2 mt_85.2.2.1) (hall _ wy_928) mt_85 hall (by decide) (by decide) hw1 hS1 hA hR1 (by unfold hp_k at hk5 ⊢; rw [k1]; exact hk5) hq5 ⟨rfl, rfl, rfl, rfl, rfl, trivial⟩ rfl hl.1 (Nat.le_of_ble_eq_true rfl) dl_570 (by show _ ≤ 601024; omega) (by show _ ≤ 7293034; omega) (fun w z H2 locs2 hw2 hS2 hr2 hz2 hkk2 hR2 => ?_)
  cases sw_z hw1 hw2 (k2.trans k1.symm)
  rw [List.append_nil] at hw2 hr2
  have hc2 := sw_ck hc1 hkk2
  cases w with
  | none => exact False.elim hr2
  | some w =>
    have e1 : w = .int bv := hr2.1
    subst e1
    refine W.eq (g2 := F0 m 573 ls1 [.int bv]) rfl ?_
    refine lv_istore hx hb dl_573 hl (by decide) rfl (fun ls2 hl2 => ?_)
    replace hl : lv_has ls2 7 [(0, .ref b), (1, .ref a0), (2, .ref a2), (3, .ref qo), (4, .int (nI i)), (5, .int r), (6, .int bv)] := lv_sub hl2 [1, 2, 3, 4, 5, 6, 0] rfl
    refine lv_aload_n hx hb dl_575 rfl (lv_at hl 2 rfl) ?_
    refine sw_ret hlt (AsC := []) (K := []) ev3 rfl hx hb hml hown hall (sw_good2 mt_74.2.2.1) (hall _ wy_886) mt_74 hall (by decide) (by decide) hw2 hS2 hA hR2 (by unfold hp_k at hk5 ⊢; rw [k2]; exact hk5) hq5 trivial rfl hl.1 (Nat.le_of_ble_eq_true rfl) dl_576 (by show _ ≤ 601024; omega) (by show _ ≤ 7293034; omega) (fun w z H3 locs3 hw3 hS3 hr3 hz3 hkk3 hR3 => ?_)
    cases sw_z hw2 hw3 rfl
    rw [List.append_nil] at hw3 hr3
    have hc3 := sw_ck hc2 hkk3
    cases w with
    | none => exact False.elim hr3
    | some w =>
      have e3 : w = .int r := hr3.1
      subst e3
      refine W.eq (g2 := F0 m 579 ls2 [.int r]) rfl ?_
      refine lv_iload hx hb dl_579 (lv_at hl 5 rfl) ?_
      refine lv_icmp_eq (tgt := 586) hx hb dl_581 (by decide) (fun _ => ?_) (fun h9 => absurd rfl h9)
      refine lv_iload hx hb dl_586 (lv_at hl 5 rfl) ?_
      refine lv_if_ne (tgt := 603) hx hb dl_588 (by decide) (fun _ => ?_) (fun h9 => ?_)
      · refine lv_goto (tgt := 1063) hx hb dl_603 (by decide) ?_
        exact kk h2 f9 H3 locs3 ls2 _ _ hj k2 ⟨hw3, hc3, hS3, hR3, lv_sub hl [0, 1, 2, 3, 4] rfl, by omega, by omega⟩
      · have hf0 := hg1 h9
        refine lv_aload_n hx hb dl_591 rfl (lv_at hl 3 rfl) ?_
        refine lv_iconst (v := 0) hx hb dl_592 (by decide) ?_
        refine sw_lald hx hb hc3 dl_593 ?_
        rw [hf0]
        refine lv_iload hx hb dl_594 (lv_at hl 6 rfl) ?_
        refine lv_i2l hx hb dl_596 rfl ?_
        refine W.lcmp hx hb dl_597 ?_
        refine lv_if_eq (tgt := 603) hx hb dl_598 (by decide) (fun _ => ?_) (fun h8 => absurd (lg_same _) h8)
        refine lv_goto (tgt := 1063) hx hb dl_603 (by decide) ?_
        exact kk h2 f9 H3 locs3 ls2 _ _ hj k2 ⟨hw3, hc3, hS3, hR3, lv_sub hl [0, 1, 2, 3, 4] rfl, by omega, by omega⟩
set_option maxHeartbeats 4000000 in
set_option maxRecDepth 100000 in
theorem lc_end (hlt : l.stackTraces = false) (C0 : lq_C p s m args c A b L xs) (hJ : lq_H J) (hk0 : hp_k h 0 = some (7, 0)) (hk5 : hp_k h 52 = some (8, 0)) (hq0 : ad[0]? = some a0) (hq5 : ad[52]? = some a2) (hi : i + 6 ≤ L) (hp : pu_v 53 86 cd_end [.int (xs (i + 1))] h J) (S0 : lq_S D A ad h f b a0 a2 qo i s H locs ls cells slots)
    (kk : ∀ (h2 : hp_T) (f2 : Nat → Int64) (H2 : Heap) (locs2 : List Loc) (ls2 : Array Slot) (c2 s2 : Nat), J h2 → h2.1 = h.1 → lq_S D A ad h2 f2 b a0 a2 qo i s H2 locs2 ls2 c2 s2 → W p l e room_1 s m args below meth c H2 locs2 c2 s2 Q (F0 m 1063 ls2 [])) : W p l e room_1 s m args below meth c H locs cells slots Q (F0 m 606 ls []) := by
  obtain ⟨hx, hb, hml, hown, hall, hX, hbl, hbA, hA, hn, hLs⟩ := C0
  obtain ⟨hw, hc0, hSt, hR, hl, rfl, rfl⟩ := S0
  obtain ⟨o, h2, r, hev, k1, hout, ⟨d2, f2, ev2⟩, k2, ⟨d3, f3, ev3⟩, hj⟩ := hp
  obtain ⟨d1, f1, ev1⟩ := id hev
  have m1 := ev_m_c _ _ _ _ _ _ ev1
  have m2 : hp_c o.2 ≤ hp_c h2 ∧ hp_s o.2 ≤ hp_s h2 := ev_m_c _ _ _ _ _ _ ev2
  have m3 := hJ h2 hj
  refine lv_aload_n hx hb dl_606 rfl (lv_at hl 1 rfl) ?_
  refine lq_arg hx hb hX hbl hbA hSt (lv_at hl 0 rfl) (lv_at hl 4 rfl) hLs 1 (by omega) (by decide) dl_607 dl_608 dl_610 dl_611 dl_612 ?_
  refine sw_stat (k := 53) (as := [.ref a0, .int (xs (i + 1))]) (rest := []) hx hb hml hown (wo_end hlt D hev hk0 hq0 k1 (mc := hp_c o.2 - hp_c h) (ms := hp_s o.2 - hp_s h) (by omega) (by omega) hout) hall wy_460 wy_458 wy_459 wy_0 ⟨by decide +kernel, by decide +kernel, by show (parseMethodDescriptor yw_end.desc).map (fun d => d.parameters.length) = some 2; decide +kernel⟩ (by decide) (by decide) hw hc0 hSt hA hR hn hl.1 (Nat.le_of_ble_eq_true rfl) dl_613 (by show _ ≤ 601024; omega) (by show _ ≤ 7293034; omega) (fun f9 H1 locs1 hg1 hw1 hc1 hS1 hR1 => ?_)
  refine lv_istore hx hb dl_616 hl (by decide) rfl (fun ls1 hl1 => ?_)
  replace hl : lv_has ls1 7 [(0, .ref b), (1, .ref a0), (2, .ref a2), (3, .ref qo), (4, .int (nI i)), (5, .int r)] := lv_sub hl1 [1, 2, 3, 4, 5, 0] rfl
  replace hSt := hS1
  refine lv_aload_n hx hb dl_618 rfl (lv_at hl 2 rfl) ?_
  refine lq_arg hx hb hX hbl hbA hSt (lv_at hl 0 rfl) (lv_at hl 4 rfl) hLs 1 (by omega) (by decide) dl_619 dl_620 dl_622 dl_623 dl_624 ?_
  refine sw_ret hlt (AsC := [.int (xs (i + 1))]) (K := []) ev2 rfl hx hb hml hown hall (sw_good2 mt_86.2.2.1) (hall _ wy_932) mt_86 hall (by decide) (by decide) hw1 hS1 hA hR1 (by unfold hp_k at hk5 ⊢; rw [k1]; exact hk5) hq5 ⟨rfl, trivial⟩ rfl hl.1 (Nat.le_of_ble_eq_true rfl) dl_625 (by show _ ≤ 601024; omega) (by show _ ≤ 7293034; omega) (fun w z H2 locs2 hw2 hS2 hr2 hz2 hkk2 hR2 => ?_)
  cases sw_z hw1 hw2 (k2.trans k1.symm)
  rw [List.append_nil] at hw2 hr2
  have hc2 := sw_ck hc1 hkk2
  cases w with
  | some w => exact False.elim hr2
  | none =>
    refine W.eq (g2 := F0 m 628 ls1 []) rfl ?_
    refine lv_aload_n hx hb dl_628 rfl (lv_at hl 2 rfl) ?_
    refine sw_ret hlt (AsC := []) (K := []) ev3 rfl hx hb hml hown hall (sw_good2 mt_74.2.2.1) (hall _ wy_886) mt_74 hall (by decide) (by decide) hw2 hS2 hA hR2 (by unfold hp_k at hk5 ⊢; rw [k2]; exact hk5) hq5 trivial rfl hl.1 (Nat.le_of_ble_eq_true rfl) dl_629 (by show _ ≤ 601024; omega) (by show _ ≤ 7293034; omega) (fun w z H3 locs3 hw3 hS3 hr3 hz3 hkk3 hR3 => ?_)
    cases sw_z hw2 hw3 rfl
    rw [List.append_nil] at hw3 hr3
    have hc3 := sw_ck hc2 hkk3
    cases w with
    | none => exact False.elim hr3
    | some w =>
      have e3 : w = .int r := hr3.1
      subst e3
      refine W.eq (g2 := F0 m 632 ls1 [.int r]) rfl ?_
      refine lv_iload hx hb dl_632 (lv_at hl 5 rfl) ?_
      refine lv_icmp_eq (tgt := 639) hx hb dl_634 (by decide) (fun _ => ?_) (fun h9 => absurd rfl h9)
      refine lv_goto (tgt := 1063) hx hb dl_639 (by decide) ?_
      exact kk h2 f9 H3 locs3 ls1 _ _ hj k2 ⟨hw3, hc3, hS3, hR3, lv_sub hl [0, 1, 2, 3, 4] rfl, by omega, by omega⟩
set_option maxHeartbeats 4000000 in
set_option maxRecDepth 100000 in
theorem lc_sum (hlt : l.stackTraces = false) (C0 : lq_C p s m args c A b L xs) (hJ : lq_H J) (hk0 : hp_k h 0 = some (7, 0)) (hk5 : hp_k h 52 = some (8, 0)) (hq0 : ad[0]? = some a0) (hq5 : ad[52]? = some a2) (hi : i + 6 ≤ L) (hp : pu_v 54 92 cd_sum [.int (xs (i + 1))] h J) (S0 : lq_S D A ad h f b a0 a2 qo i s H locs ls cells slots)
    (kk : ∀ (h2 : hp_T) (f2 : Nat → Int64) (H2 : Heap) (locs2 : List Loc) (ls2 : Array Slot) (c2 s2 : Nat), J h2 → h2.1 = h.1 → lq_S D A ad h2 f2 b a0 a2 qo i s H2 locs2 ls2 c2 s2 → W p l e room_1 s m args below meth c H2 locs2 c2 s2 Q (F0 m 1063 ls2 [])) : W p l e room_1 s m args below meth c H locs cells slots Q (F0 m 642 ls []) := by
  obtain ⟨hx, hb, hml, hown, hall, hX, hbl, hbA, hA, hn, hLs⟩ := C0
  obtain ⟨hw, hc0, hSt, hR, hl, rfl, rfl⟩ := S0
  obtain ⟨o, h2, r, hev, k1, hout, ⟨d2, f2, ev2⟩, k2, ⟨d3, f3, ev3⟩, hj⟩ := hp
  obtain ⟨d1, f1, ev1⟩ := id hev
  have m1 := ev_m_c _ _ _ _ _ _ ev1
  have m2 : hp_c o.2 ≤ hp_c h2 ∧ hp_s o.2 ≤ hp_s h2 := ev_m_c _ _ _ _ _ _ ev2
  have m3 := hJ h2 hj
  refine lv_aload_n hx hb dl_642 rfl (lv_at hl 1 rfl) ?_
  refine lq_arg hx hb hX hbl hbA hSt (lv_at hl 0 rfl) (lv_at hl 4 rfl) hLs 1 (by omega) (by decide) dl_643 dl_644 dl_646 dl_647 dl_648 ?_
  refine sw_stat (k := 54) (as := [.ref a0, .int (xs (i + 1))]) (rest := []) hx hb hml hown (wo_sum hlt D hev hk0 hq0 k1 (mc := hp_c o.2 - hp_c h) (ms := hp_s o.2 - hp_s h) (by omega) (by omega) hout) hall wy_468 wy_466 wy_467 wy_0 ⟨by decide +kernel, by decide +kernel, by show (parseMethodDescriptor yw_sum.desc).map (fun d => d.parameters.length) = some 2; decide +kernel⟩ (by decide) (by decide) hw hc0 hSt hA hR hn hl.1 (Nat.le_of_ble_eq_true rfl) dl_649 (by show _ ≤ 601024; omega) (by show _ ≤ 7293034; omega) (fun f9 H1 locs1 hg1 hw1 hc1 hS1 hR1 => ?_)
  refine lv_istore hx hb dl_652 hl (by decide) rfl (fun ls1 hl1 => ?_)
  replace hl : lv_has ls1 7 [(0, .ref b), (1, .ref a0), (2, .ref a2), (3, .ref qo), (4, .int (nI i)), (5, .int r)] := lv_sub hl1 [1, 2, 3, 4, 5, 0] rfl
  replace hSt := hS1
  refine lv_aload_n hx hb dl_654 rfl (lv_at hl 2 rfl) ?_
  refine lq_arg hx hb hX hbl hbA hSt (lv_at hl 0 rfl) (lv_at hl 4 rfl) hLs 1 (by omega) (by decide) dl_655 dl_656 dl_658 dl_659 dl_660 ?_
  refine sw_ret hlt (AsC := [.int (xs (i + 1))]) (K := []) ev2 rfl hx hb hml hown hall (sw_good2 mt_92.2.2.1) (hall _ wy_936) mt_92 hall (by decide) (by decide) hw1 hS1 hA hR1 (by unfold hp_k at hk5 ⊢; rw [k1]; exact hk5) hq5 ⟨rfl, trivial⟩ rfl hl.1 (Nat.le_of_ble_eq_true rfl) dl_661 (by show _ ≤ 601024; omega) (by show _ ≤ 7293034; omega) (fun w z H2 locs2 hw2 hS2 hr2 hz2 hkk2 hR2 => ?_)
  cases sw_z hw1 hw2 (k2.trans k1.symm)
  rw [List.append_nil] at hw2 hr2
  have hc2 := sw_ck hc1 hkk2
  cases w with
  | some w => exact False.elim hr2
  | none =>
    refine W.eq (g2 := F0 m 664 ls1 []) rfl ?_
    refine lv_aload_n hx hb dl_664 rfl (lv_at hl 2 rfl) ?_
    refine sw_ret hlt (AsC := []) (K := []) ev3 rfl hx hb hml hown hall (sw_good2 mt_74.2.2.1) (hall _ wy_886) mt_74 hall (by decide) (by decide) hw2 hS2 hA hR2 (by unfold hp_k at hk5 ⊢; rw [k2]; exact hk5) hq5 trivial rfl hl.1 (Nat.le_of_ble_eq_true rfl) dl_665 (by show _ ≤ 601024; omega) (by show _ ≤ 7293034; omega) (fun w z H3 locs3 hw3 hS3 hr3 hz3 hkk3 hR3 => ?_)
    cases sw_z hw2 hw3 rfl
    rw [List.append_nil] at hw3 hr3
    have hc3 := sw_ck hc2 hkk3
    cases w with
    | none => exact False.elim hr3
    | some w =>
      have e3 : w = .int r := hr3.1
      subst e3
      refine W.eq (g2 := F0 m 668 ls1 [.int r]) rfl ?_
      refine lv_iload hx hb dl_668 (lv_at hl 5 rfl) ?_
      refine lv_icmp_eq (tgt := 675) hx hb dl_670 (by decide) (fun _ => ?_) (fun h9 => absurd rfl h9)
      refine lv_goto (tgt := 1063) hx hb dl_675 (by decide) ?_
      exact kk h2 f9 H3 locs3 ls1 _ _ hj k2 ⟨hw3, hc3, hS3, hR3, lv_sub hl [0, 1, 2, 3, 4] rfl, by omega, by omega⟩
set_option maxHeartbeats 4000000 in
set_option maxRecDepth 100000 in
theorem lc_copy (hlt : l.stackTraces = false) (C0 : lq_C p s m args c A b L xs) (hJ : lq_H J) (hk0 : hp_k h 0 = some (7, 0)) (hk5 : hp_k h 52 = some (8, 0)) (hq0 : ad[0]? = some a0) (hq5 : ad[52]? = some a2) (hi : i + 6 ≤ L) (hp : pu_i false 55 93 cd_copy [.int (xs (i + 1))] h J) (S0 : lq_S D A ad h f b a0 a2 qo i s H locs ls cells slots)
    (kk : ∀ (h2 : hp_T) (f2 : Nat → Int64) (H2 : Heap) (locs2 : List Loc) (ls2 : Array Slot) (c2 s2 : Nat), J h2 → h2.1 = h.1 → lq_S D A ad h2 f2 b a0 a2 qo i s H2 locs2 ls2 c2 s2 → W p l e room_1 s m args below meth c H2 locs2 c2 s2 Q (F0 m 1063 ls2 [])) : W p l e room_1 s m args below meth c H locs cells slots Q (F0 m 678 ls []) := by
  obtain ⟨hx, hb, hml, hown, hall, hX, hbl, hbA, hA, hn, hLs⟩ := C0
  obtain ⟨hw, hc0, hSt, hR, hl, rfl, rfl⟩ := S0
  obtain ⟨o, h2, r, bv, hev, k1, hout, ⟨d2, f2, ev2⟩, k2, ⟨d3, f3, ev3⟩, hj⟩ := hp
  obtain ⟨d1, f1, ev1⟩ := id hev
  have m1 := ev_m_c _ _ _ _ _ _ ev1
  have m2 : hp_c o.2 ≤ hp_c h2 ∧ hp_s o.2 ≤ hp_s h2 := ev_m_c _ _ _ _ _ _ ev2
  have m3 := hJ h2 hj
  refine lv_aload_n hx hb dl_678 rfl (lv_at hl 1 rfl) ?_
  refine lq_arg hx hb hX hbl hbA hSt (lv_at hl 0 rfl) (lv_at hl 4 rfl) hLs 1 (by omega) (by decide) dl_679 dl_680 dl_682 dl_683 dl_684 ?_
  refine lv_aload_n hx hb dl_685 rfl (lv_at hl 3 rfl) ?_
  refine sw_stat (k := 55) (as := [.ref a0, .int (xs (i + 1)), .ref qo]) (rest := []) hx hb hml hown (wo_copy hlt D hev hk0 hq0 k1 (mc := hp_c o.2 - hp_c h) (ms := hp_s o.2 - hp_s h) (by omega) (by omega) (hout.imp (fun h9 => ⟨h9.1, h9.2.1⟩) id)) hall wy_483 wy_481 wy_482 wy_0 ⟨by decide +kernel, by decide +kernel, by show (parseMethodDescriptor yw_copy.desc).map (fun d => d.parameters.length) = some 3; decide +kernel⟩ (by decide) (by decide) hw hc0 hSt hA hR hn hl.1 (Nat.le_of_ble_eq_true rfl) dl_686 (by show _ ≤ 601024; omega) (by show _ ≤ 7293034; omega) (fun f9 H1 locs1 hg1 hw1 hc1 hS1 hR1 => ?_)
  refine lv_istore hx hb dl_689 hl (by decide) rfl (fun ls1 hl1 => ?_)
  replace hl : lv_has ls1 7 [(0, .ref b), (1, .ref a0), (2, .ref a2), (3, .ref qo), (4, .int (nI i)), (5, .int r)] := lv_sub hl1 [1, 2, 3, 4, 5, 0] rfl
  replace hSt := hS1
  refine lv_aload_n hx hb dl_691 rfl (lv_at hl 2 rfl) ?_
  refine lq_arg hx hb hX hbl hbA hSt (lv_at hl 0 rfl) (lv_at hl 4 rfl) hLs 1 (by omega) (by decide) dl_692 dl_693 dl_695 dl_696 dl_697 ?_
  refine sw_ret hlt (AsC := [.int (xs (i + 1))]) (K := []) ev2 rfl hx hb hml hown hall (sw_good2 mt_93.2.2.1) (hall _ wy_947) mt_93 hall (by decide) (by decide) hw1 hS1 hA hR1 (by unfold hp_k at hk5 ⊢; rw [k1]; exact hk5) hq5 ⟨rfl, trivial⟩ rfl hl.1 (Nat.le_of_ble_eq_true rfl) dl_698 (by show _ ≤ 601024; omega) (by show _ ≤ 7293034; omega) (fun w z H2 locs2 hw2 hS2 hr2 hz2 hkk2 hR2 => ?_)
  cases sw_z hw1 hw2 (k2.trans k1.symm)
  rw [List.append_nil] at hw2 hr2
  have hc2 := sw_ck hc1 hkk2
  cases w with
  | none => exact False.elim hr2
  | some w =>
    have e1 : w = .int bv := hr2.1
    subst e1
    refine W.eq (g2 := F0 m 701 ls1 [.int bv]) rfl ?_
    refine lv_istore hx hb dl_701 hl (by decide) rfl (fun ls2 hl2 => ?_)
    replace hl : lv_has ls2 7 [(0, .ref b), (1, .ref a0), (2, .ref a2), (3, .ref qo), (4, .int (nI i)), (5, .int r), (6, .int bv)] := lv_sub hl2 [1, 2, 3, 4, 5, 6, 0] rfl
    refine lv_aload_n hx hb dl_703 rfl (lv_at hl 2 rfl) ?_
    refine sw_ret hlt (AsC := []) (K := []) ev3 rfl hx hb hml hown hall (sw_good2 mt_74.2.2.1) (hall _ wy_886) mt_74 hall (by decide) (by decide) hw2 hS2 hA hR2 (by unfold hp_k at hk5 ⊢; rw [k2]; exact hk5) hq5 trivial rfl hl.1 (Nat.le_of_ble_eq_true rfl) dl_704 (by show _ ≤ 601024; omega) (by show _ ≤ 7293034; omega) (fun w z H3 locs3 hw3 hS3 hr3 hz3 hkk3 hR3 => ?_)
    cases sw_z hw2 hw3 rfl
    rw [List.append_nil] at hw3 hr3
    have hc3 := sw_ck hc2 hkk3
    cases w with
    | none => exact False.elim hr3
    | some w =>
      have e3 : w = .int r := hr3.1
      subst e3
      refine W.eq (g2 := F0 m 707 ls2 [.int r]) rfl ?_
      refine lv_iload hx hb dl_707 (lv_at hl 5 rfl) ?_
      refine lv_icmp_eq (tgt := 714) hx hb dl_709 (by decide) (fun _ => ?_) (fun h9 => absurd rfl h9)
      refine lv_iload hx hb dl_714 (lv_at hl 5 rfl) ?_
      refine lv_if_ne (tgt := 731) hx hb dl_716 (by decide) (fun _ => ?_) (fun h9 => ?_)
      · refine lv_goto (tgt := 1063) hx hb dl_731 (by decide) ?_
        exact kk h2 f9 H3 locs3 ls2 _ _ hj k2 ⟨hw3, hc3, hS3, hR3, lv_sub hl [0, 1, 2, 3, 4] rfl, by omega, by omega⟩
      · have hf0 := hg1 h9
        refine lv_aload_n hx hb dl_719 rfl (lv_at hl 3 rfl) ?_
        refine lv_iconst (v := 0) hx hb dl_720 (by decide) ?_
        refine sw_lald hx hb hc3 dl_721 ?_
        rw [hf0]
        refine lv_iload hx hb dl_722 (lv_at hl 6 rfl) ?_
        refine lv_i2l hx hb dl_724 rfl ?_
        refine W.lcmp hx hb dl_725 ?_
        refine lv_if_eq (tgt := 731) hx hb dl_726 (by decide) (fun _ => ?_) (fun h8 => absurd (lg_same _) h8)
        refine lv_goto (tgt := 1063) hx hb dl_731 (by decide) ?_
        exact kk h2 f9 H3 locs3 ls2 _ _ hj k2 ⟨hw3, hc3, hS3, hR3, lv_sub hl [0, 1, 2, 3, 4] rfl, by omega, by omega⟩
set_option maxHeartbeats 4000000 in
set_option maxRecDepth 100000 in
theorem lc_receive (hlt : l.stackTraces = false) (C0 : lq_C p s m args c A b L xs) (hJ : lq_H J) (hk0 : hp_k h 0 = some (7, 0)) (hk5 : hp_k h 52 = some (8, 0)) (hq0 : ad[0]? = some a0) (hq5 : ad[52]? = some a2) (hi : i + 6 ≤ L) (hp : pu_i false 56 112 cd_receive [.int (xs (i + 1))] h J) (S0 : lq_S D A ad h f b a0 a2 qo i s H locs ls cells slots)
    (kk : ∀ (h2 : hp_T) (f2 : Nat → Int64) (H2 : Heap) (locs2 : List Loc) (ls2 : Array Slot) (c2 s2 : Nat), J h2 → h2.1 = h.1 → lq_S D A ad h2 f2 b a0 a2 qo i s H2 locs2 ls2 c2 s2 → W p l e room_1 s m args below meth c H2 locs2 c2 s2 Q (F0 m 1063 ls2 [])) : W p l e room_1 s m args below meth c H locs cells slots Q (F0 m 734 ls []) := by
  obtain ⟨hx, hb, hml, hown, hall, hX, hbl, hbA, hA, hn, hLs⟩ := C0
  obtain ⟨hw, hc0, hSt, hR, hl, rfl, rfl⟩ := S0
  obtain ⟨o, h2, r, bv, hev, k1, hout, ⟨d2, f2, ev2⟩, k2, ⟨d3, f3, ev3⟩, hj⟩ := hp
  obtain ⟨d1, f1, ev1⟩ := id hev
  have m1 := ev_m_c _ _ _ _ _ _ ev1
  have m2 : hp_c o.2 ≤ hp_c h2 ∧ hp_s o.2 ≤ hp_s h2 := ev_m_c _ _ _ _ _ _ ev2
  have m3 := hJ h2 hj
  refine lv_aload_n hx hb dl_734 rfl (lv_at hl 1 rfl) ?_
  refine lq_arg hx hb hX hbl hbA hSt (lv_at hl 0 rfl) (lv_at hl 4 rfl) hLs 1 (by omega) (by decide) dl_735 dl_736 dl_738 dl_739 dl_740 ?_
  refine lv_aload_n hx hb dl_741 rfl (lv_at hl 3 rfl) ?_
  refine sw_stat (k := 56) (as := [.ref a0, .int (xs (i + 1)), .ref qo]) (rest := []) hx hb hml hown (wo_receive hlt D hev hk0 hq0 k1 (mc := hp_c o.2 - hp_c h) (ms := hp_s o.2 - hp_s h) (by omega) (by omega) (hout.imp (fun h9 => ⟨h9.1, h9.2.1⟩) id)) hall wy_498 wy_496 wy_497 wy_0 ⟨by decide +kernel, by decide +kernel, by show (parseMethodDescriptor yw_receive.desc).map (fun d => d.parameters.length) = some 3; decide +kernel⟩ (by decide) (by decide) hw hc0 hSt hA hR hn hl.1 (Nat.le_of_ble_eq_true rfl) dl_742 (by show _ ≤ 601024; omega) (by show _ ≤ 7293034; omega) (fun f9 H1 locs1 hg1 hw1 hc1 hS1 hR1 => ?_)
  refine lv_istore hx hb dl_745 hl (by decide) rfl (fun ls1 hl1 => ?_)
  replace hl : lv_has ls1 7 [(0, .ref b), (1, .ref a0), (2, .ref a2), (3, .ref qo), (4, .int (nI i)), (5, .int r)] := lv_sub hl1 [1, 2, 3, 4, 5, 0] rfl
  replace hSt := hS1
  refine lv_aload_n hx hb dl_747 rfl (lv_at hl 2 rfl) ?_
  refine lq_arg hx hb hX hbl hbA hSt (lv_at hl 0 rfl) (lv_at hl 4 rfl) hLs 1 (by omega) (by decide) dl_748 dl_749 dl_751 dl_752 dl_753 ?_
  refine sw_ret hlt (AsC := [.int (xs (i + 1))]) (K := []) ev2 rfl hx hb hml hown hall (sw_good2 mt_112.2.2.1) (hall _ wy_951) mt_112 hall (by decide) (by decide) hw1 hS1 hA hR1 (by unfold hp_k at hk5 ⊢; rw [k1]; exact hk5) hq5 ⟨rfl, trivial⟩ rfl hl.1 (Nat.le_of_ble_eq_true rfl) dl_754 (by show _ ≤ 601024; omega) (by show _ ≤ 7293034; omega) (fun w z H2 locs2 hw2 hS2 hr2 hz2 hkk2 hR2 => ?_)
  cases sw_z hw1 hw2 (k2.trans k1.symm)
  rw [List.append_nil] at hw2 hr2
  have hc2 := sw_ck hc1 hkk2
  cases w with
  | none => exact False.elim hr2
  | some w =>
    have e1 : w = .int bv := hr2.1
    subst e1
    refine W.eq (g2 := F0 m 757 ls1 [.int bv]) rfl ?_
    refine lv_istore hx hb dl_757 hl (by decide) rfl (fun ls2 hl2 => ?_)
    replace hl : lv_has ls2 7 [(0, .ref b), (1, .ref a0), (2, .ref a2), (3, .ref qo), (4, .int (nI i)), (5, .int r), (6, .int bv)] := lv_sub hl2 [1, 2, 3, 4, 5, 6, 0] rfl
    refine lv_aload_n hx hb dl_759 rfl (lv_at hl 2 rfl) ?_
    refine sw_ret hlt (AsC := []) (K := []) ev3 rfl hx hb hml hown hall (sw_good2 mt_74.2.2.1) (hall _ wy_886) mt_74 hall (by decide) (by decide) hw2 hS2 hA hR2 (by unfold hp_k at hk5 ⊢; rw [k2]; exact hk5) hq5 trivial rfl hl.1 (Nat.le_of_ble_eq_true rfl) dl_760 (by show _ ≤ 601024; omega) (by show _ ≤ 7293034; omega) (fun w z H3 locs3 hw3 hS3 hr3 hz3 hkk3 hR3 => ?_)
    cases sw_z hw2 hw3 rfl
    rw [List.append_nil] at hw3 hr3
    have hc3 := sw_ck hc2 hkk3
    cases w with
    | none => exact False.elim hr3
    | some w =>
      have e3 : w = .int r := hr3.1
      subst e3
      refine W.eq (g2 := F0 m 763 ls2 [.int r]) rfl ?_
      refine lv_iload hx hb dl_763 (lv_at hl 5 rfl) ?_
      refine lv_icmp_eq (tgt := 770) hx hb dl_765 (by decide) (fun _ => ?_) (fun h9 => absurd rfl h9)
      refine lv_iload hx hb dl_770 (lv_at hl 5 rfl) ?_
      refine lv_if_ne (tgt := 787) hx hb dl_772 (by decide) (fun _ => ?_) (fun h9 => ?_)
      · refine lv_goto (tgt := 1063) hx hb dl_787 (by decide) ?_
        exact kk h2 f9 H3 locs3 ls2 _ _ hj k2 ⟨hw3, hc3, hS3, hR3, lv_sub hl [0, 1, 2, 3, 4] rfl, by omega, by omega⟩
      · have hf0 := hg1 h9
        refine lv_aload_n hx hb dl_775 rfl (lv_at hl 3 rfl) ?_
        refine lv_iconst (v := 0) hx hb dl_776 (by decide) ?_
        refine sw_lald hx hb hc3 dl_777 ?_
        rw [hf0]
        refine lv_iload hx hb dl_778 (lv_at hl 6 rfl) ?_
        refine lv_i2l hx hb dl_780 rfl ?_
        refine W.lcmp hx hb dl_781 ?_
        refine lv_if_eq (tgt := 787) hx hb dl_782 (by decide) (fun _ => ?_) (fun h8 => absurd (lg_same _) h8)
        refine lv_goto (tgt := 1063) hx hb dl_787 (by decide) ?_
        exact kk h2 f9 H3 locs3 ls2 _ _ hj k2 ⟨hw3, hc3, hS3, hR3, lv_sub hl [0, 1, 2, 3, 4] rfl, by omega, by omega⟩
set_option maxHeartbeats 4000000 in
set_option maxRecDepth 100000 in
theorem lc_pass (hlt : l.stackTraces = false) (C0 : lq_C p s m args c A b L xs) (hJ : lq_H J) (hk0 : hp_k h 0 = some (7, 0)) (hk5 : hp_k h 52 = some (8, 0)) (hq0 : ad[0]? = some a0) (hq5 : ad[52]? = some a2) (hi : i + 6 ≤ L) (hp : pu_i false 57 114 cd_pass [.int (xs (i + 1))] h J) (S0 : lq_S D A ad h f b a0 a2 qo i s H locs ls cells slots)
    (kk : ∀ (h2 : hp_T) (f2 : Nat → Int64) (H2 : Heap) (locs2 : List Loc) (ls2 : Array Slot) (c2 s2 : Nat), J h2 → h2.1 = h.1 → lq_S D A ad h2 f2 b a0 a2 qo i s H2 locs2 ls2 c2 s2 → W p l e room_1 s m args below meth c H2 locs2 c2 s2 Q (F0 m 1063 ls2 [])) : W p l e room_1 s m args below meth c H locs cells slots Q (F0 m 790 ls []) := by
  obtain ⟨hx, hb, hml, hown, hall, hX, hbl, hbA, hA, hn, hLs⟩ := C0
  obtain ⟨hw, hc0, hSt, hR, hl, rfl, rfl⟩ := S0
  obtain ⟨o, h2, r, bv, hev, k1, hout, ⟨d2, f2, ev2⟩, k2, ⟨d3, f3, ev3⟩, hj⟩ := hp
  obtain ⟨d1, f1, ev1⟩ := id hev
  have m1 := ev_m_c _ _ _ _ _ _ ev1
  have m2 : hp_c o.2 ≤ hp_c h2 ∧ hp_s o.2 ≤ hp_s h2 := ev_m_c _ _ _ _ _ _ ev2
  have m3 := hJ h2 hj
  refine lv_aload_n hx hb dl_790 rfl (lv_at hl 1 rfl) ?_
  refine lq_arg hx hb hX hbl hbA hSt (lv_at hl 0 rfl) (lv_at hl 4 rfl) hLs 1 (by omega) (by decide) dl_791 dl_792 dl_794 dl_795 dl_796 ?_
  refine lv_aload_n hx hb dl_797 rfl (lv_at hl 3 rfl) ?_
  refine sw_stat (k := 57) (as := [.ref a0, .int (xs (i + 1)), .ref qo]) (rest := []) hx hb hml hown (wo_pass hlt D hev hk0 hq0 k1 (mc := hp_c o.2 - hp_c h) (ms := hp_s o.2 - hp_s h) (by omega) (by omega) (hout.imp (fun h9 => ⟨h9.1, h9.2.1⟩) id)) hall wy_711 wy_709 wy_710 wy_0 ⟨by decide +kernel, by decide +kernel, by show (parseMethodDescriptor yw_pass.desc).map (fun d => d.parameters.length) = some 3; decide +kernel⟩ (by decide) (by decide) hw hc0 hSt hA hR hn hl.1 (Nat.le_of_ble_eq_true rfl) dl_798 (by show _ ≤ 601024; omega) (by show _ ≤ 7293034; omega) (fun f9 H1 locs1 hg1 hw1 hc1 hS1 hR1 => ?_)
  refine lv_istore hx hb dl_801 hl (by decide) rfl (fun ls1 hl1 => ?_)
  replace hl : lv_has ls1 7 [(0, .ref b), (1, .ref a0), (2, .ref a2), (3, .ref qo), (4, .int (nI i)), (5, .int r)] := lv_sub hl1 [1, 2, 3, 4, 5, 0] rfl
  replace hSt := hS1
  refine lv_aload_n hx hb dl_803 rfl (lv_at hl 2 rfl) ?_
  refine lq_arg hx hb hX hbl hbA hSt (lv_at hl 0 rfl) (lv_at hl 4 rfl) hLs 1 (by omega) (by decide) dl_804 dl_805 dl_807 dl_808 dl_809 ?_
  refine sw_ret hlt (AsC := [.int (xs (i + 1))]) (K := []) ev2 rfl hx hb hml hown hall (sw_good2 mt_114.2.2.1) (hall _ wy_1037) mt_114 hall (by decide) (by decide) hw1 hS1 hA hR1 (by unfold hp_k at hk5 ⊢; rw [k1]; exact hk5) hq5 ⟨rfl, trivial⟩ rfl hl.1 (Nat.le_of_ble_eq_true rfl) dl_810 (by show _ ≤ 601024; omega) (by show _ ≤ 7293034; omega) (fun w z H2 locs2 hw2 hS2 hr2 hz2 hkk2 hR2 => ?_)
  cases sw_z hw1 hw2 (k2.trans k1.symm)
  rw [List.append_nil] at hw2 hr2
  have hc2 := sw_ck hc1 hkk2
  cases w with
  | none => exact False.elim hr2
  | some w =>
    have e1 : w = .int bv := hr2.1
    subst e1
    refine W.eq (g2 := F0 m 813 ls1 [.int bv]) rfl ?_
    refine lv_istore hx hb dl_813 hl (by decide) rfl (fun ls2 hl2 => ?_)
    replace hl : lv_has ls2 7 [(0, .ref b), (1, .ref a0), (2, .ref a2), (3, .ref qo), (4, .int (nI i)), (5, .int r), (6, .int bv)] := lv_sub hl2 [1, 2, 3, 4, 5, 6, 0] rfl
    refine lv_aload_n hx hb dl_815 rfl (lv_at hl 2 rfl) ?_
    refine sw_ret hlt (AsC := []) (K := []) ev3 rfl hx hb hml hown hall (sw_good2 mt_74.2.2.1) (hall _ wy_886) mt_74 hall (by decide) (by decide) hw2 hS2 hA hR2 (by unfold hp_k at hk5 ⊢; rw [k2]; exact hk5) hq5 trivial rfl hl.1 (Nat.le_of_ble_eq_true rfl) dl_816 (by show _ ≤ 601024; omega) (by show _ ≤ 7293034; omega) (fun w z H3 locs3 hw3 hS3 hr3 hz3 hkk3 hR3 => ?_)
    cases sw_z hw2 hw3 rfl
    rw [List.append_nil] at hw3 hr3
    have hc3 := sw_ck hc2 hkk3
    cases w with
    | none => exact False.elim hr3
    | some w =>
      have e3 : w = .int r := hr3.1
      subst e3
      refine W.eq (g2 := F0 m 819 ls2 [.int r]) rfl ?_
      refine lv_iload hx hb dl_819 (lv_at hl 5 rfl) ?_
      refine lv_icmp_eq (tgt := 826) hx hb dl_821 (by decide) (fun _ => ?_) (fun h9 => absurd rfl h9)
      refine lv_iload hx hb dl_826 (lv_at hl 5 rfl) ?_
      refine lv_if_ne (tgt := 843) hx hb dl_828 (by decide) (fun _ => ?_) (fun h9 => ?_)
      · refine lv_goto (tgt := 1063) hx hb dl_843 (by decide) ?_
        exact kk h2 f9 H3 locs3 ls2 _ _ hj k2 ⟨hw3, hc3, hS3, hR3, lv_sub hl [0, 1, 2, 3, 4] rfl, by omega, by omega⟩
      · have hf0 := hg1 h9
        refine lv_aload_n hx hb dl_831 rfl (lv_at hl 3 rfl) ?_
        refine lv_iconst (v := 0) hx hb dl_832 (by decide) ?_
        refine sw_lald hx hb hc3 dl_833 ?_
        rw [hf0]
        refine lv_iload hx hb dl_834 (lv_at hl 6 rfl) ?_
        refine lv_i2l hx hb dl_836 rfl ?_
        refine W.lcmp hx hb dl_837 ?_
        refine lv_if_eq (tgt := 843) hx hb dl_838 (by decide) (fun _ => ?_) (fun h8 => absurd (lg_same _) h8)
        refine lv_goto (tgt := 1063) hx hb dl_843 (by decide) ?_
        exact kk h2 f9 H3 locs3 ls2 _ _ hj k2 ⟨hw3, hc3, hS3, hR3, lv_sub hl [0, 1, 2, 3, 4] rfl, by omega, by omega⟩
set_option maxHeartbeats 4000000 in
set_option maxRecDepth 100000 in
theorem lc_sent (hlt : l.stackTraces = false) (C0 : lq_C p s m args c A b L xs) (hJ : lq_H J) (hk0 : hp_k h 0 = some (7, 0)) (hk5 : hp_k h 52 = some (8, 0)) (hq0 : ad[0]? = some a0) (hq5 : ad[52]? = some a2) (hi : i + 6 ≤ L) (hp : pu_i false 58 115 cd_sent [.int (xs (i + 1)), .int (xs (i + 2))] h J) (S0 : lq_S D A ad h f b a0 a2 qo i s H locs ls cells slots)
    (kk : ∀ (h2 : hp_T) (f2 : Nat → Int64) (H2 : Heap) (locs2 : List Loc) (ls2 : Array Slot) (c2 s2 : Nat), J h2 → h2.1 = h.1 → lq_S D A ad h2 f2 b a0 a2 qo i s H2 locs2 ls2 c2 s2 → W p l e room_1 s m args below meth c H2 locs2 c2 s2 Q (F0 m 1063 ls2 [])) : W p l e room_1 s m args below meth c H locs cells slots Q (F0 m 846 ls []) := by
  obtain ⟨hx, hb, hml, hown, hall, hX, hbl, hbA, hA, hn, hLs⟩ := C0
  obtain ⟨hw, hc0, hSt, hR, hl, rfl, rfl⟩ := S0
  obtain ⟨o, h2, r, bv, hev, k1, hout, ⟨d2, f2, ev2⟩, k2, ⟨d3, f3, ev3⟩, hj⟩ := hp
  obtain ⟨d1, f1, ev1⟩ := id hev
  have m1 := ev_m_c _ _ _ _ _ _ ev1
  have m2 : hp_c o.2 ≤ hp_c h2 ∧ hp_s o.2 ≤ hp_s h2 := ev_m_c _ _ _ _ _ _ ev2
  have m3 := hJ h2 hj
  refine lv_aload_n hx hb dl_846 rfl (lv_at hl 1 rfl) ?_
  refine lq_arg hx hb hX hbl hbA hSt (lv_at hl 0 rfl) (lv_at hl 4 rfl) hLs 1 (by omega) (by decide) dl_847 dl_848 dl_850 dl_851 dl_852 ?_
  refine lq_arg hx hb hX hbl hbA hSt (lv_at hl 0 rfl) (lv_at hl 4 rfl) hLs 2 (by omega) (by decide) dl_853 dl_854 dl_856 dl_857 dl_858 ?_
  refine lv_aload_n hx hb dl_859 rfl (lv_at hl 3 rfl) ?_
  refine sw_stat (k := 58) (as := [.ref a0, .int (xs (i + 1)), .int (xs (i + 2)), .ref qo]) (rest := []) hx hb hml hown (wo_sent hlt D hev hk0 hq0 k1 (mc := hp_c o.2 - hp_c h) (ms := hp_s o.2 - hp_s h) (by omega) (by omega) (hout.imp (fun h9 => ⟨h9.1, h9.2.1⟩) id)) hall wy_728 wy_726 wy_727 wy_0 ⟨by decide +kernel, by decide +kernel, by show (parseMethodDescriptor yw_sent.desc).map (fun d => d.parameters.length) = some 4; decide +kernel⟩ (by decide) (by decide) hw hc0 hSt hA hR hn hl.1 (Nat.le_of_ble_eq_true rfl) dl_860 (by show _ ≤ 601024; omega) (by show _ ≤ 7293034; omega) (fun f9 H1 locs1 hg1 hw1 hc1 hS1 hR1 => ?_)
  refine lv_istore hx hb dl_863 hl (by decide) rfl (fun ls1 hl1 => ?_)
  replace hl : lv_has ls1 7 [(0, .ref b), (1, .ref a0), (2, .ref a2), (3, .ref qo), (4, .int (nI i)), (5, .int r)] := lv_sub hl1 [1, 2, 3, 4, 5, 0] rfl
  replace hSt := hS1
  refine lv_aload_n hx hb dl_865 rfl (lv_at hl 2 rfl) ?_
  refine lq_arg hx hb hX hbl hbA hSt (lv_at hl 0 rfl) (lv_at hl 4 rfl) hLs 1 (by omega) (by decide) dl_866 dl_867 dl_869 dl_870 dl_871 ?_
  refine lq_arg hx hb hX hbl hbA hSt (lv_at hl 0 rfl) (lv_at hl 4 rfl) hLs 2 (by omega) (by decide) dl_872 dl_873 dl_875 dl_876 dl_877 ?_
  refine sw_ret hlt (AsC := [.int (xs (i + 1)), .int (xs (i + 2))]) (K := []) ev2 rfl hx hb hml hown hall (sw_good2 mt_115.2.2.1) (hall _ wy_1045) mt_115 hall (by decide) (by decide) hw1 hS1 hA hR1 (by unfold hp_k at hk5 ⊢; rw [k1]; exact hk5) hq5 ⟨rfl, rfl, trivial⟩ rfl hl.1 (Nat.le_of_ble_eq_true rfl) dl_878 (by show _ ≤ 601024; omega) (by show _ ≤ 7293034; omega) (fun w z H2 locs2 hw2 hS2 hr2 hz2 hkk2 hR2 => ?_)
  cases sw_z hw1 hw2 (k2.trans k1.symm)
  rw [List.append_nil] at hw2 hr2
  have hc2 := sw_ck hc1 hkk2
  cases w with
  | none => exact False.elim hr2
  | some w =>
    have e1 : w = .int bv := hr2.1
    subst e1
    refine W.eq (g2 := F0 m 881 ls1 [.int bv]) rfl ?_
    refine lv_istore hx hb dl_881 hl (by decide) rfl (fun ls2 hl2 => ?_)
    replace hl : lv_has ls2 7 [(0, .ref b), (1, .ref a0), (2, .ref a2), (3, .ref qo), (4, .int (nI i)), (5, .int r), (6, .int bv)] := lv_sub hl2 [1, 2, 3, 4, 5, 6, 0] rfl
    refine lv_aload_n hx hb dl_883 rfl (lv_at hl 2 rfl) ?_
    refine sw_ret hlt (AsC := []) (K := []) ev3 rfl hx hb hml hown hall (sw_good2 mt_74.2.2.1) (hall _ wy_886) mt_74 hall (by decide) (by decide) hw2 hS2 hA hR2 (by unfold hp_k at hk5 ⊢; rw [k2]; exact hk5) hq5 trivial rfl hl.1 (Nat.le_of_ble_eq_true rfl) dl_884 (by show _ ≤ 601024; omega) (by show _ ≤ 7293034; omega) (fun w z H3 locs3 hw3 hS3 hr3 hz3 hkk3 hR3 => ?_)
    cases sw_z hw2 hw3 rfl
    rw [List.append_nil] at hw3 hr3
    have hc3 := sw_ck hc2 hkk3
    cases w with
    | none => exact False.elim hr3
    | some w =>
      have e3 : w = .int r := hr3.1
      subst e3
      refine W.eq (g2 := F0 m 887 ls2 [.int r]) rfl ?_
      refine lv_iload hx hb dl_887 (lv_at hl 5 rfl) ?_
      refine lv_icmp_eq (tgt := 894) hx hb dl_889 (by decide) (fun _ => ?_) (fun h9 => absurd rfl h9)
      refine lv_iload hx hb dl_894 (lv_at hl 5 rfl) ?_
      refine lv_if_ne (tgt := 911) hx hb dl_896 (by decide) (fun _ => ?_) (fun h9 => ?_)
      · refine lv_goto (tgt := 1063) hx hb dl_911 (by decide) ?_
        exact kk h2 f9 H3 locs3 ls2 _ _ hj k2 ⟨hw3, hc3, hS3, hR3, lv_sub hl [0, 1, 2, 3, 4] rfl, by omega, by omega⟩
      · have hf0 := hg1 h9
        refine lv_aload_n hx hb dl_899 rfl (lv_at hl 3 rfl) ?_
        refine lv_iconst (v := 0) hx hb dl_900 (by decide) ?_
        refine sw_lald hx hb hc3 dl_901 ?_
        rw [hf0]
        refine lv_iload hx hb dl_902 (lv_at hl 6 rfl) ?_
        refine lv_i2l hx hb dl_904 rfl ?_
        refine W.lcmp hx hb dl_905 ?_
        refine lv_if_eq (tgt := 911) hx hb dl_906 (by decide) (fun _ => ?_) (fun h8 => absurd (lg_same _) h8)
        refine lv_goto (tgt := 1063) hx hb dl_911 (by decide) ?_
        exact kk h2 f9 H3 locs3 ls2 _ _ hj k2 ⟨hw3, hc3, hS3, hR3, lv_sub hl [0, 1, 2, 3, 4] rfl, by omega, by omega⟩
set_option maxHeartbeats 4000000 in
set_option maxRecDepth 100000 in
theorem lc_out (hlt : l.stackTraces = false) (C0 : lq_C p s m args c A b L xs) (hJ : lq_H J) (hk0 : hp_k h 0 = some (7, 0)) (hk5 : hp_k h 52 = some (8, 0)) (hq0 : ad[0]? = some a0) (hq5 : ad[52]? = some a2) (hi : i + 6 ≤ L) (hp : pu_i false 59 116 cd_out [.int (xs (i + 1)), .int (xs (i + 2))] h J) (S0 : lq_S D A ad h f b a0 a2 qo i s H locs ls cells slots)
    (kk : ∀ (h2 : hp_T) (f2 : Nat → Int64) (H2 : Heap) (locs2 : List Loc) (ls2 : Array Slot) (c2 s2 : Nat), J h2 → h2.1 = h.1 → lq_S D A ad h2 f2 b a0 a2 qo i s H2 locs2 ls2 c2 s2 → W p l e room_1 s m args below meth c H2 locs2 c2 s2 Q (F0 m 1063 ls2 [])) : W p l e room_1 s m args below meth c H locs cells slots Q (F0 m 914 ls []) := by
  obtain ⟨hx, hb, hml, hown, hall, hX, hbl, hbA, hA, hn, hLs⟩ := C0
  obtain ⟨hw, hc0, hSt, hR, hl, rfl, rfl⟩ := S0
  obtain ⟨o, h2, r, bv, hev, k1, hout, ⟨d2, f2, ev2⟩, k2, ⟨d3, f3, ev3⟩, hj⟩ := hp
  obtain ⟨d1, f1, ev1⟩ := id hev
  have m1 := ev_m_c _ _ _ _ _ _ ev1
  have m2 : hp_c o.2 ≤ hp_c h2 ∧ hp_s o.2 ≤ hp_s h2 := ev_m_c _ _ _ _ _ _ ev2
  have m3 := hJ h2 hj
  refine lv_aload_n hx hb dl_914 rfl (lv_at hl 1 rfl) ?_
  refine lq_arg hx hb hX hbl hbA hSt (lv_at hl 0 rfl) (lv_at hl 4 rfl) hLs 1 (by omega) (by decide) dl_915 dl_916 dl_918 dl_919 dl_920 ?_
  refine lq_arg hx hb hX hbl hbA hSt (lv_at hl 0 rfl) (lv_at hl 4 rfl) hLs 2 (by omega) (by decide) dl_921 dl_922 dl_924 dl_925 dl_926 ?_
  refine lv_aload_n hx hb dl_927 rfl (lv_at hl 3 rfl) ?_
  refine sw_stat (k := 59) (as := [.ref a0, .int (xs (i + 1)), .int (xs (i + 2)), .ref qo]) (rest := []) hx hb hml hown (wo_out hlt D hev hk0 hq0 k1 (mc := hp_c o.2 - hp_c h) (ms := hp_s o.2 - hp_s h) (by omega) (by omega) (hout.imp (fun h9 => ⟨h9.1, h9.2.1⟩) id)) hall wy_736 wy_734 wy_735 wy_0 ⟨by decide +kernel, by decide +kernel, by show (parseMethodDescriptor yw_out.desc).map (fun d => d.parameters.length) = some 4; decide +kernel⟩ (by decide) (by decide) hw hc0 hSt hA hR hn hl.1 (Nat.le_of_ble_eq_true rfl) dl_928 (by show _ ≤ 601024; omega) (by show _ ≤ 7293034; omega) (fun f9 H1 locs1 hg1 hw1 hc1 hS1 hR1 => ?_)
  refine lv_istore hx hb dl_931 hl (by decide) rfl (fun ls1 hl1 => ?_)
  replace hl : lv_has ls1 7 [(0, .ref b), (1, .ref a0), (2, .ref a2), (3, .ref qo), (4, .int (nI i)), (5, .int r)] := lv_sub hl1 [1, 2, 3, 4, 5, 0] rfl
  replace hSt := hS1
  refine lv_aload_n hx hb dl_933 rfl (lv_at hl 2 rfl) ?_
  refine lq_arg hx hb hX hbl hbA hSt (lv_at hl 0 rfl) (lv_at hl 4 rfl) hLs 1 (by omega) (by decide) dl_934 dl_935 dl_937 dl_938 dl_939 ?_
  refine lq_arg hx hb hX hbl hbA hSt (lv_at hl 0 rfl) (lv_at hl 4 rfl) hLs 2 (by omega) (by decide) dl_940 dl_941 dl_943 dl_944 dl_945 ?_
  refine sw_ret hlt (AsC := [.int (xs (i + 1)), .int (xs (i + 2))]) (K := []) ev2 rfl hx hb hml hown hall (sw_good2 mt_116.2.2.1) (hall _ wy_1049) mt_116 hall (by decide) (by decide) hw1 hS1 hA hR1 (by unfold hp_k at hk5 ⊢; rw [k1]; exact hk5) hq5 ⟨rfl, rfl, trivial⟩ rfl hl.1 (Nat.le_of_ble_eq_true rfl) dl_946 (by show _ ≤ 601024; omega) (by show _ ≤ 7293034; omega) (fun w z H2 locs2 hw2 hS2 hr2 hz2 hkk2 hR2 => ?_)
  cases sw_z hw1 hw2 (k2.trans k1.symm)
  rw [List.append_nil] at hw2 hr2
  have hc2 := sw_ck hc1 hkk2
  cases w with
  | none => exact False.elim hr2
  | some w =>
    have e1 : w = .int bv := hr2.1
    subst e1
    refine W.eq (g2 := F0 m 949 ls1 [.int bv]) rfl ?_
    refine lv_istore hx hb dl_949 hl (by decide) rfl (fun ls2 hl2 => ?_)
    replace hl : lv_has ls2 7 [(0, .ref b), (1, .ref a0), (2, .ref a2), (3, .ref qo), (4, .int (nI i)), (5, .int r), (6, .int bv)] := lv_sub hl2 [1, 2, 3, 4, 5, 6, 0] rfl
    refine lv_aload_n hx hb dl_951 rfl (lv_at hl 2 rfl) ?_
    refine sw_ret hlt (AsC := []) (K := []) ev3 rfl hx hb hml hown hall (sw_good2 mt_74.2.2.1) (hall _ wy_886) mt_74 hall (by decide) (by decide) hw2 hS2 hA hR2 (by unfold hp_k at hk5 ⊢; rw [k2]; exact hk5) hq5 trivial rfl hl.1 (Nat.le_of_ble_eq_true rfl) dl_952 (by show _ ≤ 601024; omega) (by show _ ≤ 7293034; omega) (fun w z H3 locs3 hw3 hS3 hr3 hz3 hkk3 hR3 => ?_)
    cases sw_z hw2 hw3 rfl
    rw [List.append_nil] at hw3 hr3
    have hc3 := sw_ck hc2 hkk3
    cases w with
    | none => exact False.elim hr3
    | some w =>
      have e3 : w = .int r := hr3.1
      subst e3
      refine W.eq (g2 := F0 m 955 ls2 [.int r]) rfl ?_
      refine lv_iload hx hb dl_955 (lv_at hl 5 rfl) ?_
      refine lv_icmp_eq (tgt := 962) hx hb dl_957 (by decide) (fun _ => ?_) (fun h9 => absurd rfl h9)
      refine lv_iload hx hb dl_962 (lv_at hl 5 rfl) ?_
      refine lv_if_ne (tgt := 979) hx hb dl_964 (by decide) (fun _ => ?_) (fun h9 => ?_)
      · refine lv_goto (tgt := 1063) hx hb dl_979 (by decide) ?_
        exact kk h2 f9 H3 locs3 ls2 _ _ hj k2 ⟨hw3, hc3, hS3, hR3, lv_sub hl [0, 1, 2, 3, 4] rfl, by omega, by omega⟩
      · have hf0 := hg1 h9
        refine lv_aload_n hx hb dl_967 rfl (lv_at hl 3 rfl) ?_
        refine lv_iconst (v := 0) hx hb dl_968 (by decide) ?_
        refine sw_lald hx hb hc3 dl_969 ?_
        rw [hf0]
        refine lv_iload hx hb dl_970 (lv_at hl 6 rfl) ?_
        refine lv_i2l hx hb dl_972 rfl ?_
        refine W.lcmp hx hb dl_973 ?_
        refine lv_if_eq (tgt := 979) hx hb dl_974 (by decide) (fun _ => ?_) (fun h8 => absurd (lg_same _) h8)
        refine lv_goto (tgt := 1063) hx hb dl_979 (by decide) ?_
        exact kk h2 f9 H3 locs3 ls2 _ _ hj k2 ⟨hw3, hc3, hS3, hR3, lv_sub hl [0, 1, 2, 3, 4] rfl, by omega, by omega⟩
set_option maxHeartbeats 4000000 in
set_option maxRecDepth 100000 in
theorem lc_data (hlt : l.stackTraces = false) (C0 : lq_C p s m args c A b L xs) (hJ : lq_H J) (hk0 : hp_k h 0 = some (7, 0)) (hk5 : hp_k h 52 = some (8, 0)) (hq0 : ad[0]? = some a0) (hq5 : ad[52]? = some a2) (hi : i + 6 ≤ L) (hp : pu_d 60 117 [.int (xs (i + 1))] h J) (S0 : lq_S D A ad h f b a0 a2 qo i s H locs ls cells slots)
    (kk : ∀ (h2 : hp_T) (f2 : Nat → Int64) (H2 : Heap) (locs2 : List Loc) (ls2 : Array Slot) (c2 s2 : Nat), J h2 → h2.1 = h.1 → lq_S D A ad h2 f2 b a0 a2 qo i s H2 locs2 ls2 c2 s2 → W p l e room_1 s m args below meth c H2 locs2 c2 s2 Q (F0 m 1063 ls2 [])) : W p l e room_1 s m args below meth c H locs cells slots Q (F0 m 982 ls []) := by
  obtain ⟨hx, hb, hml, hown, hall, hX, hbl, hbA, hA, hn, hLs⟩ := C0
  obtain ⟨hw, hc0, hSt, hR, hl, rfl, rfl⟩ := S0
  obtain ⟨h1, h2, v, ⟨d1, f1, ev1⟩, k1, ⟨d2, f2, ev2⟩, k2, hj⟩ := hp
  have m1 : hp_c h ≤ hp_c h1 ∧ hp_s h ≤ hp_s h1 := ev_m_c _ _ _ _ _ _ ev1
  have m2 : hp_c h1 ≤ hp_c h2 ∧ hp_s h1 ≤ hp_s h2 := ev_m_c _ _ _ _ _ _ ev2
  have m3 := hJ h2 hj
  refine lv_aload_n hx hb dl_982 rfl (lv_at hl 1 rfl) ?_
  refine lq_arg hx hb hX hbl hbA hSt (lv_at hl 0 rfl) (lv_at hl 4 rfl) hLs 1 (by omega) (by decide) dl_983 dl_984 dl_986 dl_987 dl_988 ?_
  refine sw_ret hlt (AsC := [.int (xs (i + 1))]) (K := []) ev1 rfl hx hb hml hown hall (sw_good2 mt_60.2.2.1) (hall _ wy_260) mt_60 hall (by decide) (by decide) hw hSt hA hR hk0 hq0 ⟨rfl, trivial⟩ rfl hl.1 (Nat.le_of_ble_eq_true rfl) dl_989 (by show _ ≤ 601024; omega) (by show _ ≤ 7293034; omega) (fun w z H1 locs1 hw1 hS1 hr1 hz1 hkk1 hR1 => ?_)
  cases sw_z hw hw1 k1
  rw [List.append_nil] at hw1 hr1
  have hc1 := sw_ck hc0 hkk1
  cases w with
  | none => exact False.elim hr1
  | some w =>
    have e1 : w = .int v := hr1.1
    subst e1
    refine W.eq (g2 := F0 m 992 ls [.int v]) rfl ?_
    replace hSt := hS1
    refine lv_aload_n hx hb dl_992 rfl (lv_at hl 2 rfl) ?_
    refine lq_arg hx hb hX hbl hbA hSt (lv_at hl 0 rfl) (lv_at hl 4 rfl) hLs 1 (by omega) (by decide) dl_993 dl_994 dl_996 dl_997 dl_998 ?_
    refine sw_ret hlt (AsC := [.int (xs (i + 1))]) (K := [.int v]) ev2 rfl hx hb hml hown hall (sw_good2 mt_117.2.2.1) (hall _ wy_1053) mt_117 hall (by decide) (by decide) hw1 hS1 hA hR1 (by unfold hp_k at hk5 ⊢; rw [k1]; exact hk5) hq5 ⟨rfl, trivial⟩ rfl hl.1 (Nat.le_of_ble_eq_true rfl) dl_999 (by show _ ≤ 601024; omega) (by show _ ≤ 7293034; omega) (fun w z H2 locs2 hw2 hS2 hr2 hz2 hkk2 hR2 => ?_)
    cases sw_z hw1 hw2 (k2.trans k1.symm)
    rw [List.append_nil] at hw2 hr2
    have hc2 := sw_ck hc1 hkk2
    cases w with
    | none => exact False.elim hr2
    | some w =>
      have e2 : w = .int v := hr2.1
      subst e2
      refine W.eq (g2 := F0 m 1002 ls [.int v, .int v]) rfl ?_
      refine lv_icmp_eq (tgt := 1063) hx hb dl_1002 (by decide) (fun _ => ?_) (fun h9 => absurd rfl h9)
      exact kk h2 f H2 locs2 ls _ _ hj k2 ⟨hw2, hc2, hS2, hR2, hl, by omega, by omega⟩
set_option maxHeartbeats 4000000 in
set_option maxRecDepth 100000 in
theorem lc_about (hlt : l.stackTraces = false) (C0 : lq_C p s m args c A b L xs) (hJ : lq_H J) (hk0 : hp_k h 0 = some (7, 0)) (hk5 : hp_k h 52 = some (8, 0)) (hq0 : ad[0]? = some a0) (hq5 : ad[52]? = some a2) (hi : i + 6 ≤ L) (hp : pu_i false 61 118 cd_about [.int (xs (i + 1))] h J) (S0 : lq_S D A ad h f b a0 a2 qo i s H locs ls cells slots)
    (kk : ∀ (h2 : hp_T) (f2 : Nat → Int64) (H2 : Heap) (locs2 : List Loc) (ls2 : Array Slot) (c2 s2 : Nat), J h2 → h2.1 = h.1 → lq_S D A ad h2 f2 b a0 a2 qo i s H2 locs2 ls2 c2 s2 → W p l e room_1 s m args below meth c H2 locs2 c2 s2 Q (F0 m 1063 ls2 [])) : W p l e room_1 s m args below meth c H locs cells slots Q (F0 m 1007 ls []) := by
  obtain ⟨hx, hb, hml, hown, hall, hX, hbl, hbA, hA, hn, hLs⟩ := C0
  obtain ⟨hw, hc0, hSt, hR, hl, rfl, rfl⟩ := S0
  obtain ⟨o, h2, r, bv, hev, k1, hout, ⟨d2, f2, ev2⟩, k2, ⟨d3, f3, ev3⟩, hj⟩ := hp
  obtain ⟨d1, f1, ev1⟩ := id hev
  have m1 := ev_m_c _ _ _ _ _ _ ev1
  have m2 : hp_c o.2 ≤ hp_c h2 ∧ hp_s o.2 ≤ hp_s h2 := ev_m_c _ _ _ _ _ _ ev2
  have m3 := hJ h2 hj
  refine lv_aload_n hx hb dl_1007 rfl (lv_at hl 1 rfl) ?_
  refine lq_arg hx hb hX hbl hbA hSt (lv_at hl 0 rfl) (lv_at hl 4 rfl) hLs 1 (by omega) (by decide) dl_1008 dl_1009 dl_1011 dl_1012 dl_1013 ?_
  refine lv_aload_n hx hb dl_1014 rfl (lv_at hl 3 rfl) ?_
  refine sw_stat (k := 61) (as := [.ref a0, .int (xs (i + 1)), .ref qo]) (rest := []) hx hb hml hown (wo_about hlt D hev hk0 hq0 k1 (mc := hp_c o.2 - hp_c h) (ms := hp_s o.2 - hp_s h) (by omega) (by omega) (hout.imp (fun h9 => ⟨h9.1, h9.2.1⟩) id)) hall wy_744 wy_742 wy_743 wy_0 ⟨by decide +kernel, by decide +kernel, by show (parseMethodDescriptor yw_about.desc).map (fun d => d.parameters.length) = some 3; decide +kernel⟩ (by decide) (by decide) hw hc0 hSt hA hR hn hl.1 (Nat.le_of_ble_eq_true rfl) dl_1015 (by show _ ≤ 601024; omega) (by show _ ≤ 7293034; omega) (fun f9 H1 locs1 hg1 hw1 hc1 hS1 hR1 => ?_)
  refine lv_istore hx hb dl_1018 hl (by decide) rfl (fun ls1 hl1 => ?_)
  replace hl : lv_has ls1 7 [(0, .ref b), (1, .ref a0), (2, .ref a2), (3, .ref qo), (4, .int (nI i)), (5, .int r)] := lv_sub hl1 [1, 2, 3, 4, 5, 0] rfl
  replace hSt := hS1
  refine lv_aload_n hx hb dl_1020 rfl (lv_at hl 2 rfl) ?_
  refine lq_arg hx hb hX hbl hbA hSt (lv_at hl 0 rfl) (lv_at hl 4 rfl) hLs 1 (by omega) (by decide) dl_1021 dl_1022 dl_1024 dl_1025 dl_1026 ?_
  refine sw_ret hlt (AsC := [.int (xs (i + 1))]) (K := []) ev2 rfl hx hb hml hown hall (sw_good2 mt_118.2.2.1) (hall _ wy_1057) mt_118 hall (by decide) (by decide) hw1 hS1 hA hR1 (by unfold hp_k at hk5 ⊢; rw [k1]; exact hk5) hq5 ⟨rfl, trivial⟩ rfl hl.1 (Nat.le_of_ble_eq_true rfl) dl_1027 (by show _ ≤ 601024; omega) (by show _ ≤ 7293034; omega) (fun w z H2 locs2 hw2 hS2 hr2 hz2 hkk2 hR2 => ?_)
  cases sw_z hw1 hw2 (k2.trans k1.symm)
  rw [List.append_nil] at hw2 hr2
  have hc2 := sw_ck hc1 hkk2
  cases w with
  | none => exact False.elim hr2
  | some w =>
    have e1 : w = .int bv := hr2.1
    subst e1
    refine W.eq (g2 := F0 m 1030 ls1 [.int bv]) rfl ?_
    refine lv_istore hx hb dl_1030 hl (by decide) rfl (fun ls2 hl2 => ?_)
    replace hl : lv_has ls2 7 [(0, .ref b), (1, .ref a0), (2, .ref a2), (3, .ref qo), (4, .int (nI i)), (5, .int r), (6, .int bv)] := lv_sub hl2 [1, 2, 3, 4, 5, 6, 0] rfl
    refine lv_aload_n hx hb dl_1032 rfl (lv_at hl 2 rfl) ?_
    refine sw_ret hlt (AsC := []) (K := []) ev3 rfl hx hb hml hown hall (sw_good2 mt_74.2.2.1) (hall _ wy_886) mt_74 hall (by decide) (by decide) hw2 hS2 hA hR2 (by unfold hp_k at hk5 ⊢; rw [k2]; exact hk5) hq5 trivial rfl hl.1 (Nat.le_of_ble_eq_true rfl) dl_1033 (by show _ ≤ 601024; omega) (by show _ ≤ 7293034; omega) (fun w z H3 locs3 hw3 hS3 hr3 hz3 hkk3 hR3 => ?_)
    cases sw_z hw2 hw3 rfl
    rw [List.append_nil] at hw3 hr3
    have hc3 := sw_ck hc2 hkk3
    cases w with
    | none => exact False.elim hr3
    | some w =>
      have e3 : w = .int r := hr3.1
      subst e3
      refine W.eq (g2 := F0 m 1036 ls2 [.int r]) rfl ?_
      refine lv_iload hx hb dl_1036 (lv_at hl 5 rfl) ?_
      refine lv_icmp_eq (tgt := 1043) hx hb dl_1038 (by decide) (fun _ => ?_) (fun h9 => absurd rfl h9)
      refine lv_iload hx hb dl_1043 (lv_at hl 5 rfl) ?_
      refine lv_if_ne (tgt := 1060) hx hb dl_1045 (by decide) (fun _ => ?_) (fun h9 => ?_)
      · refine lv_goto (tgt := 1063) hx hb dl_1060 (by decide) ?_
        exact kk h2 f9 H3 locs3 ls2 _ _ hj k2 ⟨hw3, hc3, hS3, hR3, lv_sub hl [0, 1, 2, 3, 4] rfl, by omega, by omega⟩
      · have hf0 := hg1 h9
        refine lv_aload_n hx hb dl_1048 rfl (lv_at hl 3 rfl) ?_
        refine lv_iconst (v := 0) hx hb dl_1049 (by decide) ?_
        refine sw_lald hx hb hc3 dl_1050 ?_
        rw [hf0]
        refine lv_iload hx hb dl_1051 (lv_at hl 6 rfl) ?_
        refine lv_i2l hx hb dl_1053 rfl ?_
        refine W.lcmp hx hb dl_1054 ?_
        refine lv_if_eq (tgt := 1060) hx hb dl_1055 (by decide) (fun _ => ?_) (fun h8 => absurd (lg_same _) h8)
        refine lv_goto (tgt := 1063) hx hb dl_1060 (by decide) ?_
        exact kk h2 f9 H3 locs3 ls2 _ _ hj k2 ⟨hw3, hc3, hS3, hR3, lv_sub hl [0, 1, 2, 3, 4] rfl, by omega, by omega⟩
end Cases
