theorem uw_0 : ∀ w ∈ u_ws tc_0 tf_0 5, w ∈ tb_all := (show ∀ w ∈ ([wv_215, wv_217, wv_219, wv_221, wv_223] : List Jvm.Cond), w ∈ tb_all from List.forall_mem_cons.mpr ⟨wd_215, List.forall_mem_cons.mpr ⟨wd_217, List.forall_mem_cons.mpr ⟨wd_219, List.forall_mem_cons.mpr ⟨wd_221, List.forall_mem_cons.mpr ⟨wd_223, fun _ h => absurd h List.not_mem_nil⟩⟩⟩⟩⟩)
theorem uw_1 : ∀ w ∈ u_ws tc_1 tf_1 8, w ∈ tb_all := (show ∀ w ∈ ([wv_113, wv_115, wv_117, wv_119, wv_121, wv_123, wv_125, wv_127] : List Jvm.Cond), w ∈ tb_all from List.forall_mem_cons.mpr ⟨wd_113, List.forall_mem_cons.mpr ⟨wd_115, List.forall_mem_cons.mpr ⟨wd_117, List.forall_mem_cons.mpr ⟨wd_119, List.forall_mem_cons.mpr ⟨wd_121, List.forall_mem_cons.mpr ⟨wd_123, List.forall_mem_cons.mpr ⟨wd_125, List.forall_mem_cons.mpr ⟨wd_127, fun _ h => absurd h List.not_mem_nil⟩⟩⟩⟩⟩⟩⟩⟩)
theorem uw_2 : ∀ w ∈ u_ws tc_2 tf_2 2, w ∈ tb_all := (show ∀ w ∈ ([wv_87, wv_89] : List Jvm.Cond), w ∈ tb_all from List.forall_mem_cons.mpr ⟨wd_87, List.forall_mem_cons.mpr ⟨wd_89, fun _ h => absurd h List.not_mem_nil⟩⟩)
theorem uw_3 : ∀ w ∈ u_ws tc_3 tf_3 3, w ∈ tb_all := (show ∀ w ∈ ([wv_40, wv_42, wv_44] : List Jvm.Cond), w ∈ tb_all from List.forall_mem_cons.mpr ⟨wd_40, List.forall_mem_cons.mpr ⟨wd_42, List.forall_mem_cons.mpr ⟨wd_44, fun _ h => absurd h List.not_mem_nil⟩⟩⟩)
theorem uw_4 : ∀ w ∈ u_ws tc_4 tf_4 5, w ∈ tb_all := (show ∀ w ∈ ([wv_62, wv_64, wv_66, wv_68, wv_70] : List Jvm.Cond), w ∈ tb_all from List.forall_mem_cons.mpr ⟨wd_62, List.forall_mem_cons.mpr ⟨wd_64, List.forall_mem_cons.mpr ⟨wd_66, List.forall_mem_cons.mpr ⟨wd_68, List.forall_mem_cons.mpr ⟨wd_70, fun _ h => absurd h List.not_mem_nil⟩⟩⟩⟩⟩)
theorem uw_5 : ∀ w ∈ u_ws tc_5 tf_5 13, w ∈ tb_all := (show ∀ w ∈ ([wv_162, wv_164, wv_166, wv_168, wv_170, wv_172, wv_174, wv_176, wv_178, wv_180, wv_182, wv_184, wv_186] : List Jvm.Cond), w ∈ tb_all from List.forall_mem_cons.mpr ⟨wd_162, List.forall_mem_cons.mpr ⟨wd_164, List.forall_mem_cons.mpr ⟨wd_166, List.forall_mem_cons.mpr ⟨wd_168, List.forall_mem_cons.mpr ⟨wd_170, List.forall_mem_cons.mpr ⟨wd_172, List.forall_mem_cons.mpr ⟨wd_174, List.forall_mem_cons.mpr ⟨wd_176, List.forall_mem_cons.mpr ⟨wd_178, List.forall_mem_cons.mpr ⟨wd_180, List.forall_mem_cons.mpr ⟨wd_182, List.forall_mem_cons.mpr ⟨wd_184, List.forall_mem_cons.mpr ⟨wd_186, fun _ h => absurd h List.not_mem_nil⟩⟩⟩⟩⟩⟩⟩⟩⟩⟩⟩⟩⟩)
theorem uw_6 : ∀ w ∈ u_ws tc_6 tf_6 2, w ∈ tb_all := (show ∀ w ∈ ([wv_194, wv_196] : List Jvm.Cond), w ∈ tb_all from List.forall_mem_cons.mpr ⟨wd_194, List.forall_mem_cons.mpr ⟨wd_196, fun _ h => absurd h List.not_mem_nil⟩⟩)
theorem uw_7 : ∀ w ∈ u_ws tc_7 tf_7 11, w ∈ tb_all := (show ∀ w ∈ ([wv_237, wv_239, wv_241, wv_243, wv_245, wv_247, wv_249, wv_251, wv_253, wv_255, wv_257] : List Jvm.Cond), w ∈ tb_all from List.forall_mem_cons.mpr ⟨wd_237, List.forall_mem_cons.mpr ⟨wd_239, List.forall_mem_cons.mpr ⟨wd_241, List.forall_mem_cons.mpr ⟨wd_243, List.forall_mem_cons.mpr ⟨wd_245, List.forall_mem_cons.mpr ⟨wd_247, List.forall_mem_cons.mpr ⟨wd_249, List.forall_mem_cons.mpr ⟨wd_251, List.forall_mem_cons.mpr ⟨wd_253, List.forall_mem_cons.mpr ⟨wd_255, List.forall_mem_cons.mpr ⟨wd_257, fun _ h => absurd h List.not_mem_nil⟩⟩⟩⟩⟩⟩⟩⟩⟩⟩⟩)
theorem uw_8 : ∀ w ∈ u_ws tc_8 tf_8 43, w ∈ tb_all := (show ∀ w ∈ ([wv_799, wv_801, wv_803, wv_805, wv_807, wv_809, wv_811, wv_813, wv_815, wv_817, wv_819, wv_821, wv_823, wv_825, wv_827, wv_829, wv_831, wv_833, wv_835, wv_837, wv_839, wv_841, wv_843, wv_845, wv_847, wv_849, wv_851, wv_853, wv_855, wv_857, wv_859, wv_861, wv_863, wv_865, wv_867, wv_869, wv_871, wv_873, wv_875, wv_877, wv_879, wv_881, wv_883] : List Jvm.Cond), w ∈ tb_all from List.forall_mem_cons.mpr ⟨wd_799, List.forall_mem_cons.mpr ⟨wd_801, List.forall_mem_cons.mpr ⟨wd_803, List.forall_mem_cons.mpr ⟨wd_805, List.forall_mem_cons.mpr ⟨wd_807, List.forall_mem_cons.mpr ⟨wd_809, List.forall_mem_cons.mpr ⟨wd_811, List.forall_mem_cons.mpr ⟨wd_813, List.forall_mem_cons.mpr ⟨wd_815, List.forall_mem_cons.mpr ⟨wd_817, List.forall_mem_cons.mpr ⟨wd_819, List.forall_mem_cons.mpr ⟨wd_821, List.forall_mem_cons.mpr ⟨wd_823, List.forall_mem_cons.mpr ⟨wd_825, List.forall_mem_cons.mpr ⟨wd_827, List.forall_mem_cons.mpr ⟨wd_829, List.forall_mem_cons.mpr ⟨wd_831, List.forall_mem_cons.mpr ⟨wd_833, List.forall_mem_cons.mpr ⟨wd_835, List.forall_mem_cons.mpr ⟨wd_837, List.forall_mem_cons.mpr ⟨wd_839, List.forall_mem_cons.mpr ⟨wd_841, List.forall_mem_cons.mpr ⟨wd_843, List.forall_mem_cons.mpr ⟨wd_845, List.forall_mem_cons.mpr ⟨wd_847, List.forall_mem_cons.mpr ⟨wd_849, List.forall_mem_cons.mpr ⟨wd_851, List.forall_mem_cons.mpr ⟨wd_853, List.forall_mem_cons.mpr ⟨wd_855, List.forall_mem_cons.mpr ⟨wd_857, List.forall_mem_cons.mpr ⟨wd_859, List.forall_mem_cons.mpr ⟨wd_861, List.forall_mem_cons.mpr ⟨wd_863, List.forall_mem_cons.mpr ⟨wd_865, List.forall_mem_cons.mpr ⟨wd_867, List.forall_mem_cons.mpr ⟨wd_869, List.forall_mem_cons.mpr ⟨wd_871, List.forall_mem_cons.mpr ⟨wd_873, List.forall_mem_cons.mpr ⟨wd_875, List.forall_mem_cons.mpr ⟨wd_877, List.forall_mem_cons.mpr ⟨wd_879, List.forall_mem_cons.mpr ⟨wd_881, List.forall_mem_cons.mpr ⟨wd_883, fun _ h => absurd h List.not_mem_nil⟩⟩⟩⟩⟩⟩⟩⟩⟩⟩⟩⟩⟩⟩⟩⟩⟩⟩⟩⟩⟩⟩⟩⟩⟩⟩⟩⟩⟩⟩⟩⟩⟩⟩⟩⟩⟩⟩⟩⟩⟩⟩⟩)
def tb_cn (c : Nat) : String := tb_nms.getD c ""
def lf_1 (c x ci fk : Nat) : Prop := ∃ (C : String) (T : u_T) (N : Nat), vwCl[ci]? = some (C, T, N) ∧ fk < N ∧ (∀ w ∈ u_ws C T N, w ∈ tb_all) ∧ Jvm.Cond.fieldLink (tb_cn c) x (T fk).1 (T fk).2.1 (T fk).2.2.1 ∈ tb_all
def lf_m (k kind : Nat) : Prop := tb_ok k = true ∧ Jvm.Cond.initialized (tb_y k).cls ∈ tb_all ∧ Jvm.Cond.code (tb_y k) (tb_b k) (tb_ml k) (tb_rt k) ∈ tb_all ∧ ((tb_y k).cls ≠ "java/lang/invoke/MethodHandle" ∧ (tb_y k).cls ≠ "java/lang/invoke/VarHandle" ∧ (parseMethodDescriptor (tb_y k).desc).map (fun d => d.parameters.length) = some (tb_na k)) ∧
  (kind = 0 → Jvm.Cond.static (tb_y k) ∈ tb_all) ∧ (kind = 1 → (∃ (T : u_T) (N : Nat), vwCl[tb_ci k]? = some ((tb_y k).cls, T, N)) ∧ Jvm.Cond.instanceMethod (tb_y k) ∈ tb_all ∧ Jvm.Cond.selects (tb_y k).cls (tb_y k) (tb_y k) ∈ tb_all) ∧ (kind = 2 → (tb_y k).name = "<init>" ∧ tb_rt k = none ∧ Jvm.Cond.instanceMethod (tb_y k) ∈ tb_all)
def lf_3 (c x ci n : Nat) : Prop := ∃ (C : String) (T : u_T), vwCl[ci]? = some (C, T, n) ∧ (∀ w ∈ u_ws C T n, w ∈ tb_all) ∧ Jvm.Cond.classLink (tb_cn c) x C ∈ tb_all ∧ Jvm.Cond.instantiable C n ∈ tb_all ∧ Jvm.Cond.initialized C ∈ tb_all
def lf (c x : Nat) (r : tb_R) : Prop := (r.1 = 1 → lf_1 c x r.2.1 r.2.2.1) ∧ (r.1 = 2 → Jvm.Cond.methodLink (tb_cn c) x (tb_y r.2.1) ∈ tb_all ∧ lf_m r.2.1 r.2.2.1) ∧ (r.1 = 3 → lf_3 c x r.2.1 r.2.2.1) ∧ (r.1 = 4 → Jvm.Cond.constant (tb_cn c) x r.2.2.2 ∈ tb_all) ∧
  (r.1 = 5 → Jvm.Cond.methodLink (tb_cn c) x arraycopyName ∈ tb_all) ∧ (r.1 = 6 → Jvm.Cond.methodLink (tb_cn c) x Lib.Math.max.name ∈ tb_all) ∧ (r.1 = 7 → Jvm.Cond.methodLink (tb_cn c) x Lib.Math.min.name ∈ tb_all) ∧ (r.1 = 8 → Jvm.Cond.methodLink (tb_cn c) x Lib.objectInit ∈ tb_all)
theorem lf_o1 {c x : Nat} {ci fk : Nat} {v : Int32} (h : lf_1 c x ci fk) : lf c x (1, ci, fk, v) := ⟨fun _ => h, nofun, nofun, nofun, nofun, nofun, nofun, nofun⟩
theorem lf_o2 {c x : Nat} {k kd : Nat} {v : Int32} (h : Jvm.Cond.methodLink (tb_cn c) x (tb_y k) ∈ tb_all) (h2 : lf_m k kd) : lf c x (2, k, kd, v) := ⟨nofun, fun _ => ⟨h, h2⟩, nofun, nofun, nofun, nofun, nofun, nofun⟩
theorem lf_o3 {c x : Nat} {ci n : Nat} {v : Int32} (h : lf_3 c x ci n) : lf c x (3, ci, n, v) := ⟨nofun, nofun, fun _ => h, nofun, nofun, nofun, nofun, nofun⟩
theorem lf_o4 {c x : Nat} {a b : Nat} {v : Int32} (h : Jvm.Cond.constant (tb_cn c) x v ∈ tb_all) : lf c x (4, a, b, v) := ⟨nofun, nofun, nofun, fun _ => h, nofun, nofun, nofun, nofun⟩
theorem lf_o5 {c x : Nat} {a b : Nat} {v : Int32} (h : Jvm.Cond.methodLink (tb_cn c) x arraycopyName ∈ tb_all) : lf c x (5, a, b, v) := ⟨nofun, nofun, nofun, nofun, fun _ => h, nofun, nofun, nofun⟩
theorem lf_o6 {c x : Nat} {a b : Nat} {v : Int32} (h : Jvm.Cond.methodLink (tb_cn c) x Lib.Math.max.name ∈ tb_all) : lf c x (6, a, b, v) := ⟨nofun, nofun, nofun, nofun, nofun, fun _ => h, nofun, nofun⟩
theorem lf_o7 {c x : Nat} {a b : Nat} {v : Int32} (h : Jvm.Cond.methodLink (tb_cn c) x Lib.Math.min.name ∈ tb_all) : lf c x (7, a, b, v) := ⟨nofun, nofun, nofun, nofun, nofun, nofun, fun _ => h, nofun⟩
theorem lf_o8 {c x : Nat} {a b : Nat} {v : Int32} (h : Jvm.Cond.methodLink (tb_cn c) x Lib.objectInit ∈ tb_all) : lf c x (8, a, b, v) := ⟨nofun, nofun, nofun, nofun, nofun, nofun, nofun, fun _ => h⟩
theorem lf_o9 {c x : Nat} {a b : Nat} {v : Int32} : lf c x (9, a, b, v) := ⟨nofun, nofun, nofun, nofun, nofun, nofun, nofun, nofun⟩
theorem mt_0 : lf_m 0 2 := ⟨rfl, wd_8, wd_203, ⟨by decide +kernel, by decide +kernel, by decide +kernel⟩, nofun, nofun, fun _ => ⟨rfl, rfl, wd_202⟩⟩
theorem mt_1 : lf_m 1 1 := ⟨rfl, wd_8, wd_682, ⟨by decide +kernel, by decide +kernel, by decide +kernel⟩, nofun, fun _ => ⟨⟨_, _, rfl⟩, wd_680, wd_681⟩, nofun⟩
theorem mt_2 : lf_m 2 2 := ⟨rfl, wd_5, wd_97, ⟨by decide +kernel, by decide +kernel, by decide +kernel⟩, nofun, nofun, fun _ => ⟨rfl, rfl, wd_96⟩⟩
theorem mt_3 : lf_m 3 1 := ⟨rfl, wd_5, wd_506, ⟨by decide +kernel, by decide +kernel, by decide +kernel⟩, nofun, fun _ => ⟨⟨_, _, rfl⟩, wd_504, wd_505⟩, nofun⟩
theorem mt_4 : lf_m 4 1 := ⟨rfl, wd_5, wd_578, ⟨by decide +kernel, by decide +kernel, by decide +kernel⟩, nofun, fun _ => ⟨⟨_, _, rfl⟩, wd_576, wd_577⟩, nofun⟩
theorem mt_5 : lf_m 5 1 := ⟨rfl, wd_5, wd_584, ⟨by decide +kernel, by decide +kernel, by decide +kernel⟩, nofun, fun _ => ⟨⟨_, _, rfl⟩, wd_583, wq_7⟩, nofun⟩
theorem mt_6 : lf_m 6 1 := ⟨rfl, wd_5, wd_592, ⟨by decide +kernel, by decide +kernel, by decide +kernel⟩, nofun, fun _ => ⟨⟨_, _, rfl⟩, wd_591, wq_8⟩, nofun⟩
theorem mt_7 : lf_m 7 2 := ⟨rfl, wd_4, wd_78, ⟨by decide +kernel, by decide +kernel, by decide +kernel⟩, nofun, nofun, fun _ => ⟨rfl, rfl, wd_77⟩⟩
theorem mt_8 : lf_m 8 1 := ⟨rfl, wd_4, wd_514, ⟨by decide +kernel, by decide +kernel, by decide +kernel⟩, nofun, fun _ => ⟨⟨_, _, rfl⟩, wd_512, wd_513⟩, nofun⟩
theorem mt_9 : lf_m 9 1 := ⟨rfl, wd_4, wd_518, ⟨by decide +kernel, by decide +kernel, by decide +kernel⟩, nofun, fun _ => ⟨⟨_, _, rfl⟩, wd_516, wd_517⟩, nofun⟩
theorem mt_10 : lf_m 10 1 := ⟨rfl, wd_4, wd_530, ⟨by decide +kernel, by decide +kernel, by decide +kernel⟩, nofun, fun _ => ⟨⟨_, _, rfl⟩, wd_528, wd_529⟩, nofun⟩
theorem mt_11 : lf_m 11 1 := ⟨rfl, wd_4, wd_627, ⟨by decide +kernel, by decide +kernel, by decide +kernel⟩, nofun, fun _ => ⟨⟨_, _, rfl⟩, wd_625, wd_626⟩, nofun⟩
theorem mt_12 : lf_m 12 1 := ⟨rfl, wd_4, wd_708, ⟨by decide +kernel, by decide +kernel, by decide +kernel⟩, nofun, fun _ => ⟨⟨_, _, rfl⟩, wd_706, wd_707⟩, nofun⟩
theorem mt_13 : lf_m 13 1 := ⟨rfl, wd_4, wd_637, ⟨by decide +kernel, by decide +kernel, by decide +kernel⟩, nofun, fun _ => ⟨⟨_, _, rfl⟩, wd_635, wd_636⟩, nofun⟩
theorem mt_14 : lf_m 14 1 := ⟨rfl, wd_4, wd_609, ⟨by decide +kernel, by decide +kernel, by decide +kernel⟩, nofun, fun _ => ⟨⟨_, _, rfl⟩, wd_607, wd_608⟩, nofun⟩
theorem mt_15 : lf_m 15 1 := ⟨rfl, wd_4, wd_526, ⟨by decide +kernel, by decide +kernel, by decide +kernel⟩, nofun, fun _ => ⟨⟨_, _, rfl⟩, wd_524, wd_525⟩, nofun⟩
theorem mt_16 : lf_m 16 1 := ⟨rfl, wd_4, wd_703, ⟨by decide +kernel, by decide +kernel, by decide +kernel⟩, nofun, fun _ => ⟨⟨_, _, rfl⟩, wd_701, wd_702⟩, nofun⟩
theorem mt_17 : lf_m 17 1 := ⟨rfl, wd_4, wd_562, ⟨by decide +kernel, by decide +kernel, by decide +kernel⟩, nofun, fun _ => ⟨⟨_, _, rfl⟩, wd_560, wd_561⟩, nofun⟩
theorem mt_18 : lf_m 18 1 := ⟨rfl, wd_4, wd_555, ⟨by decide +kernel, by decide +kernel, by decide +kernel⟩, nofun, fun _ => ⟨⟨_, _, rfl⟩, wd_553, wd_554⟩, nofun⟩
theorem mt_19 : lf_m 19 1 := ⟨rfl, wd_4, wd_597, ⟨by decide +kernel, by decide +kernel, by decide +kernel⟩, nofun, fun _ => ⟨⟨_, _, rfl⟩, wd_595, wd_596⟩, nofun⟩
theorem mt_20 : lf_m 20 1 := ⟨rfl, wd_4, wd_510, ⟨by decide +kernel, by decide +kernel, by decide +kernel⟩, nofun, fun _ => ⟨⟨_, _, rfl⟩, wd_508, wd_509⟩, nofun⟩
theorem mt_21 : lf_m 21 1 := ⟨rfl, wd_4, wd_539, ⟨by decide +kernel, by decide +kernel, by decide +kernel⟩, nofun, fun _ => ⟨⟨_, _, rfl⟩, wd_537, wd_538⟩, nofun⟩
theorem mt_22 : lf_m 22 1 := ⟨rfl, wd_4, wd_543, ⟨by decide +kernel, by decide +kernel, by decide +kernel⟩, nofun, fun _ => ⟨⟨_, _, rfl⟩, wd_541, wd_542⟩, nofun⟩
theorem mt_23 : lf_m 23 1 := ⟨rfl, wd_4, wd_691, ⟨by decide +kernel, by decide +kernel, by decide +kernel⟩, nofun, fun _ => ⟨⟨_, _, rfl⟩, wd_689, wd_690⟩, nofun⟩
theorem mt_24 : lf_m 24 1 := ⟨rfl, wd_4, wd_551, ⟨by decide +kernel, by decide +kernel, by decide +kernel⟩, nofun, fun _ => ⟨⟨_, _, rfl⟩, wd_549, wd_550⟩, nofun⟩
theorem mt_25 : lf_m 25 2 := ⟨rfl, wd_2, wd_33, ⟨by decide +kernel, by decide +kernel, by decide +kernel⟩, nofun, nofun, fun _ => ⟨rfl, rfl, wd_32⟩⟩
theorem mt_26 : lf_m 26 2 := ⟨rfl, wd_3, wd_51, ⟨by decide +kernel, by decide +kernel, by decide +kernel⟩, nofun, nofun, fun _ => ⟨rfl, rfl, wd_50⟩⟩
theorem mt_27 : lf_m 27 0 := ⟨rfl, wd_3, wd_387, ⟨by decide +kernel, by decide +kernel, by decide +kernel⟩, fun _ => wd_386, nofun, nofun⟩
theorem mt_28 : lf_m 28 1 := ⟨rfl, wd_3, wd_384, ⟨by decide +kernel, by decide +kernel, by decide +kernel⟩, nofun, fun _ => ⟨⟨_, _, rfl⟩, wd_382, wd_383⟩, nofun⟩
theorem mt_29 : lf_m 29 1 := ⟨rfl, wd_3, wd_430, ⟨by decide +kernel, by decide +kernel, by decide +kernel⟩, nofun, fun _ => ⟨⟨_, _, rfl⟩, wd_428, wd_429⟩, nofun⟩
theorem mt_30 : lf_m 30 1 := ⟨rfl, wd_3, wd_407, ⟨by decide +kernel, by decide +kernel, by decide +kernel⟩, nofun, fun _ => ⟨⟨_, _, rfl⟩, wd_405, wd_406⟩, nofun⟩
theorem mt_31 : lf_m 31 1 := ⟨rfl, wd_3, wd_418, ⟨by decide +kernel, by decide +kernel, by decide +kernel⟩, nofun, fun _ => ⟨⟨_, _, rfl⟩, wd_416, wd_417⟩, nofun⟩
theorem mt_32 : lf_m 32 2 := ⟨rfl, wd_7, wd_141, ⟨by decide +kernel, by decide +kernel, by decide +kernel⟩, nofun, nofun, fun _ => ⟨rfl, rfl, wd_140⟩⟩
theorem mt_33 : lf_m 33 1 := ⟨rfl, wd_7, wd_657, ⟨by decide +kernel, by decide +kernel, by decide +kernel⟩, nofun, fun _ => ⟨⟨_, _, rfl⟩, wd_655, wd_656⟩, nofun⟩
theorem mt_34 : lf_m 34 1 := ⟨rfl, wd_7, wd_621, ⟨by decide +kernel, by decide +kernel, by decide +kernel⟩, nofun, fun _ => ⟨⟨_, _, rfl⟩, wd_619, wd_620⟩, nofun⟩
theorem mt_35 : lf_m 35 1 := ⟨rfl, wd_7, wd_642, ⟨by decide +kernel, by decide +kernel, by decide +kernel⟩, nofun, fun _ => ⟨⟨_, _, rfl⟩, wd_640, wd_641⟩, nofun⟩
theorem mt_36 : lf_m 36 1 := ⟨rfl, wd_7, wd_661, ⟨by decide +kernel, by decide +kernel, by decide +kernel⟩, nofun, fun _ => ⟨⟨_, _, rfl⟩, wd_659, wd_660⟩, nofun⟩
theorem mt_37 : lf_m 37 1 := ⟨rfl, wd_7, wd_670, ⟨by decide +kernel, by decide +kernel, by decide +kernel⟩, nofun, fun _ => ⟨⟨_, _, rfl⟩, wd_668, wd_669⟩, nofun⟩
theorem mt_38 : lf_m 38 1 := ⟨rfl, wd_7, wd_674, ⟨by decide +kernel, by decide +kernel, by decide +kernel⟩, nofun, fun _ => ⟨⟨_, _, rfl⟩, wd_672, wd_673⟩, nofun⟩
theorem mt_39 : lf_m 39 2 := ⟨rfl, wd_6, wd_134, ⟨by decide +kernel, by decide +kernel, by decide +kernel⟩, nofun, nofun, fun _ => ⟨rfl, rfl, wd_133⟩⟩
theorem mt_40 : lf_m 40 1 := ⟨rfl, wd_6, wd_613, ⟨by decide +kernel, by decide +kernel, by decide +kernel⟩, nofun, fun _ => ⟨⟨_, _, rfl⟩, wd_611, wd_612⟩, nofun⟩
theorem mt_41 : lf_m 41 1 := ⟨rfl, wd_6, wd_724, ⟨by decide +kernel, by decide +kernel, by decide +kernel⟩, nofun, fun _ => ⟨⟨_, _, rfl⟩, wd_722, wd_723⟩, nofun⟩
theorem mt_42 : lf_m 42 1 := ⟨rfl, wd_6, wd_649, ⟨by decide +kernel, by decide +kernel, by decide +kernel⟩, nofun, fun _ => ⟨⟨_, _, rfl⟩, wd_647, wd_648⟩, nofun⟩
theorem mt_43 : lf_m 43 1 := ⟨rfl, wd_6, wd_617, ⟨by decide +kernel, by decide +kernel, by decide +kernel⟩, nofun, fun _ => ⟨⟨_, _, rfl⟩, wd_616, wq_11⟩, nofun⟩
theorem mt_44 : lf_m 44 1 := ⟨rfl, wd_6, wd_632, ⟨by decide +kernel, by decide +kernel, by decide +kernel⟩, nofun, fun _ => ⟨⟨_, _, rfl⟩, wd_631, wq_12⟩, nofun⟩
theorem mt_45 : lf_m 45 1 := ⟨rfl, wd_6, wd_653, ⟨by decide +kernel, by decide +kernel, by decide +kernel⟩, nofun, fun _ => ⟨⟨_, _, rfl⟩, wd_652, wq_13⟩, nofun⟩
theorem mt_62 : lf_m 62 1 := ⟨rfl, wd_1, wd_276, ⟨by decide +kernel, by decide +kernel, by decide +kernel⟩, nofun, fun _ => ⟨⟨_, _, rfl⟩, wd_275, wq_0⟩, nofun⟩
theorem mt_63 : lf_m 63 1 := ⟨rfl, wd_1, wd_491, ⟨by decide +kernel, by decide +kernel, by decide +kernel⟩, nofun, fun _ => ⟨⟨_, _, rfl⟩, wd_490, wq_3⟩, nofun⟩
theorem mt_64 : lf_m 64 1 := ⟨rfl, wd_1, wd_379, ⟨by decide +kernel, by decide +kernel, by decide +kernel⟩, nofun, fun _ => ⟨⟨_, _, rfl⟩, wd_378, wq_2⟩, nofun⟩
theorem mt_65 : lf_m 65 1 := ⟨rfl, wd_1, wd_535, ⟨by decide +kernel, by decide +kernel, by decide +kernel⟩, nofun, fun _ => ⟨⟨_, _, rfl⟩, wd_534, wq_4⟩, nofun⟩
theorem mt_66 : lf_m 66 1 := ⟨rfl, wd_1, wd_601, ⟨by decide +kernel, by decide +kernel, by decide +kernel⟩, nofun, fun _ => ⟨⟨_, _, rfl⟩, wd_600, wq_9⟩, nofun⟩
theorem mt_67 : lf_m 67 1 := ⟨rfl, wd_1, wd_605, ⟨by decide +kernel, by decide +kernel, by decide +kernel⟩, nofun, fun _ => ⟨⟨_, _, rfl⟩, wd_604, wq_10⟩, nofun⟩
theorem mt_68 : lf_m 68 1 := ⟨rfl, wd_1, wd_699, ⟨by decide +kernel, by decide +kernel, by decide +kernel⟩, nofun, fun _ => ⟨⟨_, _, rfl⟩, wd_698, wq_15⟩, nofun⟩
theorem mt_69 : lf_m 69 1 := ⟨rfl, wd_1, wd_547, ⟨by decide +kernel, by decide +kernel, by decide +kernel⟩, nofun, fun _ => ⟨⟨_, _, rfl⟩, wd_546, wq_5⟩, nofun⟩
theorem mt_70 : lf_m 70 1 := ⟨rfl, wd_1, wd_695, ⟨by decide +kernel, by decide +kernel, by decide +kernel⟩, nofun, fun _ => ⟨⟨_, _, rfl⟩, wd_694, wq_14⟩, nofun⟩
theorem mt_71 : lf_m 71 1 := ⟨rfl, wd_1, wd_572, ⟨by decide +kernel, by decide +kernel, by decide +kernel⟩, nofun, fun _ => ⟨⟨_, _, rfl⟩, wd_571, wq_6⟩, nofun⟩
theorem mt_72 : lf_m 72 1 := ⟨rfl, wd_1, wd_720, ⟨by decide +kernel, by decide +kernel, by decide +kernel⟩, nofun, fun _ => ⟨⟨_, _, rfl⟩, wd_719, wq_16⟩, nofun⟩
theorem mt_75 : lf_m 75 1 := ⟨rfl, wd_9, wd_900, ⟨by decide +kernel, by decide +kernel, by decide +kernel⟩, nofun, fun _ => ⟨⟨_, _, rfl⟩, wd_899, wq_17⟩, nofun⟩
theorem mt_76 : lf_m 76 0 := ⟨rfl, wd_9, wd_896, ⟨by decide +kernel, by decide +kernel, by decide +kernel⟩, fun _ => wd_895, nofun, nofun⟩
theorem mt_79 : lf_m 79 0 := ⟨rfl, wd_9, wd_915, ⟨by decide +kernel, by decide +kernel, by decide +kernel⟩, fun _ => wd_914, nofun, nofun⟩
theorem mt_80 : lf_m 80 1 := ⟨rfl, wd_9, wd_912, ⟨by decide +kernel, by decide +kernel, by decide +kernel⟩, nofun, fun _ => ⟨⟨_, _, rfl⟩, wd_911, wq_18⟩, nofun⟩
theorem mt_83 : lf_m 83 1 := ⟨rfl, wd_9, wd_927, ⟨by decide +kernel, by decide +kernel, by decide +kernel⟩, nofun, fun _ => ⟨⟨_, _, rfl⟩, wd_926, wq_19⟩, nofun⟩
theorem mt_87 : lf_m 87 0 := ⟨rfl, wd_9, wd_942, ⟨by decide +kernel, by decide +kernel, by decide +kernel⟩, fun _ => wd_941, nofun, nofun⟩
theorem mt_88 : lf_m 88 0 := ⟨rfl, wd_9, wd_946, ⟨by decide +kernel, by decide +kernel, by decide +kernel⟩, fun _ => wd_945, nofun, nofun⟩
theorem mt_89 : lf_m 89 0 := ⟨rfl, wd_9, wd_961, ⟨by decide +kernel, by decide +kernel, by decide +kernel⟩, fun _ => wd_960, nofun, nofun⟩
theorem mt_90 : lf_m 90 0 := ⟨rfl, wd_9, wd_975, ⟨by decide +kernel, by decide +kernel, by decide +kernel⟩, fun _ => wd_974, nofun, nofun⟩
theorem mt_91 : lf_m 91 0 := ⟨rfl, wd_9, wd_983, ⟨by decide +kernel, by decide +kernel, by decide +kernel⟩, fun _ => wd_982, nofun, nofun⟩
theorem mt_94 : lf_m 94 1 := ⟨rfl, wd_9, wd_987, ⟨by decide +kernel, by decide +kernel, by decide +kernel⟩, nofun, fun _ => ⟨⟨_, _, rfl⟩, wd_986, wq_24⟩, nofun⟩
theorem mt_95 : lf_m 95 1 := ⟨rfl, wd_9, wd_999, ⟨by decide +kernel, by decide +kernel, by decide +kernel⟩, nofun, fun _ => ⟨⟨_, _, rfl⟩, wd_998, wq_27⟩, nofun⟩
theorem mt_96 : lf_m 96 1 := ⟨rfl, wd_9, wd_1003, ⟨by decide +kernel, by decide +kernel, by decide +kernel⟩, nofun, fun _ => ⟨⟨_, _, rfl⟩, wd_1002, wq_28⟩, nofun⟩
theorem mt_97 : lf_m 97 1 := ⟨rfl, wd_9, wd_979, ⟨by decide +kernel, by decide +kernel, by decide +kernel⟩, nofun, fun _ => ⟨⟨_, _, rfl⟩, wd_978, wq_23⟩, nofun⟩
theorem mt_98 : lf_m 98 1 := ⟨rfl, wd_9, wd_972, ⟨by decide +kernel, by decide +kernel, by decide +kernel⟩, nofun, fun _ => ⟨⟨_, _, rfl⟩, wd_971, wq_22⟩, nofun⟩
theorem mt_99 : lf_m 99 1 := ⟨rfl, wd_9, wd_1036, ⟨by decide +kernel, by decide +kernel, by decide +kernel⟩, nofun, fun _ => ⟨⟨_, _, rfl⟩, wd_1035, wq_36⟩, nofun⟩
theorem mt_100 : lf_m 100 1 := ⟨rfl, wd_9, wd_1028, ⟨by decide +kernel, by decide +kernel, by decide +kernel⟩, nofun, fun _ => ⟨⟨_, _, rfl⟩, wd_1027, wq_34⟩, nofun⟩
theorem mt_101 : lf_m 101 1 := ⟨rfl, wd_9, wd_1024, ⟨by decide +kernel, by decide +kernel, by decide +kernel⟩, nofun, fun _ => ⟨⟨_, _, rfl⟩, wd_1023, wq_33⟩, nofun⟩
theorem mt_102 : lf_m 102 1 := ⟨rfl, wd_9, wd_1016, ⟨by decide +kernel, by decide +kernel, by decide +kernel⟩, nofun, fun _ => ⟨⟨_, _, rfl⟩, wd_1015, wq_31⟩, nofun⟩
theorem mt_103 : lf_m 103 1 := ⟨rfl, wd_9, wd_1012, ⟨by decide +kernel, by decide +kernel, by decide +kernel⟩, nofun, fun _ => ⟨⟨_, _, rfl⟩, wd_1011, wq_30⟩, nofun⟩
theorem mt_104 : lf_m 104 1 := ⟨rfl, wd_9, wd_1020, ⟨by decide +kernel, by decide +kernel, by decide +kernel⟩, nofun, fun _ => ⟨⟨_, _, rfl⟩, wd_1019, wq_32⟩, nofun⟩
theorem mt_105 : lf_m 105 1 := ⟨rfl, wd_9, wd_1008, ⟨by decide +kernel, by decide +kernel, by decide +kernel⟩, nofun, fun _ => ⟨⟨_, _, rfl⟩, wd_1007, wq_29⟩, nofun⟩
theorem mt_106 : lf_m 106 1 := ⟨rfl, wd_9, wd_991, ⟨by decide +kernel, by decide +kernel, by decide +kernel⟩, nofun, fun _ => ⟨⟨_, _, rfl⟩, wd_990, wq_25⟩, nofun⟩
theorem mt_107 : lf_m 107 1 := ⟨rfl, wd_9, wd_968, ⟨by decide +kernel, by decide +kernel, by decide +kernel⟩, nofun, fun _ => ⟨⟨_, _, rfl⟩, wd_967, wq_21⟩, nofun⟩
theorem mt_108 : lf_m 108 0 := ⟨rfl, wd_9, wd_964, ⟨by decide +kernel, by decide +kernel, by decide +kernel⟩, fun _ => wd_963, nofun, nofun⟩
theorem mt_109 : lf_m 109 1 := ⟨rfl, wd_9, wd_1032, ⟨by decide +kernel, by decide +kernel, by decide +kernel⟩, nofun, fun _ => ⟨⟨_, _, rfl⟩, wd_1031, wq_35⟩, nofun⟩
theorem mt_110 : lf_m 110 1 := ⟨rfl, wd_9, wd_995, ⟨by decide +kernel, by decide +kernel, by decide +kernel⟩, nofun, fun _ => ⟨⟨_, _, rfl⟩, wd_994, wq_26⟩, nofun⟩
theorem mt_111 : lf_m 111 1 := ⟨rfl, wd_9, wd_958, ⟨by decide +kernel, by decide +kernel, by decide +kernel⟩, nofun, fun _ => ⟨⟨_, _, rfl⟩, wd_957, wq_20⟩, nofun⟩
theorem mt_113 : lf_m 113 1 := ⟨rfl, wd_9, wd_1044, ⟨by decide +kernel, by decide +kernel, by decide +kernel⟩, nofun, fun _ => ⟨⟨_, _, rfl⟩, wd_1043, wq_37⟩, nofun⟩
theorem mt_119 : lf_m 119 0 := ⟨rfl, wd_17, wd_521, ⟨by decide +kernel, by decide +kernel, by decide +kernel⟩, fun _ => wd_520, nofun, nofun⟩
theorem mt_120 : lf_m 120 0 := ⟨rfl, wd_17, wd_558, ⟨by decide +kernel, by decide +kernel, by decide +kernel⟩, fun _ => wd_557, nofun, nofun⟩
theorem mt_121 : lf_m 121 0 := ⟨rfl, wd_17, wd_480, ⟨by decide +kernel, by decide +kernel, by decide +kernel⟩, fun _ => wd_479, nofun, nofun⟩
theorem mt_122 : lf_m 122 0 := ⟨rfl, wd_17, wd_457, ⟨by decide +kernel, by decide +kernel, by decide +kernel⟩, fun _ => wd_456, nofun, nofun⟩
theorem mt_123 : lf_m 123 0 := ⟨rfl, wd_17, wd_476, ⟨by decide +kernel, by decide +kernel, by decide +kernel⟩, fun _ => wd_475, nofun, nofun⟩
theorem le_0_3 : lf 0 3 (8, 0, 0, 0) := lf_o8 wd_204
theorem le_0_9 : lf 0 9 (1, 0, 0, 0) := lf_o1 ⟨_, _, _, rfl, by decide, uw_0, wd_205⟩
theorem le_0_15 : lf 0 15 (1, 0, 1, 0) := lf_o1 ⟨_, _, _, rfl, by decide, uw_0, wd_207⟩
theorem le_0_19 : lf 0 19 (2, 18, 1, 0) := lf_o2 wd_683 mt_18
theorem le_0_25 : lf 0 25 (1, 0, 2, 0) := lf_o1 ⟨_, _, _, rfl, by decide, uw_0, wd_209⟩
theorem le_0_27 : lf 0 27 (2, 19, 1, 0) := lf_o2 wd_684 mt_19
theorem le_0_30 : lf 0 30 (1, 0, 3, 0) := lf_o1 ⟨_, _, _, rfl, by decide, uw_0, wd_211⟩
theorem le_0_32 : lf 0 32 (2, 10, 1, 0) := lf_o2 wd_685 mt_10
theorem le_0_35 : lf 0 35 (1, 0, 4, 0) := lf_o1 ⟨_, _, _, rfl, by decide, uw_0, wd_213⟩
theorem le_0_38 : lf 0 38 (1, 2, 0, 0) := lf_o1 ⟨_, _, _, rfl, by decide, uw_2, wd_81⟩
theorem le_0_41 : lf 0 41 (2, 8, 1, 0) := lf_o2 wd_686 mt_8
theorem le_0_44 : lf 0 44 (5, 0, 0, 0) := lf_o5 wd_687
theorem lr_0 : ∀ q ∈ tb_r0, lf 0 q.1 q.2 := List.forall_mem_cons.mpr ⟨le_0_3, List.forall_mem_cons.mpr ⟨le_0_9, List.forall_mem_cons.mpr ⟨le_0_15, List.forall_mem_cons.mpr ⟨le_0_19, List.forall_mem_cons.mpr ⟨le_0_25, List.forall_mem_cons.mpr ⟨le_0_27, List.forall_mem_cons.mpr ⟨le_0_30, List.forall_mem_cons.mpr ⟨le_0_32, List.forall_mem_cons.mpr ⟨le_0_35, List.forall_mem_cons.mpr ⟨le_0_38, List.forall_mem_cons.mpr ⟨le_0_41, List.forall_mem_cons.mpr ⟨le_0_44, fun _ h => absurd h List.not_mem_nil⟩⟩⟩⟩⟩⟩⟩⟩⟩⟩⟩⟩
theorem le_1_3 : lf 1 3 (8, 0, 0, 0) := lf_o8 wd_98
theorem le_1_11 : lf 1 11 (1, 1, 0, 0) := lf_o1 ⟨_, _, _, rfl, by decide, uw_1, wd_99⟩
theorem le_1_15 : lf 1 15 (1, 1, 1, 0) := lf_o1 ⟨_, _, _, rfl, by decide, uw_1, wd_101⟩
theorem le_1_19 : lf 1 19 (1, 1, 2, 0) := lf_o1 ⟨_, _, _, rfl, by decide, uw_1, wd_103⟩
theorem le_1_22 : lf 1 22 (1, 1, 3, 0) := lf_o1 ⟨_, _, _, rfl, by decide, uw_1, wd_105⟩
theorem le_1_25 : lf 1 25 (1, 1, 4, 0) := lf_o1 ⟨_, _, _, rfl, by decide, uw_1, wd_107⟩
theorem le_1_28 : lf 1 28 (1, 1, 5, 0) := lf_o1 ⟨_, _, _, rfl, by decide, uw_1, wd_109⟩
theorem le_1_31 : lf 1 31 (1, 1, 6, 0) := lf_o1 ⟨_, _, _, rfl, by decide, uw_1, wd_110⟩
theorem le_1_35 : lf 1 35 (1, 1, 7, 0) := lf_o1 ⟨_, _, _, rfl, by decide, uw_1, wd_112⟩
theorem le_1_38 : lf 1 38 (2, 10, 1, 0) := lf_o2 wd_579 mt_10
theorem le_1_44 : lf 1 44 (1, 2, 0, 0) := lf_o1 ⟨_, _, _, rfl, by decide, uw_2, wd_82⟩
theorem le_1_47 : lf 1 47 (2, 8, 1, 0) := lf_o2 wd_580 mt_8
theorem le_1_50 : lf 1 50 (2, 5, 1, 0) := lf_o2 wd_581 mt_5
theorem le_1_54 : lf 1 54 (2, 6, 1, 0) := lf_o2 wd_589 mt_6
theorem le_1_58 : lf 1 58 (5, 0, 0, 0) := lf_o5 wd_585
theorem le_1_64 : lf 1 64 (2, 119, 0, 0) := lf_o2 wd_586 mt_119
theorem le_1_70 : lf 1 70 (2, 121, 0, 0) := lf_o2 wd_587 mt_121
theorem le_1_74 : lf 1 74 (2, 123, 0, 0) := lf_o2 wd_588 mt_123
theorem le_1_78 : lf 1 78 (2, 22, 1, 0) := lf_o2 wd_593 mt_22
theorem lr_1 : ∀ q ∈ tb_r1, lf 1 q.1 q.2 := List.forall_mem_cons.mpr ⟨le_1_3, List.forall_mem_cons.mpr ⟨le_1_11, List.forall_mem_cons.mpr ⟨le_1_15, List.forall_mem_cons.mpr ⟨le_1_19, List.forall_mem_cons.mpr ⟨le_1_22, List.forall_mem_cons.mpr ⟨le_1_25, List.forall_mem_cons.mpr ⟨le_1_28, List.forall_mem_cons.mpr ⟨le_1_31, List.forall_mem_cons.mpr ⟨le_1_35, List.forall_mem_cons.mpr ⟨le_1_38, List.forall_mem_cons.mpr ⟨le_1_44, List.forall_mem_cons.mpr ⟨le_1_47, List.forall_mem_cons.mpr ⟨le_1_50, List.forall_mem_cons.mpr ⟨le_1_54, List.forall_mem_cons.mpr ⟨le_1_58, List.forall_mem_cons.mpr ⟨le_1_64, List.forall_mem_cons.mpr ⟨le_1_70, List.forall_mem_cons.mpr ⟨le_1_74, List.forall_mem_cons.mpr ⟨le_1_78, fun _ h => absurd h List.not_mem_nil⟩⟩⟩⟩⟩⟩⟩⟩⟩⟩⟩⟩⟩⟩⟩⟩⟩⟩⟩
theorem le_2_3 : lf 2 3 (8, 0, 0, 0) := lf_o8 wd_79
theorem le_2_9 : lf 2 9 (1, 2, 0, 0) := lf_o1 ⟨_, _, _, rfl, by decide, uw_2, wd_80⟩
theorem le_2_15 : lf 2 15 (2, 119, 0, 0) := lf_o2 wd_519 mt_119
theorem le_2_21 : lf 2 21 (2, 120, 0, 0) := lf_o2 wd_556 mt_120
theorem le_2_24 : lf 2 24 (1, 2, 1, 0) := lf_o1 ⟨_, _, _, rfl, by decide, uw_2, wd_86⟩
theorem le_2_28 : lf 2 28 (2, 8, 1, 0) := lf_o2 wd_511 mt_8
theorem le_2_32 : lf 2 32 (2, 9, 1, 0) := lf_o2 wd_515 mt_9
theorem le_2_35 : lf 2 35 (2, 123, 0, 0) := lf_o2 wd_522 mt_123
theorem le_2_39 : lf 2 39 (2, 15, 1, 0) := lf_o2 wd_523 mt_15
theorem le_2_42 : lf 2 42 (2, 10, 1, 0) := lf_o2 wd_527 mt_10
theorem le_2_45 : lf 2 45 (4, 0, 0, 65535) := lf_o4 wd_531
theorem le_2_46 : lf 2 46 (2, 22, 1, 0) := lf_o2 wd_540 mt_22
theorem le_2_50 : lf 2 50 (2, 18, 1, 0) := lf_o2 wd_552 mt_18
theorem le_2_53 : lf 2 53 (2, 17, 1, 0) := lf_o2 wd_559 mt_17
theorem lr_2 : ∀ q ∈ tb_r2, lf 2 q.1 q.2 := List.forall_mem_cons.mpr ⟨le_2_3, List.forall_mem_cons.mpr ⟨le_2_9, List.forall_mem_cons.mpr ⟨le_2_15, List.forall_mem_cons.mpr ⟨le_2_21, List.forall_mem_cons.mpr ⟨le_2_24, List.forall_mem_cons.mpr ⟨le_2_28, List.forall_mem_cons.mpr ⟨le_2_32, List.forall_mem_cons.mpr ⟨le_2_35, List.forall_mem_cons.mpr ⟨le_2_39, List.forall_mem_cons.mpr ⟨le_2_42, List.forall_mem_cons.mpr ⟨le_2_45, List.forall_mem_cons.mpr ⟨le_2_46, List.forall_mem_cons.mpr ⟨le_2_50, List.forall_mem_cons.mpr ⟨le_2_53, fun _ h => absurd h List.not_mem_nil⟩⟩⟩⟩⟩⟩⟩⟩⟩⟩⟩⟩⟩⟩
theorem le_3_3 : lf 3 3 (8, 0, 0, 0) := lf_o8 wd_34
theorem le_3_9 : lf 3 9 (1, 3, 1, 0) := lf_o1 ⟨_, _, _, rfl, by decide, uw_3, wd_36⟩
theorem le_3_15 : lf 3 15 (1, 3, 2, 0) := lf_o1 ⟨_, _, _, rfl, by decide, uw_3, wd_38⟩
theorem lr_3 : ∀ q ∈ tb_r3, lf 3 q.1 q.2 := List.forall_mem_cons.mpr ⟨le_3_3, List.forall_mem_cons.mpr ⟨le_3_9, List.forall_mem_cons.mpr ⟨le_3_15, fun _ h => absurd h List.not_mem_nil⟩⟩⟩
theorem le_4_3 : lf 4 3 (8, 0, 0, 0) := lf_o8 wd_52
theorem le_4_9 : lf 4 9 (1, 4, 0, 0) := lf_o1 ⟨_, _, _, rfl, by decide, uw_4, wd_53⟩
theorem le_4_15 : lf 4 15 (1, 4, 1, 0) := lf_o1 ⟨_, _, _, rfl, by decide, uw_4, wd_54⟩
theorem le_4_18 : lf 4 18 (1, 4, 2, 0) := lf_o1 ⟨_, _, _, rfl, by decide, uw_4, wd_56⟩
theorem le_4_21 : lf 4 21 (1, 4, 3, 0) := lf_o1 ⟨_, _, _, rfl, by decide, uw_4, wd_58⟩
theorem le_4_24 : lf 4 24 (2, 27, 0, 0) := lf_o2 wd_385 mt_27
theorem le_4_28 : lf 4 28 (1, 4, 4, 0) := lf_o1 ⟨_, _, _, rfl, by decide, uw_4, wd_60⟩
theorem lr_4 : ∀ q ∈ tb_r4, lf 4 q.1 q.2 := List.forall_mem_cons.mpr ⟨le_4_3, List.forall_mem_cons.mpr ⟨le_4_9, List.forall_mem_cons.mpr ⟨le_4_15, List.forall_mem_cons.mpr ⟨le_4_18, List.forall_mem_cons.mpr ⟨le_4_21, List.forall_mem_cons.mpr ⟨le_4_24, List.forall_mem_cons.mpr ⟨le_4_28, fun _ h => absurd h List.not_mem_nil⟩⟩⟩⟩⟩⟩⟩
theorem le_5_3 : lf 5 3 (8, 0, 0, 0) := lf_o8 wd_142
theorem le_5_9 : lf 5 9 (3, 2, 2, 0) := lf_o3 ⟨_, _, rfl, uw_2, wd_143, wd_75, wd_4⟩
theorem le_5_11 : lf 5 11 (2, 7, 2, 0) := lf_o2 wd_144 mt_7
theorem le_5_14 : lf 5 14 (1, 5, 0, 0) := lf_o1 ⟨_, _, _, rfl, by decide, uw_5, wd_145⟩
theorem le_5_20 : lf 5 20 (1, 5, 1, 0) := lf_o1 ⟨_, _, _, rfl, by decide, uw_5, wd_147⟩
theorem le_5_24 : lf 5 24 (1, 5, 2, 0) := lf_o1 ⟨_, _, _, rfl, by decide, uw_5, wd_148⟩
theorem le_5_28 : lf 5 28 (2, 18, 1, 0) := lf_o2 wd_622 mt_18
theorem le_5_32 : lf 5 32 (1, 5, 5, 0) := lf_o1 ⟨_, _, _, rfl, by decide, uw_5, wd_153⟩
theorem le_5_35 : lf 5 35 (2, 19, 1, 0) := lf_o2 wd_623 mt_19
theorem le_5_38 : lf 5 38 (1, 5, 6, 0) := lf_o1 ⟨_, _, _, rfl, by decide, uw_5, wd_154⟩
theorem le_5_40 : lf 5 40 (2, 11, 1, 0) := lf_o2 wd_624 mt_11
theorem le_5_43 : lf 5 43 (1, 5, 7, 0) := lf_o1 ⟨_, _, _, rfl, by decide, uw_5, wd_155⟩
theorem le_5_45 : lf 5 45 (2, 17, 1, 0) := lf_o2 wd_628 mt_17
theorem le_5_48 : lf 5 48 (1, 5, 8, 0) := lf_o1 ⟨_, _, _, rfl, by decide, uw_5, wd_156⟩
theorem le_5_50 : lf 5 50 (1, 5, 9, 0) := lf_o1 ⟨_, _, _, rfl, by decide, uw_5, wd_157⟩
theorem le_5_53 : lf 5 53 (1, 5, 3, 0) := lf_o1 ⟨_, _, _, rfl, by decide, uw_5, wd_149⟩
theorem le_5_57 : lf 5 57 (1, 5, 10, 0) := lf_o1 ⟨_, _, _, rfl, by decide, uw_5, wd_159⟩
theorem le_5_60 : lf 5 60 (1, 5, 11, 0) := lf_o1 ⟨_, _, _, rfl, by decide, uw_5, wd_160⟩
theorem le_5_63 : lf 5 63 (1, 5, 12, 0) := lf_o1 ⟨_, _, _, rfl, by decide, uw_5, wd_161⟩
theorem le_5_66 : lf 5 66 (2, 15, 1, 0) := lf_o2 wd_643 mt_15
theorem le_5_69 : lf 5 69 (2, 10, 1, 0) := lf_o2 wd_644 mt_10
theorem le_5_72 : lf 5 72 (2, 13, 1, 0) := lf_o2 wd_645 mt_13
theorem le_5_76 : lf 5 76 (1, 2, 0, 0) := lf_o1 ⟨_, _, _, rfl, by decide, uw_2, wd_83⟩
theorem le_5_79 : lf 5 79 (2, 8, 1, 0) := lf_o2 wd_662 mt_8
theorem le_5_82 : lf 5 82 (5, 0, 0, 0) := lf_o5 wd_663
theorem le_5_88 : lf 5 88 (6, 0, 0, 0) := lf_o6 wd_664
theorem le_5_94 : lf 5 94 (1, 5, 4, 0) := lf_o1 ⟨_, _, _, rfl, by decide, uw_5, wd_151⟩
theorem le_5_97 : lf 5 97 (2, 121, 0, 0) := lf_o2 wd_675 mt_121
theorem le_5_103 : lf 5 103 (2, 119, 0, 0) := lf_o2 wd_676 mt_119
theorem le_5_107 : lf 5 107 (2, 123, 0, 0) := lf_o2 wd_677 mt_123
theorem lr_5 : ∀ q ∈ tb_r5, lf 5 q.1 q.2 := List.forall_mem_cons.mpr ⟨le_5_3, List.forall_mem_cons.mpr ⟨le_5_9, List.forall_mem_cons.mpr ⟨le_5_11, List.forall_mem_cons.mpr ⟨le_5_14, List.forall_mem_cons.mpr ⟨le_5_20, List.forall_mem_cons.mpr ⟨le_5_24, List.forall_mem_cons.mpr ⟨le_5_28, List.forall_mem_cons.mpr ⟨le_5_32, List.forall_mem_cons.mpr ⟨le_5_35, List.forall_mem_cons.mpr ⟨le_5_38, List.forall_mem_cons.mpr ⟨le_5_40, List.forall_mem_cons.mpr ⟨le_5_43, List.forall_mem_cons.mpr ⟨le_5_45, List.forall_mem_cons.mpr ⟨le_5_48, List.forall_mem_cons.mpr ⟨le_5_50, List.forall_mem_cons.mpr ⟨le_5_53, List.forall_mem_cons.mpr ⟨le_5_57, List.forall_mem_cons.mpr ⟨le_5_60, List.forall_mem_cons.mpr ⟨le_5_63, List.forall_mem_cons.mpr ⟨le_5_66, List.forall_mem_cons.mpr ⟨le_5_69, List.forall_mem_cons.mpr ⟨le_5_72, List.forall_mem_cons.mpr ⟨le_5_76, List.forall_mem_cons.mpr ⟨le_5_79, List.forall_mem_cons.mpr ⟨le_5_82, List.forall_mem_cons.mpr ⟨le_5_88, List.forall_mem_cons.mpr ⟨le_5_94, List.forall_mem_cons.mpr ⟨le_5_97, List.forall_mem_cons.mpr ⟨le_5_103, List.forall_mem_cons.mpr ⟨le_5_107, fun _ h => absurd h List.not_mem_nil⟩⟩⟩⟩⟩⟩⟩⟩⟩⟩⟩⟩⟩⟩⟩⟩⟩⟩⟩⟩⟩⟩⟩⟩⟩⟩⟩⟩⟩⟩
theorem le_6_3 : lf 6 3 (8, 0, 0, 0) := lf_o8 wd_135
theorem le_6_9 : lf 6 9 (3, 5, 13, 0) := lf_o3 ⟨_, _, rfl, uw_5, wd_136, wd_138, wd_7⟩
theorem le_6_11 : lf 6 11 (1, 6, 0, 0) := lf_o1 ⟨_, _, _, rfl, by decide, uw_6, wd_190⟩
theorem le_6_17 : lf 6 17 (2, 32, 2, 0) := lf_o2 wd_139 mt_32
theorem le_6_18 : lf 6 18 (2, 43, 1, 0) := lf_o2 wd_614 mt_43
theorem le_6_22 : lf 6 22 (2, 44, 1, 0) := lf_o2 wd_629 mt_44
theorem le_6_26 : lf 6 26 (2, 35, 1, 0) := lf_o2 wd_639 mt_35
theorem le_6_29 : lf 6 29 (2, 42, 1, 0) := lf_o2 wd_646 mt_42
theorem le_6_33 : lf 6 33 (2, 45, 1, 0) := lf_o2 wd_650 mt_45
theorem le_6_37 : lf 6 37 (2, 36, 1, 0) := lf_o2 wd_658 mt_36
theorem le_6_41 : lf 6 41 (2, 37, 1, 0) := lf_o2 wd_667 mt_37
theorem le_6_45 : lf 6 45 (2, 38, 1, 0) := lf_o2 wd_671 mt_38
theorem le_6_49 : lf 6 49 (1, 6, 1, 0) := lf_o1 ⟨_, _, _, rfl, by decide, uw_6, wd_192⟩
theorem le_6_53 : lf 6 53 (1, 5, 9, 0) := lf_o1 ⟨_, _, _, rfl, by decide, uw_5, wd_158⟩
theorem le_6_56 : lf 6 56 (2, 34, 1, 0) := lf_o2 wd_618 mt_34
theorem le_6_59 : lf 6 59 (2, 10, 1, 0) := lf_o2 wd_633 mt_10
theorem le_6_65 : lf 6 65 (2, 13, 1, 0) := lf_o2 wd_634 mt_13
theorem le_6_68 : lf 6 68 (2, 15, 1, 0) := lf_o2 wd_638 mt_15
theorem le_6_71 : lf 6 71 (2, 33, 1, 0) := lf_o2 wd_654 mt_33
theorem lr_6 : ∀ q ∈ tb_r6, lf 6 q.1 q.2 := List.forall_mem_cons.mpr ⟨le_6_3, List.forall_mem_cons.mpr ⟨le_6_9, List.forall_mem_cons.mpr ⟨le_6_11, List.forall_mem_cons.mpr ⟨le_6_17, List.forall_mem_cons.mpr ⟨le_6_18, List.forall_mem_cons.mpr ⟨le_6_22, List.forall_mem_cons.mpr ⟨le_6_26, List.forall_mem_cons.mpr ⟨le_6_29, List.forall_mem_cons.mpr ⟨le_6_33, List.forall_mem_cons.mpr ⟨le_6_37, List.forall_mem_cons.mpr ⟨le_6_41, List.forall_mem_cons.mpr ⟨le_6_45, List.forall_mem_cons.mpr ⟨le_6_49, List.forall_mem_cons.mpr ⟨le_6_53, List.forall_mem_cons.mpr ⟨le_6_56, List.forall_mem_cons.mpr ⟨le_6_59, List.forall_mem_cons.mpr ⟨le_6_65, List.forall_mem_cons.mpr ⟨le_6_68, List.forall_mem_cons.mpr ⟨le_6_71, fun _ h => absurd h List.not_mem_nil⟩⟩⟩⟩⟩⟩⟩⟩⟩⟩⟩⟩⟩⟩⟩⟩⟩⟩⟩
theorem le_7_1 : lf 7 1 (8, 0, 0, 0) := lf_o8 wd_25
theorem le_7_9 : lf 7 9 (3, 3, 3, 0) := lf_o3 ⟨_, _, rfl, uw_3, wd_28, wd_30, wd_2⟩
theorem le_7_11 : lf 7 11 (1, 7, 0, 0) := lf_o1 ⟨_, _, _, rfl, by decide, uw_7, wd_226⟩
theorem le_7_15 : lf 7 15 (2, 25, 2, 0) := lf_o2 wd_31 mt_25
theorem le_7_16 : lf 7 16 (3, 4, 5, 0) := lf_o3 ⟨_, _, rfl, uw_4, wd_47, wd_48, wd_3⟩
theorem le_7_18 : lf 7 18 (2, 26, 2, 0) := lf_o2 wd_49 mt_26
theorem le_7_19 : lf 7 19 (1, 7, 1, 0) := lf_o1 ⟨_, _, _, rfl, by decide, uw_7, wd_227⟩
theorem le_7_23 : lf 7 23 (3, 2, 2, 0) := lf_o3 ⟨_, _, rfl, uw_2, wd_74, wd_75, wd_4⟩
theorem le_7_25 : lf 7 25 (2, 7, 2, 0) := lf_o2 wd_76 mt_7
theorem le_7_28 : lf 7 28 (1, 7, 2, 0) := lf_o1 ⟨_, _, _, rfl, by decide, uw_7, wd_228⟩
theorem le_7_32 : lf 7 32 (1, 7, 3, 0) := lf_o1 ⟨_, _, _, rfl, by decide, uw_7, wd_229⟩
theorem le_7_35 : lf 7 35 (1, 7, 4, 0) := lf_o1 ⟨_, _, _, rfl, by decide, uw_7, wd_230⟩
theorem le_7_38 : lf 7 38 (3, 1, 8, 0) := lf_o3 ⟨_, _, rfl, uw_1, wd_93, wd_94, wd_5⟩
theorem le_7_40 : lf 7 40 (2, 2, 2, 0) := lf_o2 wd_95 mt_2
theorem le_7_41 : lf 7 41 (1, 7, 5, 0) := lf_o1 ⟨_, _, _, rfl, by decide, uw_7, wd_231⟩
theorem le_7_45 : lf 7 45 (3, 6, 2, 0) := lf_o3 ⟨_, _, rfl, uw_6, wd_130, wd_131, wd_6⟩
theorem le_7_47 : lf 7 47 (2, 39, 2, 0) := lf_o2 wd_132 mt_39
theorem le_7_48 : lf 7 48 (1, 7, 6, 0) := lf_o1 ⟨_, _, _, rfl, by decide, uw_7, wd_232⟩
theorem le_7_52 : lf 7 52 (3, 0, 5, 0) := lf_o3 ⟨_, _, rfl, uw_0, wd_199, wd_200, wd_8⟩
theorem le_7_54 : lf 7 54 (2, 0, 2, 0) := lf_o2 wd_201 mt_0
theorem le_7_55 : lf 7 55 (1, 7, 7, 0) := lf_o1 ⟨_, _, _, rfl, by decide, uw_7, wd_233⟩
theorem le_7_59 : lf 7 59 (1, 7, 8, 0) := lf_o1 ⟨_, _, _, rfl, by decide, uw_7, wd_234⟩
theorem le_7_63 : lf 7 63 (2, 62, 1, 0) := lf_o2 wd_273 mt_62
theorem le_7_66 : lf 7 66 (9, 1, 0, 0) := lf_o9
theorem le_7_73 : lf 7 73 (1, 3, 0, 0) := lf_o1 ⟨_, _, _, rfl, by decide, uw_3, wd_35⟩
theorem le_7_76 : lf 7 76 (1, 3, 1, 0) := lf_o1 ⟨_, _, _, rfl, by decide, uw_3, wd_37⟩
theorem le_7_79 : lf 7 79 (1, 3, 2, 0) := lf_o1 ⟨_, _, _, rfl, by decide, uw_3, wd_39⟩
theorem le_7_83 : lf 7 83 (2, 64, 1, 0) := lf_o2 wd_376 mt_64
theorem le_7_86 : lf 7 86 (2, 28, 1, 0) := lf_o2 wd_381 mt_28
theorem le_7_90 : lf 7 90 (1, 4, 4, 0) := lf_o1 ⟨_, _, _, rfl, by decide, uw_4, wd_61⟩
theorem le_7_93 : lf 7 93 (9, 2, 0, 0) := lf_o9
theorem le_7_98 : lf 7 98 (2, 30, 1, 0) := lf_o2 wd_404 mt_30
theorem le_7_102 : lf 7 102 (2, 31, 1, 0) := lf_o2 wd_415 mt_31
theorem le_7_107 : lf 7 107 (2, 29, 1, 0) := lf_o2 wd_427 mt_29
theorem le_7_111 : lf 7 111 (1, 4, 2, 0) := lf_o1 ⟨_, _, _, rfl, by decide, uw_4, wd_57⟩
theorem le_7_115 : lf 7 115 (1, 4, 1, 0) := lf_o1 ⟨_, _, _, rfl, by decide, uw_4, wd_55⟩
theorem le_7_118 : lf 7 118 (1, 4, 3, 0) := lf_o1 ⟨_, _, _, rfl, by decide, uw_4, wd_59⟩
theorem le_7_121 : lf 7 121 (1, 2, 1, 0) := lf_o1 ⟨_, _, _, rfl, by decide, uw_2, wd_85⟩
theorem le_7_122 : lf 7 122 (9, 3, 0, 0) := lf_o9
theorem le_7_127 : lf 7 127 (1, 2, 0, 0) := lf_o1 ⟨_, _, _, rfl, by decide, uw_2, wd_84⟩
theorem le_7_131 : lf 7 131 (2, 122, 0, 0) := lf_o2 wd_455 mt_122
theorem le_7_141 : lf 7 141 (2, 123, 0, 0) := lf_o2 wd_474 mt_123
theorem le_7_145 : lf 7 145 (2, 121, 0, 0) := lf_o2 wd_478 mt_121
theorem le_7_148 : lf 7 148 (2, 63, 1, 0) := lf_o2 wd_488 mt_63
theorem le_7_151 : lf 7 151 (1, 1, 2, 0) := lf_o1 ⟨_, _, _, rfl, by decide, uw_1, wd_104⟩
theorem le_7_154 : lf 7 154 (1, 1, 0, 0) := lf_o1 ⟨_, _, _, rfl, by decide, uw_1, wd_100⟩
theorem le_7_157 : lf 7 157 (1, 1, 1, 0) := lf_o1 ⟨_, _, _, rfl, by decide, uw_1, wd_102⟩
theorem le_7_160 : lf 7 160 (5, 0, 0, 0) := lf_o5 wd_493
theorem le_7_166 : lf 7 166 (2, 3, 1, 0) := lf_o2 wd_503 mt_3
theorem le_7_169 : lf 7 169 (2, 20, 1, 0) := lf_o2 wd_507 mt_20
theorem le_7_173 : lf 7 173 (2, 65, 1, 0) := lf_o2 wd_532 mt_65
theorem le_7_178 : lf 7 178 (2, 72, 1, 0) := lf_o2 wd_717 mt_72
theorem le_7_181 : lf 7 181 (1, 1, 6, 0) := lf_o1 ⟨_, _, _, rfl, by decide, uw_1, wd_111⟩
theorem le_7_182 : lf 7 182 (1, 1, 3, 0) := lf_o1 ⟨_, _, _, rfl, by decide, uw_1, wd_106⟩
theorem le_7_183 : lf 7 183 (1, 1, 4, 0) := lf_o1 ⟨_, _, _, rfl, by decide, uw_1, wd_108⟩
theorem le_7_186 : lf 7 186 (9, 0, 0, 0) := lf_o9
theorem le_7_191 : lf 7 191 (1, 0, 4, 0) := lf_o1 ⟨_, _, _, rfl, by decide, uw_0, wd_214⟩
theorem le_7_192 : lf 7 192 (1, 0, 0, 0) := lf_o1 ⟨_, _, _, rfl, by decide, uw_0, wd_206⟩
theorem le_7_193 : lf 7 193 (1, 6, 1, 0) := lf_o1 ⟨_, _, _, rfl, by decide, uw_6, wd_193⟩
theorem le_7_194 : lf 7 194 (1, 7, 9, 0) := lf_o1 ⟨_, _, _, rfl, by decide, uw_7, wd_235⟩
theorem le_7_197 : lf 7 197 (1, 7, 10, 0) := lf_o1 ⟨_, _, _, rfl, by decide, uw_7, wd_236⟩
theorem le_7_200 : lf 7 200 (1, 0, 1, 0) := lf_o1 ⟨_, _, _, rfl, by decide, uw_0, wd_208⟩
theorem le_7_203 : lf 7 203 (1, 0, 2, 0) := lf_o1 ⟨_, _, _, rfl, by decide, uw_0, wd_210⟩
theorem le_7_206 : lf 7 206 (1, 0, 3, 0) := lf_o1 ⟨_, _, _, rfl, by decide, uw_0, wd_212⟩
theorem le_7_217 : lf 7 217 (2, 21, 1, 0) := lf_o2 wd_536 mt_21
theorem le_7_220 : lf 7 220 (2, 69, 1, 0) := lf_o2 wd_544 mt_69
theorem le_7_224 : lf 7 224 (2, 19, 1, 0) := lf_o2 wd_594 mt_19
theorem le_7_226 : lf 7 226 (2, 66, 1, 0) := lf_o2 wd_598 mt_66
theorem le_7_230 : lf 7 230 (2, 67, 1, 0) := lf_o2 wd_602 mt_67
theorem le_7_233 : lf 7 233 (2, 68, 1, 0) := lf_o2 wd_696 mt_68
theorem le_7_236 : lf 7 236 (2, 14, 1, 0) := lf_o2 wd_606 mt_14
theorem le_7_240 : lf 7 240 (2, 40, 1, 0) := lf_o2 wd_610 mt_40
theorem le_7_244 : lf 7 244 (2, 17, 1, 0) := lf_o2 wd_678 mt_17
theorem le_7_247 : lf 7 247 (2, 1, 1, 0) := lf_o2 wd_679 mt_1
theorem le_7_251 : lf 7 251 (2, 23, 1, 0) := lf_o2 wd_688 mt_23
theorem le_7_254 : lf 7 254 (2, 70, 1, 0) := lf_o2 wd_692 mt_70
theorem le_7_258 : lf 7 258 (2, 16, 1, 0) := lf_o2 wd_700 mt_16
theorem le_7_261 : lf 7 261 (2, 9, 1, 0) := lf_o2 wd_704 mt_9
theorem le_7_264 : lf 7 264 (2, 12, 1, 0) := lf_o2 wd_705 mt_12
theorem le_7_267 : lf 7 267 (2, 4, 1, 0) := lf_o2 wd_575 mt_4
theorem le_7_271 : lf 7 271 (2, 24, 1, 0) := lf_o2 wd_548 mt_24
theorem le_7_274 : lf 7 274 (2, 8, 1, 0) := lf_o2 wd_563 mt_8
theorem le_7_277 : lf 7 277 (2, 10, 1, 0) := lf_o2 wd_564 mt_10
theorem le_7_280 : lf 7 280 (7, 0, 0, 0) := lf_o7 wd_565
theorem le_7_285 : lf 7 285 (2, 18, 1, 0) := lf_o2 wd_568 mt_18
theorem le_7_287 : lf 7 287 (2, 71, 1, 0) := lf_o2 wd_569 mt_71
theorem le_7_291 : lf 7 291 (4, 0, 0, 1157627904) := lf_o4 wd_573
theorem le_7_292 : lf 7 292 (4, 0, 0, 1073807360) := lf_o4 wd_574
theorem le_7_293 : lf 7 293 (2, 41, 1, 0) := lf_o2 wd_721 mt_41
theorem le_7_296 : lf 7 296 (1, 6, 0, 0) := lf_o1 ⟨_, _, _, rfl, by decide, uw_6, wd_191⟩
theorem le_7_300 : lf 7 300 (1, 5, 3, 0) := lf_o1 ⟨_, _, _, rfl, by decide, uw_5, wd_150⟩
theorem le_7_305 : lf 7 305 (1, 5, 0, 0) := lf_o1 ⟨_, _, _, rfl, by decide, uw_5, wd_146⟩
theorem le_7_308 : lf 7 308 (1, 5, 4, 0) := lf_o1 ⟨_, _, _, rfl, by decide, uw_5, wd_152⟩
theorem le_7_311 : lf 7 311 (2, 42, 1, 0) := lf_o2 wd_725 mt_42
theorem lr_7 : ∀ q ∈ tb_r7, lf 7 q.1 q.2 := List.forall_mem_cons.mpr ⟨le_7_1, List.forall_mem_cons.mpr ⟨le_7_9, List.forall_mem_cons.mpr ⟨le_7_11, List.forall_mem_cons.mpr ⟨le_7_15, List.forall_mem_cons.mpr ⟨le_7_16, List.forall_mem_cons.mpr ⟨le_7_18, List.forall_mem_cons.mpr ⟨le_7_19, List.forall_mem_cons.mpr ⟨le_7_23, List.forall_mem_cons.mpr ⟨le_7_25, List.forall_mem_cons.mpr ⟨le_7_28, List.forall_mem_cons.mpr ⟨le_7_32, List.forall_mem_cons.mpr ⟨le_7_35, List.forall_mem_cons.mpr ⟨le_7_38, List.forall_mem_cons.mpr ⟨le_7_40, List.forall_mem_cons.mpr ⟨le_7_41, List.forall_mem_cons.mpr ⟨le_7_45, List.forall_mem_cons.mpr ⟨le_7_47, List.forall_mem_cons.mpr ⟨le_7_48, List.forall_mem_cons.mpr ⟨le_7_52, List.forall_mem_cons.mpr ⟨le_7_54, List.forall_mem_cons.mpr ⟨le_7_55, List.forall_mem_cons.mpr ⟨le_7_59, List.forall_mem_cons.mpr ⟨le_7_63, List.forall_mem_cons.mpr ⟨le_7_66, List.forall_mem_cons.mpr ⟨le_7_73, List.forall_mem_cons.mpr ⟨le_7_76, List.forall_mem_cons.mpr ⟨le_7_79, List.forall_mem_cons.mpr ⟨le_7_83, List.forall_mem_cons.mpr ⟨le_7_86, List.forall_mem_cons.mpr ⟨le_7_90, List.forall_mem_cons.mpr ⟨le_7_93, List.forall_mem_cons.mpr ⟨le_7_98, List.forall_mem_cons.mpr ⟨le_7_102, List.forall_mem_cons.mpr ⟨le_7_107, List.forall_mem_cons.mpr ⟨le_7_111, List.forall_mem_cons.mpr ⟨le_7_115, List.forall_mem_cons.mpr ⟨le_7_118, List.forall_mem_cons.mpr ⟨le_7_121, List.forall_mem_cons.mpr ⟨le_7_122, List.forall_mem_cons.mpr ⟨le_7_127, List.forall_mem_cons.mpr ⟨le_7_131, List.forall_mem_cons.mpr ⟨le_7_141, List.forall_mem_cons.mpr ⟨le_7_145, List.forall_mem_cons.mpr ⟨le_7_148, List.forall_mem_cons.mpr ⟨le_7_151, List.forall_mem_cons.mpr ⟨le_7_154, List.forall_mem_cons.mpr ⟨le_7_157, List.forall_mem_cons.mpr ⟨le_7_160, List.forall_mem_cons.mpr ⟨le_7_166, List.forall_mem_cons.mpr ⟨le_7_169, List.forall_mem_cons.mpr ⟨le_7_173, List.forall_mem_cons.mpr ⟨le_7_178, List.forall_mem_cons.mpr ⟨le_7_181, List.forall_mem_cons.mpr ⟨le_7_182, List.forall_mem_cons.mpr ⟨le_7_183, List.forall_mem_cons.mpr ⟨le_7_186, List.forall_mem_cons.mpr ⟨le_7_191, List.forall_mem_cons.mpr ⟨le_7_192, List.forall_mem_cons.mpr ⟨le_7_193, List.forall_mem_cons.mpr ⟨le_7_194, List.forall_mem_cons.mpr ⟨le_7_197, List.forall_mem_cons.mpr ⟨le_7_200, List.forall_mem_cons.mpr ⟨le_7_203, List.forall_mem_cons.mpr ⟨le_7_206, List.forall_mem_cons.mpr ⟨le_7_217, List.forall_mem_cons.mpr ⟨le_7_220, List.forall_mem_cons.mpr ⟨le_7_224, List.forall_mem_cons.mpr ⟨le_7_226, List.forall_mem_cons.mpr ⟨le_7_230, List.forall_mem_cons.mpr ⟨le_7_233, List.forall_mem_cons.mpr ⟨le_7_236, List.forall_mem_cons.mpr ⟨le_7_240, List.forall_mem_cons.mpr ⟨le_7_244, List.forall_mem_cons.mpr ⟨le_7_247, List.forall_mem_cons.mpr ⟨le_7_251, List.forall_mem_cons.mpr ⟨le_7_254, List.forall_mem_cons.mpr ⟨le_7_258, List.forall_mem_cons.mpr ⟨le_7_261, List.forall_mem_cons.mpr ⟨le_7_264, List.forall_mem_cons.mpr ⟨le_7_267, List.forall_mem_cons.mpr ⟨le_7_271, List.forall_mem_cons.mpr ⟨le_7_274, List.forall_mem_cons.mpr ⟨le_7_277, List.forall_mem_cons.mpr ⟨le_7_280, List.forall_mem_cons.mpr ⟨le_7_285, List.forall_mem_cons.mpr ⟨le_7_287, List.forall_mem_cons.mpr ⟨le_7_291, List.forall_mem_cons.mpr ⟨le_7_292, List.forall_mem_cons.mpr ⟨le_7_293, List.forall_mem_cons.mpr ⟨le_7_296, List.forall_mem_cons.mpr ⟨le_7_300, List.forall_mem_cons.mpr ⟨le_7_305, List.forall_mem_cons.mpr ⟨le_7_308, List.forall_mem_cons.mpr ⟨le_7_311, fun _ h => absurd h List.not_mem_nil⟩⟩⟩⟩⟩⟩⟩⟩⟩⟩⟩⟩⟩⟩⟩⟩⟩⟩⟩⟩⟩⟩⟩⟩⟩⟩⟩⟩⟩⟩⟩⟩⟩⟩⟩⟩⟩⟩⟩⟩⟩⟩⟩⟩⟩⟩⟩⟩⟩⟩⟩⟩⟩⟩⟩⟩⟩⟩⟩⟩⟩⟩⟩⟩⟩⟩⟩⟩⟩⟩⟩⟩⟩⟩⟩⟩⟩⟩⟩⟩⟩⟩⟩⟩⟩⟩⟩⟩⟩⟩⟩⟩⟩⟩
theorem le_8_1 : lf 8 1 (8, 0, 0, 0) := lf_o8 wd_755
theorem le_8_7 : lf 8 7 (1, 8, 0, 0) := lf_o1 ⟨_, _, _, rfl, by decide, uw_8, wd_756⟩
theorem le_8_13 : lf 8 13 (1, 8, 1, 0) := lf_o1 ⟨_, _, _, rfl, by decide, uw_8, wd_757⟩
theorem le_8_16 : lf 8 16 (1, 8, 2, 0) := lf_o1 ⟨_, _, _, rfl, by decide, uw_8, wd_758⟩
theorem le_8_20 : lf 8 20 (1, 8, 3, 0) := lf_o1 ⟨_, _, _, rfl, by decide, uw_8, wd_759⟩
theorem le_8_23 : lf 8 23 (1, 8, 4, 0) := lf_o1 ⟨_, _, _, rfl, by decide, uw_8, wd_760⟩
theorem le_8_26 : lf 8 26 (1, 8, 5, 0) := lf_o1 ⟨_, _, _, rfl, by decide, uw_8, wd_761⟩
theorem le_8_29 : lf 8 29 (1, 8, 6, 0) := lf_o1 ⟨_, _, _, rfl, by decide, uw_8, wd_762⟩
theorem le_8_32 : lf 8 32 (1, 8, 8, 0) := lf_o1 ⟨_, _, _, rfl, by decide, uw_8, wd_764⟩
theorem le_8_35 : lf 8 35 (1, 8, 10, 0) := lf_o1 ⟨_, _, _, rfl, by decide, uw_8, wd_766⟩
theorem le_8_38 : lf 8 38 (1, 8, 11, 0) := lf_o1 ⟨_, _, _, rfl, by decide, uw_8, wd_767⟩
theorem le_8_41 : lf 8 41 (1, 8, 14, 0) := lf_o1 ⟨_, _, _, rfl, by decide, uw_8, wd_770⟩
theorem le_8_44 : lf 8 44 (1, 8, 15, 0) := lf_o1 ⟨_, _, _, rfl, by decide, uw_8, wd_771⟩
theorem le_8_47 : lf 8 47 (1, 8, 16, 0) := lf_o1 ⟨_, _, _, rfl, by decide, uw_8, wd_772⟩
theorem le_8_50 : lf 8 50 (1, 8, 17, 0) := lf_o1 ⟨_, _, _, rfl, by decide, uw_8, wd_773⟩
theorem le_8_53 : lf 8 53 (1, 8, 18, 0) := lf_o1 ⟨_, _, _, rfl, by decide, uw_8, wd_774⟩
theorem le_8_56 : lf 8 56 (1, 8, 20, 0) := lf_o1 ⟨_, _, _, rfl, by decide, uw_8, wd_776⟩
theorem le_8_60 : lf 8 60 (1, 8, 27, 0) := lf_o1 ⟨_, _, _, rfl, by decide, uw_8, wd_783⟩
theorem le_8_63 : lf 8 63 (1, 8, 29, 0) := lf_o1 ⟨_, _, _, rfl, by decide, uw_8, wd_785⟩
theorem le_8_66 : lf 8 66 (1, 8, 30, 0) := lf_o1 ⟨_, _, _, rfl, by decide, uw_8, wd_786⟩
theorem le_8_69 : lf 8 69 (1, 8, 31, 0) := lf_o1 ⟨_, _, _, rfl, by decide, uw_8, wd_787⟩
theorem le_8_72 : lf 8 72 (1, 8, 32, 0) := lf_o1 ⟨_, _, _, rfl, by decide, uw_8, wd_788⟩
theorem le_8_75 : lf 8 75 (1, 8, 33, 0) := lf_o1 ⟨_, _, _, rfl, by decide, uw_8, wd_789⟩
theorem le_8_78 : lf 8 78 (1, 8, 34, 0) := lf_o1 ⟨_, _, _, rfl, by decide, uw_8, wd_790⟩
theorem le_8_81 : lf 8 81 (1, 8, 35, 0) := lf_o1 ⟨_, _, _, rfl, by decide, uw_8, wd_791⟩
theorem le_8_84 : lf 8 84 (1, 8, 36, 0) := lf_o1 ⟨_, _, _, rfl, by decide, uw_8, wd_792⟩
theorem le_8_87 : lf 8 87 (1, 8, 37, 0) := lf_o1 ⟨_, _, _, rfl, by decide, uw_8, wd_793⟩
theorem le_8_90 : lf 8 90 (1, 8, 38, 0) := lf_o1 ⟨_, _, _, rfl, by decide, uw_8, wd_794⟩
theorem le_8_93 : lf 8 93 (1, 8, 39, 0) := lf_o1 ⟨_, _, _, rfl, by decide, uw_8, wd_795⟩
theorem le_8_96 : lf 8 96 (1, 8, 40, 0) := lf_o1 ⟨_, _, _, rfl, by decide, uw_8, wd_796⟩
theorem le_8_99 : lf 8 99 (1, 8, 41, 0) := lf_o1 ⟨_, _, _, rfl, by decide, uw_8, wd_797⟩
theorem le_8_102 : lf 8 102 (1, 8, 42, 0) := lf_o1 ⟨_, _, _, rfl, by decide, uw_8, wd_798⟩
theorem le_8_105 : lf 8 105 (2, 76, 0, 0) := lf_o2 wd_894 mt_76
theorem le_8_109 : lf 8 109 (2, 75, 1, 0) := lf_o2 wd_897 mt_75
theorem le_8_113 : lf 8 113 (1, 8, 7, 0) := lf_o1 ⟨_, _, _, rfl, by decide, uw_8, wd_763⟩
theorem le_8_116 : lf 8 116 (2, 79, 0, 0) := lf_o2 wd_913 mt_79
theorem le_8_120 : lf 8 120 (2, 80, 1, 0) := lf_o2 wd_909 mt_80
theorem le_8_123 : lf 8 123 (2, 83, 1, 0) := lf_o2 wd_924 mt_83
theorem le_8_127 : lf 8 127 (1, 8, 9, 0) := lf_o1 ⟨_, _, _, rfl, by decide, uw_8, wd_765⟩
theorem le_8_130 : lf 8 130 (4, 0, 0, 65535) := lf_o4 wd_943
theorem le_8_131 : lf 8 131 (2, 89, 0, 0) := lf_o2 wd_959 mt_89
theorem le_8_135 : lf 8 135 (2, 88, 0, 0) := lf_o2 wd_944 mt_88
theorem le_8_139 : lf 8 139 (2, 87, 0, 0) := lf_o2 wd_940 mt_87
theorem le_8_143 : lf 8 143 (1, 8, 19, 0) := lf_o1 ⟨_, _, _, rfl, by decide, uw_8, wd_775⟩
theorem le_8_146 : lf 8 146 (1, 8, 13, 0) := lf_o1 ⟨_, _, _, rfl, by decide, uw_8, wd_769⟩
theorem le_8_149 : lf 8 149 (1, 8, 12, 0) := lf_o1 ⟨_, _, _, rfl, by decide, uw_8, wd_768⟩
theorem le_8_152 : lf 8 152 (2, 94, 1, 0) := lf_o2 wd_984 mt_94
theorem le_8_156 : lf 8 156 (2, 96, 1, 0) := lf_o2 wd_1000 mt_96
theorem le_8_159 : lf 8 159 (4, 0, 0, 49152) := lf_o4 wd_1004
theorem le_8_160 : lf 8 160 (1, 8, 21, 0) := lf_o1 ⟨_, _, _, rfl, by decide, uw_8, wd_777⟩
theorem le_8_163 : lf 8 163 (4, 0, 0, 65536) := lf_o4 wd_980
theorem le_8_164 : lf 8 164 (2, 91, 0, 0) := lf_o2 wd_981 mt_91
theorem le_8_167 : lf 8 167 (2, 90, 0, 0) := lf_o2 wd_973 mt_90
theorem le_8_170 : lf 8 170 (2, 97, 1, 0) := lf_o2 wd_976 mt_97
theorem le_8_173 : lf 8 173 (2, 95, 1, 0) := lf_o2 wd_996 mt_95
theorem le_8_176 : lf 8 176 (1, 8, 28, 0) := lf_o1 ⟨_, _, _, rfl, by decide, uw_8, wd_784⟩
theorem le_8_179 : lf 8 179 (2, 100, 1, 0) := lf_o2 wd_1025 mt_100
theorem le_8_182 : lf 8 182 (2, 102, 1, 0) := lf_o2 wd_1013 mt_102
theorem le_8_186 : lf 8 186 (2, 103, 1, 0) := lf_o2 wd_1009 mt_103
theorem le_8_189 : lf 8 189 (2, 104, 1, 0) := lf_o2 wd_1017 mt_104
theorem le_8_193 : lf 8 193 (2, 101, 1, 0) := lf_o2 wd_1021 mt_101
theorem le_8_197 : lf 8 197 (1, 8, 22, 0) := lf_o1 ⟨_, _, _, rfl, by decide, uw_8, wd_778⟩
theorem le_8_200 : lf 8 200 (2, 99, 1, 0) := lf_o2 wd_1033 mt_99
theorem le_8_203 : lf 8 203 (2, 98, 1, 0) := lf_o2 wd_969 mt_98
theorem le_8_207 : lf 8 207 (1, 8, 23, 0) := lf_o1 ⟨_, _, _, rfl, by decide, uw_8, wd_779⟩
theorem le_8_210 : lf 8 210 (1, 8, 24, 0) := lf_o1 ⟨_, _, _, rfl, by decide, uw_8, wd_780⟩
theorem le_8_213 : lf 8 213 (1, 8, 25, 0) := lf_o1 ⟨_, _, _, rfl, by decide, uw_8, wd_781⟩
theorem le_8_216 : lf 8 216 (1, 8, 26, 0) := lf_o1 ⟨_, _, _, rfl, by decide, uw_8, wd_782⟩
theorem le_8_219 : lf 8 219 (2, 108, 0, 0) := lf_o2 wd_962 mt_108
theorem le_8_222 : lf 8 222 (2, 107, 1, 0) := lf_o2 wd_965 mt_107
theorem le_8_225 : lf 8 225 (2, 106, 1, 0) := lf_o2 wd_988 mt_106
theorem le_8_228 : lf 8 228 (2, 110, 1, 0) := lf_o2 wd_992 mt_110
theorem le_8_231 : lf 8 231 (2, 105, 1, 0) := lf_o2 wd_1005 mt_105
theorem le_8_234 : lf 8 234 (2, 109, 1, 0) := lf_o2 wd_1029 mt_109
theorem le_8_237 : lf 8 237 (2, 111, 1, 0) := lf_o2 wd_955 mt_111
theorem le_8_240 : lf 8 240 (2, 113, 1, 0) := lf_o2 wd_1041 mt_113
theorem lr_8 : ∀ q ∈ tb_r8, lf 8 q.1 q.2 := List.forall_mem_cons.mpr ⟨le_8_1, List.forall_mem_cons.mpr ⟨le_8_7, List.forall_mem_cons.mpr ⟨le_8_13, List.forall_mem_cons.mpr ⟨le_8_16, List.forall_mem_cons.mpr ⟨le_8_20, List.forall_mem_cons.mpr ⟨le_8_23, List.forall_mem_cons.mpr ⟨le_8_26, List.forall_mem_cons.mpr ⟨le_8_29, List.forall_mem_cons.mpr ⟨le_8_32, List.forall_mem_cons.mpr ⟨le_8_35, List.forall_mem_cons.mpr ⟨le_8_38, List.forall_mem_cons.mpr ⟨le_8_41, List.forall_mem_cons.mpr ⟨le_8_44, List.forall_mem_cons.mpr ⟨le_8_47, List.forall_mem_cons.mpr ⟨le_8_50, List.forall_mem_cons.mpr ⟨le_8_53, List.forall_mem_cons.mpr ⟨le_8_56, List.forall_mem_cons.mpr ⟨le_8_60, List.forall_mem_cons.mpr ⟨le_8_63, List.forall_mem_cons.mpr ⟨le_8_66, List.forall_mem_cons.mpr ⟨le_8_69, List.forall_mem_cons.mpr ⟨le_8_72, List.forall_mem_cons.mpr ⟨le_8_75, List.forall_mem_cons.mpr ⟨le_8_78, List.forall_mem_cons.mpr ⟨le_8_81, List.forall_mem_cons.mpr ⟨le_8_84, List.forall_mem_cons.mpr ⟨le_8_87, List.forall_mem_cons.mpr ⟨le_8_90, List.forall_mem_cons.mpr ⟨le_8_93, List.forall_mem_cons.mpr ⟨le_8_96, List.forall_mem_cons.mpr ⟨le_8_99, List.forall_mem_cons.mpr ⟨le_8_102, List.forall_mem_cons.mpr ⟨le_8_105, List.forall_mem_cons.mpr ⟨le_8_109, List.forall_mem_cons.mpr ⟨le_8_113, List.forall_mem_cons.mpr ⟨le_8_116, List.forall_mem_cons.mpr ⟨le_8_120, List.forall_mem_cons.mpr ⟨le_8_123, List.forall_mem_cons.mpr ⟨le_8_127, List.forall_mem_cons.mpr ⟨le_8_130, List.forall_mem_cons.mpr ⟨le_8_131, List.forall_mem_cons.mpr ⟨le_8_135, List.forall_mem_cons.mpr ⟨le_8_139, List.forall_mem_cons.mpr ⟨le_8_143, List.forall_mem_cons.mpr ⟨le_8_146, List.forall_mem_cons.mpr ⟨le_8_149, List.forall_mem_cons.mpr ⟨le_8_152, List.forall_mem_cons.mpr ⟨le_8_156, List.forall_mem_cons.mpr ⟨le_8_159, List.forall_mem_cons.mpr ⟨le_8_160, List.forall_mem_cons.mpr ⟨le_8_163, List.forall_mem_cons.mpr ⟨le_8_164, List.forall_mem_cons.mpr ⟨le_8_167, List.forall_mem_cons.mpr ⟨le_8_170, List.forall_mem_cons.mpr ⟨le_8_173, List.forall_mem_cons.mpr ⟨le_8_176, List.forall_mem_cons.mpr ⟨le_8_179, List.forall_mem_cons.mpr ⟨le_8_182, List.forall_mem_cons.mpr ⟨le_8_186, List.forall_mem_cons.mpr ⟨le_8_189, List.forall_mem_cons.mpr ⟨le_8_193, List.forall_mem_cons.mpr ⟨le_8_197, List.forall_mem_cons.mpr ⟨le_8_200, List.forall_mem_cons.mpr ⟨le_8_203, List.forall_mem_cons.mpr ⟨le_8_207, List.forall_mem_cons.mpr ⟨le_8_210, List.forall_mem_cons.mpr ⟨le_8_213, List.forall_mem_cons.mpr ⟨le_8_216, List.forall_mem_cons.mpr ⟨le_8_219, List.forall_mem_cons.mpr ⟨le_8_222, List.forall_mem_cons.mpr ⟨le_8_225, List.forall_mem_cons.mpr ⟨le_8_228, List.forall_mem_cons.mpr ⟨le_8_231, List.forall_mem_cons.mpr ⟨le_8_234, List.forall_mem_cons.mpr ⟨le_8_237, List.forall_mem_cons.mpr ⟨le_8_240, fun _ h => absurd h List.not_mem_nil⟩⟩⟩⟩⟩⟩⟩⟩⟩⟩⟩⟩⟩⟩⟩⟩⟩⟩⟩⟩⟩⟩⟩⟩⟩⟩⟩⟩⟩⟩⟩⟩⟩⟩⟩⟩⟩⟩⟩⟩⟩⟩⟩⟩⟩⟩⟩⟩⟩⟩⟩⟩⟩⟩⟩⟩⟩⟩⟩⟩⟩⟩⟩⟩⟩⟩⟩⟩⟩⟩⟩⟩⟩⟩⟩⟩
theorem le_9_7 : lf 9 7 (4, 0, 0, 65535) := lf_o4 wd_477
theorem lr_9 : ∀ q ∈ tb_r9, lf 9 q.1 q.2 := List.forall_mem_cons.mpr ⟨le_9_7, fun _ h => absurd h List.not_mem_nil⟩
theorem fx_arrN : Jvm.Cond.native arraycopyName ∈ tb_all := wd_495
theorem fx_arrS : Jvm.Cond.static arraycopyName ∈ tb_all := wd_494
theorem fx_arrI : Jvm.Cond.initialized "java/lang/System" ∈ tb_all := wd_18
theorem fx_maxS : Jvm.Cond.static Lib.Math.max.name ∈ tb_all := wd_665
theorem fx_minS : Jvm.Cond.static Lib.Math.min.name ∈ tb_all := wd_566
theorem fx_matI : Jvm.Cond.initialized "java/lang/Math" ∈ tb_all := wd_19
theorem fx_maxC : Jvm.Cond.code Lib.Math.max.name Lib.Math.max.code 2 (some .int) ∈ tb_all := wd_666
theorem fx_minC : Jvm.Cond.code Lib.Math.min.name Lib.Math.min.code 2 (some .int) ∈ tb_all := wd_567
theorem fx_objM : Jvm.Cond.instanceMethod Lib.objectInit ∈ tb_all := wd_26
theorem fx_objC : Jvm.Cond.code Lib.objectInit ⟨#[0xb1]⟩ 1 none ∈ tb_all := wd_27
theorem fx_int : Jvm.Cond.arrayClass .int ∈ tb_all := wd_73
theorem fx_byte : Jvm.Cond.arrayClass .byte ∈ tb_all := wd_92
theorem fx_boolean : Jvm.Cond.arrayClass .boolean ∈ tb_all := wd_189
