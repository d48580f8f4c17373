theorem lb_1 {i : Nat} {w : Jvm.Cond} (h : tables_1_1[i]? = some w) : w ∈ lw_tbl := List.mem_append_right _ (by have h : w ∈ tables_1_1 := List.mem_of_getElem? h; exact List.mem_append_left _ h)
theorem lb_2 {i : Nat} {w : Jvm.Cond} (h : tables_1_2[i]? = some w) : w ∈ lw_tbl := List.mem_append_right _ (by have h : w ∈ tables_1_2 := List.mem_of_getElem? h; exact List.mem_append_right _ (List.mem_append_left _ h))
theorem lb_3 {i : Nat} {w : Jvm.Cond} (h : tables_1_3[i]? = some w) : w ∈ lw_tbl := List.mem_append_right _ (by have h : w ∈ tables_1_3 := List.mem_of_getElem? h; exact List.mem_append_right _ (List.mem_append_right _ (List.mem_append_left _ h)))
theorem lb_4 {i : Nat} {w : Jvm.Cond} (h : tables_1_4[i]? = some w) : w ∈ lw_tbl := List.mem_append_right _ (by have h : w ∈ tables_1_4 := List.mem_of_getElem? h; exact List.mem_append_right _ (List.mem_append_right _ (List.mem_append_right _ (List.mem_append_left _ h))))
theorem lb_5 {i : Nat} {w : Jvm.Cond} (h : tables_1_5[i]? = some w) : w ∈ lw_tbl := List.mem_append_right _ (by have h : w ∈ tables_1_5 := List.mem_of_getElem? h; exact List.mem_append_right _ (List.mem_append_right _ (List.mem_append_right _ (List.mem_append_right _ h))))
theorem lw9_cl8 : (Jvm.Cond.classLink "RouteHouseLaw" (8 : Nat) "RouteHouse") ∈ tb_all := wd_o1 (i := 20) rfl rfl
theorem lw9_cl68 : (Jvm.Cond.classLink "RouteHouseLaw" (68 : Nat) "RouteHouseModel") ∈ tb_all := wd_o4 (i := 30) rfl rfl
theorem lw9_in7 : (Jvm.Cond.instantiable "RouteHouse" (11 : Nat)) ∈ tb_all := wd_o1 (i := 21) rfl rfl
theorem lw9_in8 : (Jvm.Cond.instantiable "RouteHouseModel" (43 : Nat)) ∈ tb_all := wd_o4 (i := 31) rfl rfl
theorem lw9_it7 : (Jvm.Cond.initialized "RouteHouse") ∈ tb_all := wd_o1 (i := 1) rfl rfl
theorem lw9_it8 : (Jvm.Cond.initialized "RouteHouseModel") ∈ tb_all := wd_o1 (i := 9) rfl rfl
theorem lw9_ml67 : (Jvm.Cond.methodLink "RouteHouseLaw" (67 : Nat) ({ cls := "RouteHouse", name := "<init>", desc := "()V" } : Jvm.MethodName)) ∈ tb_all := wd_o1 (i := 22) rfl rfl
theorem lw9_ml70 : (Jvm.Cond.methodLink "RouteHouseLaw" (70 : Nat) ({ cls := "RouteHouseModel", name := "<init>", desc := "()V" } : Jvm.MethodName)) ∈ tb_all := wd_o4 (i := 32) rfl rfl
theorem lw9_arL : (Jvm.Cond.arrayClass Jvm.ClassFile.FieldType.long) ∈ tb_all := wd_o5 (i := 101) rfl rfl
theorem lb_g {b : Nat} {s : State} (hts : ∀ w ∈ lw_tbl, w.before #[Value.ref b] s = true) (hs : (Jvm.Cond.and given_1 narrow_1).before #[Value.ref b] s = true) : sd_g s := by
  have hf := flat_of_before _ hs
  show ∀ q ∈ [("RouteHouse", 211, "no such port"), ("RouteHouse", 68, "no such mtu"), ("RouteHouse", 215, "no such beginning"), ("RouteHouse", 95, "too many routes"), ("RouteHouse", 105, "no such question about a route"), ("RouteHouse", 124, "the tape is full"), ("RouteHouse", 137, "the tape has not so many bytes"), ("RouteHouse", 139, "no header of so many words"), ("RouteHouse", 213, "no such packet"), ("RouteHouse", 176, "no such time to pass"), ("RouteHouse", 184, "no such question about a packet"), ("RouteHouse", 188, "no such byte"), ("RouteHouse", 209, "no such question")], ∃ sa : Nat, vk_R q.1 q.2.1 q.2.2 sa s
  refine List.forall_mem_cons.mpr ⟨?_, ?_⟩
  · obtain ⟨sa, _, _, _, h1, _⟩ := Cond.exactly_spec (hf (Jvm.Cond.exactly (Jvm.Term.string "RouteHouse" (211 : Nat)) "java/lang/String") (by decide +kernel))
    exact ⟨sa, vk_R.of (hts _ (lb_2 (i := 79) rfl)) h1⟩
  refine List.forall_mem_cons.mpr ⟨?_, ?_⟩
  · obtain ⟨sa, _, _, _, h1, _⟩ := Cond.exactly_spec (hf (Jvm.Cond.exactly (Jvm.Term.string "RouteHouse" (68 : Nat)) "java/lang/String") (by decide +kernel))
    exact ⟨sa, vk_R.of (hts _ (lb_2 (i := 114) rfl)) h1⟩
  refine List.forall_mem_cons.mpr ⟨?_, ?_⟩
  · obtain ⟨sa, _, _, _, h1, _⟩ := Cond.exactly_spec (hf (Jvm.Cond.exactly (Jvm.Term.string "RouteHouse" (215 : Nat)) "java/lang/String") (by decide +kernel))
    exact ⟨sa, vk_R.of (hts _ (lb_2 (i := 140) rfl)) h1⟩
  refine List.forall_mem_cons.mpr ⟨?_, ?_⟩
  · obtain ⟨sa, _, _, _, h1, _⟩ := Cond.exactly_spec (hf (Jvm.Cond.exactly (Jvm.Term.string "RouteHouse" (95 : Nat)) "java/lang/String") (by decide +kernel))
    exact ⟨sa, vk_R.of (hts _ (lb_2 (i := 157) rfl)) h1⟩
  refine List.forall_mem_cons.mpr ⟨?_, ?_⟩
  · obtain ⟨sa, _, _, _, h1, _⟩ := Cond.exactly_spec (hf (Jvm.Cond.exactly (Jvm.Term.string "RouteHouse" (105 : Nat)) "java/lang/String") (by decide +kernel))
    exact ⟨sa, vk_R.of (hts _ (lb_2 (i := 186) rfl)) h1⟩
  refine List.forall_mem_cons.mpr ⟨?_, ?_⟩
  · obtain ⟨sa, _, _, _, h1, _⟩ := Cond.exactly_spec (hf (Jvm.Cond.exactly (Jvm.Term.string "RouteHouse" (124 : Nat)) "java/lang/String") (by decide +kernel))
    exact ⟨sa, vk_R.of (hts _ (lb_2 (i := 208) rfl)) h1⟩
  refine List.forall_mem_cons.mpr ⟨?_, ?_⟩
  · obtain ⟨sa, _, _, _, h1, _⟩ := Cond.exactly_spec (hf (Jvm.Cond.exactly (Jvm.Term.string "RouteHouse" (137 : Nat)) "java/lang/String") (by decide +kernel))
    exact ⟨sa, vk_R.of (hts _ (lb_2 (i := 225) rfl)) h1⟩
  refine List.forall_mem_cons.mpr ⟨?_, ?_⟩
  · obtain ⟨sa, _, _, _, h1, _⟩ := Cond.exactly_spec (hf (Jvm.Cond.exactly (Jvm.Term.string "RouteHouse" (139 : Nat)) "java/lang/String") (by decide +kernel))
    exact ⟨sa, vk_R.of (hts _ (lb_2 (i := 233) rfl)) h1⟩
  refine List.forall_mem_cons.mpr ⟨?_, ?_⟩
  · obtain ⟨sa, _, _, _, h1, _⟩ := Cond.exactly_spec (hf (Jvm.Cond.exactly (Jvm.Term.string "RouteHouse" (213 : Nat)) "java/lang/String") (by decide +kernel))
    exact ⟨sa, vk_R.of (hts _ (lb_3 (i := 12) rfl)) h1⟩
  refine List.forall_mem_cons.mpr ⟨?_, ?_⟩
  · obtain ⟨sa, _, _, _, h1, _⟩ := Cond.exactly_spec (hf (Jvm.Cond.exactly (Jvm.Term.string "RouteHouse" (176 : Nat)) "java/lang/String") (by decide +kernel))
    exact ⟨sa, vk_R.of (hts _ (lb_3 (i := 236) rfl)) h1⟩
  refine List.forall_mem_cons.mpr ⟨?_, ?_⟩
  · obtain ⟨sa, _, _, _, h1, _⟩ := Cond.exactly_spec (hf (Jvm.Cond.exactly (Jvm.Term.string "RouteHouse" (184 : Nat)) "java/lang/String") (by decide +kernel))
    exact ⟨sa, vk_R.of (hts _ (lb_4 (i := 13) rfl)) h1⟩
  refine List.forall_mem_cons.mpr ⟨?_, ?_⟩
  · obtain ⟨sa, _, _, _, h1, _⟩ := Cond.exactly_spec (hf (Jvm.Cond.exactly (Jvm.Term.string "RouteHouse" (188 : Nat)) "java/lang/String") (by decide +kernel))
    exact ⟨sa, vk_R.of (hts _ (lb_4 (i := 21) rfl)) h1⟩
  refine List.forall_mem_cons.mpr ⟨?_, ?_⟩
  · obtain ⟨sa, _, _, _, h1, _⟩ := Cond.exactly_spec (hf (Jvm.Cond.exactly (Jvm.Term.string "RouteHouse" (209 : Nat)) "java/lang/String") (by decide +kernel))
    exact ⟨sa, vk_R.of (hts _ (lb_4 (i := 29) rfl)) h1⟩
  exact fun _ h => absurd h List.not_mem_nil
theorem lb_n {b : Nat} {s : State} (hs : (Jvm.Cond.and given_1 narrow_1).before #[Value.ref b] s = true) : sw_n s := by
  have hf := flat_of_before _ hs
  exact ⟨va_Nc.of (hf _ (by decide +kernel)), va_Nc.of (hf _ (by decide +kernel)), va_Nc.of (hf _ (by decide +kernel)), va_Nc.of (hf _ (by decide +kernel))⟩
theorem lb_h {b : Nat} {s : State} (hts : ∀ w ∈ lw_tbl, w.before #[Value.ref b] s = true) (hs : (Jvm.Cond.and given_1 narrow_1).before #[Value.ref b] s = true) : sx_h s := by
  have hf := flat_of_before _ hs
  exact ⟨sx_kept (a1 := #[Value.ref b]) (hts _ (lb_2 (i := 64) rfl)) (hf _ (by decide +kernel)) (Vm.Alike.refl s.vm) (fun _ _ h _ => h), sx_kept (a1 := #[Value.ref b]) (hts _ (lb_2 (i := 66) rfl)) (hf _ (by decide +kernel)) (Vm.Alike.refl s.vm) (fun _ _ h _ => h)⟩
theorem lb_a {b : Nat} {s : State} (hts : ∀ w ∈ lw_tbl, w.before #[Value.ref b] s = true) : sd_a s := by
  refine ⟨fun w hw ho hk => sx_word (State.WarmedH.refl s) ho hk (hts w hw), ?_⟩
  show ∀ C ∈ ["RouteHouse$Port", "RouteHouse$Waiting"], va_AO C s
  exact List.forall_mem_cons.mpr ⟨va_AO.of (hts _ (lb_1 (i := 29) rfl)), List.forall_mem_cons.mpr ⟨va_AO.of (hts _ (lb_1 (i := 137) rfl)), fun _ h => absurd h List.not_mem_nil⟩⟩
section LawB
variable {p : Program} {l : Launch} {e : Env} {R : Room} {s : State} {m : MethodId} {args : Array Value} {below : List Frame} {meth : Method} {c : Code} {H : Heap} {locs : List Loc} {cells slots : Nat} {Q : State → Prop} {cc : ByteArray} {nL pc : Nat} {ls : Array Slot} {Ts : List Jvm.Cond} {own : String} {D : va_G} {A : Nat → Prop} {ad : List Nat} {h h2 : hp_T} {rest : List Value}
-- what a caller keeps, where only new cells may change
theorem lb_R (h1 : sx_h s) (h2 : sd_a s) (h3 : sd_g s) (hSt : va_S (fun q => s.heap.size ≤ q) s.heap H locs) : sw_R s H := by
  refine ⟨h1, h2, h3, fun a cell h5 h6 => ?_⟩
  have h7 := (Array.getElem?_eq_some_iff.mp h5).1
  rw [hSt.2.1 a h7 (by omega)]
  exact h5
-- a constructor of the evaluator
theorem sw_ini (hlt : l.stackTraces = false) {d f0 k x b qb : Nat} {K : List Value} (hev : ev_m d f0 k [.ref b] h = some (.inl none, h2)) (hk : tb_ok k = true) (hx : p.tables.exec = Jvm.exec) (hb : c.code = cc) (hml : c.maxLocals = nL) (hown : s.vm.findClass own = some m.cls) (hts : ∀ w ∈ Ts, w.before args s = true)
    (hG : GoodIn Ts (sd_ws k)) (hl : (Jvm.Cond.methodLink own x (tb_y k)).before args s = true) (hlm : lf_m k 2) (hall : ∀ w ∈ tb_all, w.before args s = true) (hrf : tb_rf k + 1 ≤ R.frames) (hrl : 8 + (tb_ml k + 11) + tb_rl k ≤ R.locals)
    (hw : sd_w D A ad h s H) (hSt : va_S A s.heap H locs) (hA : ∀ q, s.heap.size ≤ q → A q) (hR : sw_R s H) (hqb : ad[b]? = some qb) (hna : 0 = tb_na k) (hsz : ls.size = nL) (hK : (K.map fun v => v.category).sum ≤ 8) (hdg : decode cc pc = .ok (.invokespecial x, 3)) (hRc : cells + (hp_c h2 - hp_c h) ≤ R.cells) (hRs : slots + (hp_s h2 - hp_s h) ≤ R.slots)
    (kk : ∀ (z : List Nat) (H1 : Heap) (locs1 : List Loc), sd_w D A (ad ++ z) h2 s H1 → va_S A s.heap H1 locs1 → W p l e R s m args below meth c H1 locs1 (cells + (hp_c h2 - hp_c h)) (slots + (hp_s h2 - hp_s h)) Q (F0 m (pc + 3) ls K)) :
    W p l e R s m args below meth c H locs cells slots Q (F0 m pc ls (.ref qb :: K)) := by
  obtain ⟨-, g2, g3, g4, -, -, g6⟩ := hlm
  obtain ⟨g7, g8, g9⟩ := g6 rfl
  have hmm : hp_c h ≤ hp_c h2 ∧ hp_s h ≤ hp_s h2 := ev_m_c d f0 _ _ _ _ hev
  have hM := (sd_main (l := l) tb_true hlt D d f0 k _ h _ hk hev ad H.size [.ref qb] ⟨⟨qb, hqb, rfl⟩, trivial⟩ (hp_c h2 - hp_c h) (hp_s h2 - hp_s h) (by show _ = hp_c h2; omega) (by show _ = hp_s h2; omega)).1 none rfl
  have cb : CallB R s args own x (tb_y k) (tb_b k) (tb_ml k) none (sd_ws k) (sd_rm k (hp_c h2 - hp_c h) (hp_s h2 - hp_s h)) (hp_c h2 - hp_c h) (hp_s h2 - hp_s h) (tb_na k) := callB_of _ hts hG (by unfold sd_ws; rw [g8]) rfl rfl (hall _ g2) hl g4 ⟨hrf, hrl⟩
  refine sd_callR (va_runI (As := []) ⟨hx, hb, hml, hown, hts⟩ hM ⟨cb, g7, hall _ g9⟩ ⟨sd_Pc_blind, sw_pre hw hR _⟩ rfl hna hsz rfl (lv_room hK) hdg ⟨hRc, hRs⟩) (fun w st₀ t H1 Lc e0 e1 hvm hq hL => ?_)
  obtain ⟨v2, w2, z2, q1, q2, q3, q4, q5⟩ := hq
  cases q1
  cases q2
  subst e1
  have hsub := sw_sub hw hSt hA
  cases w with
  | some w => exact False.elim q3
  | none => exact kk z2 t.heap (locs ++ Lc) (sd_w_moved hvm.symm (sd_w_own q4 (fun q h9 => hsub q (sd_w_at q4 q h9).1))) (sd_keepS e0 rfl hSt hsub hL q5)
-- new long[1]
theorem sw_newl (hx : p.tables.exec = Jvm.exec) (hb : c.code = cc) (hall : ∀ w ∈ tb_all, w.before args s = true) (hw : sd_w D A ad h s H) (hSt : va_S A s.heap H locs) (hA : ∀ q, s.heap.size ≤ q → A q) (hdg : decode cc pc = .ok (.newarray .long, 2)) (hRc : cells + 1 ≤ R.cells) (hRs : slots + 1 ≤ R.slots)
    (kk : ∀ (q : Nat) (H1 : Heap), sd_w D A ad h s H1 → sw_c D A ad q (fun _ => 0) s H1 → va_S A s.heap H1 locs → W p l e R s m args below meth c H1 locs (cells + 1) (slots + 1) Q (F0 m (pc + 2) ls (.ref q :: rest))) :
    W p l e R s m args below meth c H locs cells slots Q (F0 m pc ls (.int 1 :: rest)) := by
  obtain ⟨ws, tys, hK, hP, hD, hr⟩ := hw
  refine va_newa hx hb (atype := .long) (hall _ lw9_arL) (ty := .long) rfl hK hP hD hSt hA (N' := 1) (a0 := (1, .inr (.inl (fun _ => 0)))) (fun _ => rfl) (by decide) (by decide) (by decide) hRc hRs hdg (fun q cA H1 hK1 hP1 hD1 hS1 => ?_)
  have hKL : va_K D vwCl [(cA, .long)] s := ⟨hK1.1, fun k q9 hk => hK1.2 (tys.length + k) q9 (by rw [List.getElem?_append_right (by omega)]; simpa using hk)⟩
  have hq : q ∉ ad := by
    intro h9
    obtain ⟨i, hi⟩ := List.getElem?_of_mem h9
    obtain ⟨hlw, hla, hr9⟩ := hr
    have hlt : i < h.1.length := by rw [← hla]; exact (List.getElem?_eq_some_iff.mp hi).1
    obtain ⟨a, E, g1, g2, -⟩ := hr9 i (h.1[i]).1 (h.1[i]).2 (by unfold hp_k; rw [List.getElem?_eq_getElem hlt])
    cases Option.some.inj (g1.symm.trans hi)
    have g3 := hD1.1 i ws.length (q, E) (q, .inl (cA, 1, .inr (.inl (fun _ => 0)))) (by rw [List.getElem?_append_left (List.getElem?_eq_some_iff.mp g2).1]; exact g2) (by rw [List.getElem?_append_right (Nat.le_refl _)]; simp) rfl
    omega
  obtain ⟨g1, g2⟩ := sw_split hP1 hD1 hr hK hKL hq
  exact kk q H1 g1 g2 hS1
end LawB
