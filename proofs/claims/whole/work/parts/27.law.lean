/-! THE CLAIM OUT OF ONE WALK OF THE LAW'S BODY. Your part is whole_start (and what it stands on); all else here is the same for every law, but numbers. -/
def R_law : String := "RouteHouseLaw"
def lw_P (b : Addr) (xs : List Int32) (args : Array Value) (s : State) : Prop := args = #[.ref b] ∧ s.IntsAt b xs ∧ xs.length ≤ 3072 ∧ (Jvm.Cond.and given_1 narrow_1).before args s = true
def lw_Q (_ : Array Value) (s : State) (o : Outcome) (t : State) : Prop := o = .returned (some (.int 1)) ∧ Framed s o t [] 601024 7293034
def lw_Z (below : List Frame) (a : Array Value) (s : State) : State → Prop := fun t => ∃ o, t.status = .running ∧ Ended t below o ∧ lw_Q a s o t
/-- the law's own end, with 1 on the stack, nothing written that was there before, its room as the claim has it -/
theorem lw_ret {p : Program} {l : Launch} {e : Env} {s : State} {m : MethodId} {below : List Frame} {meth : Method} {c : Code} {b : Nat} (hx : p.tables.exec = Jvm.exec) (hb : c.code = code) (hr : meth.sig.returnType = ret) (hlocks : meth.locks = false) {pc : Nat} {H : Heap} {ls : Array Slot} (hdg : decode code pc = .ok (.ireturn, 1)) : W p l e room_1 s m #[Value.ref b] below meth c H [] 601024 7293034 (lw_Z below #[Value.ref b] s) (F0 m pc ls [.int 1]) := by
  intro T hT X
  obtain ⟨fs, hret, hrun, hended, hW, hframe⟩ := X.leave (v := some (.int 1)) (hlocks := hlocks) (fun h => by rw [hr] at h; cases h)
  have hmeth' : T.vm.method? m = some meth := X.method'
  refine ⟨T.setFrames fs, ?_, .returned (some (.int 1)), hrun, hended, rfl, ⟨_, rfl⟩, hW, hframe⟩
  jvm_step X.here [X.here.top, hx, hb, hdg, hmeth', hr, ret, narrow_b1]
  (try refine ⟨rfl, ?_⟩); (try refine ⟨rfl, ?_⟩)
  first | (intro acts; rw [hret _ acts rfl rfl rfl]) | rw [hret _ _ rfl rfl rfl]
  exact Steps.refl _
/-- what holds at the law's entry: the machine, the code, the tables' words (any of lw_tbl by 'hts w (by decide +kernel)'), the script of L ints xs at the cell b, what the Statement gives of the start (any of its parts by flat_of_before) -/
def lw_At (p : Program) (s : State) (m : MethodId) (meth : Method) (c : Code) (b L : Nat) (xs : Nat → Int32) : Prop :=
  p.tables.exec = Jvm.exec ∧ c.code = code ∧ meth.sig.returnType = ret ∧ c.maxLocals = 7 ∧ s.vm.findClass R_law = some m.cls ∧ (∀ w ∈ lw_tbl, w.before #[Value.ref b] s = true) ∧ va_X b L xs s s.heap ∧ b < s.heap.size ∧ meth.locks = false ∧ (Jvm.Cond.and given_1 narrow_1).before #[Value.ref b] s = true
theorem lb_i0 : Jvm.Cond.instantiable tc_0 5 ∈ tb_all := wd_o1 (i := 200) rfl rfl
theorem lb_i1 : Jvm.Cond.instantiable tc_1 8 ∈ tb_all := wd_o1 (i := 94) rfl rfl
theorem lb_i2 : Jvm.Cond.instantiable tc_2 2 ∈ tb_all := wd_o1 (i := 75) rfl rfl
theorem lb_i3 : Jvm.Cond.instantiable tc_3 3 ∈ tb_all := wd_o1 (i := 30) rfl rfl
theorem lb_i4 : Jvm.Cond.instantiable tc_4 5 ∈ tb_all := wd_o1 (i := 48) rfl rfl
theorem lb_i5 : Jvm.Cond.instantiable tc_5 13 ∈ tb_all := wd_o1 (i := 138) rfl rfl
theorem lb_i6 : Jvm.Cond.instantiable tc_6 2 ∈ tb_all := wd_o1 (i := 131) rfl rfl
theorem lb_i7 : Jvm.Cond.instantiable tc_7 11 ∈ tb_all := wd_o1 (i := 21) rfl rfl
theorem lb_i8 : Jvm.Cond.instantiable tc_8 43 ∈ tb_all := wd_o4 (i := 31) rfl rfl
theorem lb_k1 {s : State} {args : Array Value} (hall : ∀ w ∈ tb_all, w.before args s = true) {C : String} {T : u_T} {N n : Nat} {c : Nat} (hv : vwCl[c]? = some (C, T, N)) (hu : ∀ w ∈ u_ws C T N, w ∈ tb_all) (hi : Jvm.Cond.instantiable C n ∈ tb_all) : ∃ (cC : ClassId) (iS : Nat → Nat), ∀ q : vw_C, vwCl[c]? = some q → u_Kn s q.1 q.2.1 q.2.2 cC iS := by
  obtain ⟨cC, iS, h⟩ := u_known hall hu (hall _ hi)
  refine ⟨cC, iS, fun q hq => ?_⟩
  cases Option.some.inj (hv.symm.trans hq)
  exact h
theorem lb_k {s : State} {args : Array Value} (hall : ∀ w ∈ tb_all, w.before args s = true) (c : Nat) : ∃ (cC : ClassId) (iS : Nat → Nat), ∀ q : vw_C, vwCl[c]? = some q → u_Kn s q.1 q.2.1 q.2.2 cC iS := by
  match c with
  | 0 => exact lb_k1 hall (c := 0) rfl uw_0 lb_i0
  | 1 => exact lb_k1 hall (c := 1) rfl uw_1 lb_i1
  | 2 => exact lb_k1 hall (c := 2) rfl uw_2 lb_i2
  | 3 => exact lb_k1 hall (c := 3) rfl uw_3 lb_i3
  | 4 => exact lb_k1 hall (c := 4) rfl uw_4 lb_i4
  | 5 => exact lb_k1 hall (c := 5) rfl uw_5 lb_i5
  | 6 => exact lb_k1 hall (c := 6) rfl uw_6 lb_i6
  | 7 => exact lb_k1 hall (c := 7) rfl uw_7 lb_i7
  | 8 => exact lb_k1 hall (c := 8) rfl uw_8 lb_i8
  | n + 9 =>
    obtain ⟨cC, iS, -⟩ := lb_k1 hall (c := 0) rfl uw_0 lb_i0
    exact ⟨cC, iS, fun q hq => by cases hq⟩
def hp_0 : hp_T := ([], fun _ _ => 0, fun _ _ => none, 0, 0)
theorem lb_w {s : State} {args : Array Value} (hall : ∀ w ∈ tb_all, w.before args s = true) (A : Nat → Prop) : ∃ D : va_G, sd_w D A [] hp_0 s s.heap := by
  refine ⟨(fun c => (lb_k hall c).choose, fun c => (lb_k hall c).choose_spec.choose), [], [], ⟨fun c q hq => (lb_k hall c).choose_spec.choose_spec q hq, fun k q hk => ?_⟩, fun k q hk => ?_, ⟨fun i j p q hi hj _ => ?_, fun k q hk => ?_⟩, rfl, rfl, fun i t n hi => ?_⟩
  · cases hk
  · cases hk
  · cases hi
  · cases hk
  · cases hi
-- the two constructors, one behind the other, on the empty heap
def li_I (J : hp_T → Prop) : Prop := ∃ hC hM : hp_T, pr_ 46 [.ref 0] (hp_new hp_0 7 0 11) (.inl none, hC) ∧ hC.1.length = 52 ∧ pr_ 73 [.ref 52] (hp_new hC 8 0 43) (.inl none, hM) ∧ J hM
def lb_rs : Nat → ev_R := fun x => if x = 8 then (3, 7, 11, 0) else (3, 8, 43, 0)
theorem lb_loc {p : Program} {b : Nat} {s : State} {H : Heap} {locs : List Loc} (hSt : va_S (fun q => s.heap.size ≤ q) s.heap H locs) : ∀ q ∈ locs, s.heap.size ≤ q.base := fun q hq => hSt.2.2 q hq
set_option maxHeartbeats 4000000 in
set_option maxRecDepth 100000 in
theorem lb_start {p : Program} {e : Env} {s : State} {m : MethodId} {below : List Frame} {meth : Method} {c : Code} (l : Launch) (hlt : l.stackTraces = false) {b L : Nat} {xs : Nat → Int32} (hL : L ≤ 3072) (C0 : lw_At p s m meth c b L xs)
    {Jn : Nat → hp_T → Prop} (hI : li_I (Jn 0)) (hJ : ∀ n, lq_H (Jn n)) (hk : ∀ n h, Jn n h → hp_k h 0 = some (7, 0) ∧ hp_k h 52 = some (8, 0))
    (hst : ∀ n h, Jn n h → 6 * n + 6 ≤ L → pu_step (Jn (n + 1)) h (xs (6 * n)) (xs (6 * n + 1)) (xs (6 * n + 2)) (xs (6 * n + 3)) (xs (6 * n + 4)) (xs (6 * n + 5))) :
    W p l e room_1 s m #[Value.ref b] below meth c s.heap [] 0 0 (lw_Z below #[Value.ref b] s) (entryFrame m ([Value.ref b] : List Value).toArray 7) := by
  obtain ⟨hx, hb, hr, hml, hown, hts, hX, hbl, hlocks, hgv⟩ := C0
  have hall : ∀ w ∈ tb_all, w.before #[Value.ref b] s = true := fun w hw => hts w (List.mem_filter.mp hw).1
  have f1 := lb_h hts hgv
  have f2 := lb_a hts
  have f3 := lb_g hts hgv
  have f4 := lb_n hgv
  obtain ⟨D, hw0⟩ := lb_w hall (fun q => s.heap.size ≤ q)
  obtain ⟨hC, hM, ⟨d1, g1, ev1⟩, hlen, ⟨d2, g2, ev2⟩, hj⟩ := hI
  have m1 : hp_c (hp_new hp_0 7 0 11) ≤ hp_c hC ∧ hp_s (hp_new hp_0 7 0 11) ≤ hp_s hC := ev_m_c _ _ _ _ _ _ ev1
  have m2 : hp_c (hp_new hC 8 0 43) ≤ hp_c hM ∧ hp_s (hp_new hC 8 0 43) ≤ hp_s hM := ev_m_c _ _ _ _ _ _ ev2
  have e3 : hp_c (hp_new hC 8 0 43) = hp_c hC + 1 := rfl
  have e4 : hp_s (hp_new hC 8 0 43) = hp_s hC + 43 := rfl
  have m3 := hJ 0 hM hj
  have hl := lv_entry [Value.ref b] (n := 7) (by show 1 ≤ 7; decide)
  rw [lg_entry_eq]
  generalize (lg_sl [Value.ref b] ++ List.replicate (7 - (lg_sl [Value.ref b]).length) Slot.unset).toArray = ls at hl ⊢
  replace hl : lv_has ls 7 [(0, .ref b)] := hl
  have hown : s.vm.findClass "RouteHouseLaw" = some m.cls := hown
  have hA : ∀ q, s.heap.size ≤ q → (fun q => s.heap.size ≤ q) q := fun q h => h
  have hnull : ∀ (ad : List Nat) (i : Nat) (v : Value), (List.replicate 7 Value.null)[i]? = some v → v ≠ .null → ∃ w : Value, sd_v ad v w ∧ (i, w) ∈ ([] : List (Nat × Value)) := by
    intro ad i v h1 h2
    have h3 := List.mem_of_getElem? h1
    exact absurd (List.eq_of_mem_replicate h3) h2
  refine sd_h tb_true.1 hx hb hml (own := "RouteHouseLaw") (rs := lb_rs) (Ts := tb_all) hown hall (i := .new 8) (L := List.replicate 7 .null) (st := []) (st' := [.ref 0]) (h := hp_0) (h' := hp_new hp_0 7 0 11) rfl dl_0 (fun _ => ⟨_, _, rfl, uw_7, hall _ lw9_cl8, hall _ lw9_in7, hall _ lw9_it7⟩) hw0 va_S.rf hA ⟨rfl, [], lv_sub hl [] rfl, hnull _⟩ trivial (by decide) (by decide) (c0 := 0) (s0 := 0) rfl rfl (by show 1 ≤ 601024; decide) (by show 11 ≤ 7293034; decide) (fun z H1 locs1 S1 c1 s1 hw1 hS1 hl1 e1 e2 => ?_)
  obtain ⟨a0, K, hq0, rfl, hK⟩ := sd_l_r hl1
  cases K with
  | cons _ _ => exact False.elim hK
  | nil =>
  rw [Nat.add_zero] at e1 e2
  subst e1
  subst e2
  refine lv_dup hx hb dl_3 rfl ?_
  refine sw_ini hlt (k := 46) (K := [.ref a0]) ev1 rfl hx hb hml hown hall (sw_good2 mt_46.2.2.1) (hall _ lw9_ml67) mt_46 hall (by decide) (by decide) hw1 hS1 hA (lb_R f1 f2 f3 hS1) hq0 rfl hl.1 (Nat.le_of_ble_eq_true rfl) dl_4 (by show _ ≤ 601024; omega) (by show _ ≤ 7293034; omega) (fun z2 H2 locs2 hw2 hS2 => ?_)
  refine lv_astore_n (i := 1) hx hb dl_7 rfl hl (by decide) rfl (fun ls2 hl2 => ?_)
  have hq0 : ([] ++ z ++ z2)[0]? = some a0 := by rw [List.getElem?_append_left (List.getElem?_eq_some_iff.mp hq0).1]; exact hq0
  generalize hadE : [] ++ z ++ z2 = ad2 at hw2 hq0
  have hc2 : hp_c (hp_new hp_0 7 0 11) + (hp_c hC - hp_c (hp_new hp_0 7 0 11)) = hp_c hC := by omega
  have hs2 : hp_s (hp_new hp_0 7 0 11) + (hp_s hC - hp_s (hp_new hp_0 7 0 11)) = hp_s hC := by omega
  rw [hc2, hs2]
  refine sd_h tb_true.1 hx hb hml (own := "RouteHouseLaw") (rs := lb_rs) (Ts := tb_all) hown hall (i := .new 68) (L := List.replicate 7 .null) (st := []) (st' := [.ref hC.1.length]) (h := hC) (h' := hp_new hC 8 0 43) rfl dl_8 (fun _ => ⟨_, _, rfl, uw_8, hall _ lw9_cl68, hall _ lw9_in8, hall _ lw9_it8⟩) hw2 hS2 hA ⟨rfl, [], lv_sub hl2 [] rfl, hnull _⟩ trivial (by decide) (by decide) (c0 := 0) (s0 := 0) rfl rfl (by show hp_c hC + 1 ≤ 601024 + 0; omega) (by show hp_s hC + 43 ≤ 7293034 + 0; omega) (fun z3 H3 locs3 S3 c3 s3 hw3 hS3 hl3 e5 e6 => ?_)
  rw [hlen] at hl3
  obtain ⟨a2, K, hq5, rfl, hK⟩ := sd_l_r hl3
  cases K with
  | cons _ _ => exact False.elim hK
  | nil =>
  rw [Nat.add_zero] at e5 e6
  subst e5
  subst e6
  have hq0 : (ad2 ++ z3)[0]? = some a0 := by rw [List.getElem?_append_left (List.getElem?_eq_some_iff.mp hq0).1]; exact hq0
  refine lv_dup hx hb dl_11 rfl ?_
  refine sw_ini hlt (k := 73) (K := [.ref a2]) ev2 rfl hx hb hml hown hall (sw_good2 mt_73.2.2.1) (hall _ lw9_ml70) mt_73 hall (by decide) (by decide) hw3 hS3 hA (lb_R f1 f2 f3 hS3) hq5 rfl hl2.1 (Nat.le_of_ble_eq_true rfl) dl_12 (by show _ ≤ 601024; omega) (by show _ ≤ 7293034; omega) (fun z4 H4 locs4 hw4 hS4 => ?_)
  refine lv_astore_n (i := 2) hx hb dl_15 rfl hl2 (by decide) rfl (fun ls4 hl4 => ?_)
  have hq0 : (ad2 ++ z3 ++ z4)[0]? = some a0 := by rw [List.getElem?_append_left (List.getElem?_eq_some_iff.mp hq0).1]; exact hq0
  have hq5 : (ad2 ++ z3 ++ z4)[52]? = some a2 := by rw [List.getElem?_append_left (List.getElem?_eq_some_iff.mp hq5).1]; exact hq5
  generalize ad2 ++ z3 ++ z4 = ad at hw4 hq0 hq5
  have hc4 : hp_c (hp_new hC 8 0 43) + (hp_c hM - hp_c (hp_new hC 8 0 43)) = hp_c hM := by omega
  have hs4 : hp_s (hp_new hC 8 0 43) + (hp_s hM - hp_s (hp_new hC 8 0 43)) = hp_s hM := by omega
  rw [hc4, hs4]
  refine lv_iconst (v := 1) hx hb dl_16 (by decide) ?_
  refine sw_newl hx hb hall hw4 hS4 hA dl_17 (by show _ ≤ 601024; omega) (by show _ ≤ 7293034; omega) (fun qo H5 hw5 hc5 hS5 => ?_)
  refine lv_astore_n (i := 3) hx hb dl_19 rfl hl4 (by decide) rfl (fun ls5 hl5 => ?_)
  refine lv_iconst (v := 0) hx hb dl_20 (by decide) ?_
  refine lv_istore hx hb dl_21 hl5 (by decide) rfl (fun ls6 hl6 => ?_)
  refine lq_loop (A := fun q => s.heap.size ≤ q) hlt ⟨hx, hb, hml, hown, hall, hX, hbl, by omega, hA, f4, by omega⟩ hJ hk hq0 hq5 hst (fun n h f H locs ls cells slots hj9 S9 => ?_) (L / 6 + 1) 0 hM (fun _ => 0) H5 locs4 ls6 _ _ (by omega) (by omega) hj ⟨hw5, hc5, hS5, lb_R f1 f2 f3 hS5, lv_sub hl6 [4, 3, 2, 1, 0] rfl, rfl, rfl⟩
  obtain ⟨-, -, hS9, -, -, rfl, rfl⟩ := S9
  have m9 := hJ n h hj9
  refine lv_iconst (v := 1) hx hb dl_1069 (by decide) ?_
  refine va_forget (fun q hq => hS9.2.2 q hq) ?_
  refine W.widen (k := 601024) (n := 7293034) m9.1 m9.2 ?_
  exact lw_ret hx hb hr hlocks dl_1070
