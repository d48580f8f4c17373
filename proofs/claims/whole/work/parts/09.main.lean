section MainA
theorem ev_h_c {rs : Nat → ev_R} {i : Instr} {st st' : List Value} {h h' : hp_T} (hs : ev_h rs i st h = some (st', h')) : hp_c h ≤ hp_c h' ∧ hp_s h ≤ hp_s h' := by
  unfold ev_h at hs
  repeat' split at hs
  all_goals first
    | (cases hs; done)
    | (simp only [Option.some.injEq, Prod.mk.injEq] at hs
       obtain ⟨-, rfl⟩ := hs
       first
         | exact ⟨Nat.le_refl _, Nat.le_refl _⟩
         | (simp only [hp_c, hp_s, hp_new]; omega))
theorem ev_h_sw {rs : Nat → ev_R} {i : Instr} {st : List Value} {h : hp_T} (hi : ev_sw i = true) : ev_h rs i st h = none := by
  cases i <;> first | rfl | cases hi
theorem ev_1_c {call : Nat → List Value → hp_T → Option ev_O} (hcall : ∀ k as h o, call k as h = some o → hp_c h ≤ hp_c o.2 ∧ hp_s h ≤ hp_s o.2) : ∀ (f k pc : Nat) (L st : List Value) (h : hp_T) (o : ev_O), ev_1 call f k pc L st h = some o → hp_c h ≤ hp_c o.2 ∧ hp_s h ≤ hp_s o.2 := by
  intro f
  induction f with
  | zero => intro k pc L st h o hs; cases hs
  | succ f ih =>
    intro k pc L st h o hs
    rw [ev_1_s] at hs
    unfold ev_b at hs
    split at hs
    · cases hs
    · split at hs
      · exact ih _ _ _ _ _ _ hs
      · split at hs
        · rename_i st2 h2 hh
          have h1 := ev_h_c hh
          have h2 := ih _ _ _ _ _ _ hs
          exact ⟨Nat.le_trans h1.1 h2.1, Nat.le_trans h1.2 h2.2⟩
        · repeat' split at hs
          all_goals first
            | (cases hs; done)
            | (cases hs; exact ⟨Nat.le_refl _, Nat.le_refl _⟩)
            | (cases hs; simp only [hp_c, hp_s, hp_thr]; omega)
            | (rename_i hc9
               have h1 := hcall _ _ _ _ hc9
               have h2 := ih _ _ _ _ _ _ hs
               exact ⟨Nat.le_trans h1.1 h2.1, Nat.le_trans h1.2 h2.2⟩)
            | (rename_i hc9
               have h1 := hcall _ _ _ _ hc9
               cases hs
               exact h1)
theorem ev_m_c : ∀ (d f k : Nat) (as : List Value) (h : hp_T) (o : ev_O), ev_m d f k as h = some o → hp_c h ≤ hp_c o.2 ∧ hp_s h ≤ hp_s o.2 := by
  intro d
  induction d with
  | zero => intro f k as h o hs; cases hs
  | succ d ih =>
    intro f k as h o hs
    rw [ev_m] at hs
    split at hs
    · exact ev_1_c (fun k as h o => ih f k as h o) _ _ _ _ _ _ _ hs
    · cases hs
-- which cells a method may change: the world's, and those that it makes
def sd_fr (ad : List Nat) (sz : Nat) : Nat → Prop := fun q => q ∈ ad ∨ sz ≤ q
theorem sd_w_at {D : va_G} {A : Nat → Prop} {ad : List Nat} {h : hp_T} {U : State} {H : Heap} (hw : sd_w D A ad h U H) : ∀ q, q ∈ ad → A q ∧ q < H.size := by
  obtain ⟨ws, tys, hK, hP, hD, hlw, hla, hr⟩ := hw
  intro q hq
  obtain ⟨i, hi⟩ := List.getElem?_of_mem hq
  have hlt : i < h.1.length := by rw [← hla]; exact (List.getElem?_eq_some_iff.mp hi).1
  obtain ⟨a, E, h1, h2, -⟩ := hr i (h.1[i]).1 (h.1[i]).2 (by unfold hp_k; rw [List.getElem?_eq_getElem hlt])
  cases Option.some.inj (h1.symm.trans hi)
  exact ⟨hD.2 i _ h2, (hP i _ h2).lt⟩
theorem sd_w_own {D : va_G} {A B : Nat → Prop} {ad : List Nat} {h : hp_T} {U : State} {H : Heap} (hw : sd_w D A ad h U H) (hB : ∀ q, q ∈ ad → B q) : sd_w D B ad h U H := by
  obtain ⟨ws, tys, hK, hP, hD, hlw, hla, hr⟩ := hw
  refine ⟨ws, tys, hK, hP, ⟨hD.1, fun k q hk => ?_⟩, hlw, hla, hr⟩
  have hlt : k < h.1.length := by rw [← hlw]; exact (List.getElem?_eq_some_iff.mp hk).1
  obtain ⟨a, E, h1, h2, -⟩ := hr k (h.1[k]).1 (h.1[k]).2 (by unfold hp_k; rw [List.getElem?_eq_getElem hlt])
  cases Option.some.inj (h2.symm.trans hk)
  exact hB _ (List.mem_of_getElem? h1)
theorem sd_w_moved {D : va_G} {A : Nat → Prop} {ad : List Nat} {h : hp_T} {U V : State} {H : Heap} (hv : U.vm.Alike V.vm) (hw : sd_w D A ad h U H) : sd_w D A ad h V H := by
  obtain ⟨ws, tys, hK, hr⟩ := hw
  exact ⟨ws, tys, va_K.moved hv hK, hr⟩
theorem sd_w_kept {D : va_G} {A : Nat → Prop} {ad : List Nat} {h : hp_T} {U : State} {H H1 : Heap} (hw : sd_w D A ad h U H) (hq : ∀ q : Nat, q < H.size → H1[q]? = H[q]?) : sd_w D A ad h U H1 := by
  obtain ⟨ws, tys, hK, hP, hr⟩ := hw
  exact ⟨ws, tys, hK, hP.kept (fun k q hk => hq _ (hP k q hk).lt), hr⟩
theorem sd_w_ns {D : va_G} {A : Nat → Prop} {ad : List Nat} {h : hp_T} {U : State} {H : Heap} (hw : sd_w D A ad h U H) : ∀ q, q ∈ ad → ∀ cell : Cell, H[q]? = some cell → cell.vm.isStatics = false := by
  obtain ⟨ws, tys, hK, hP, hD, hlw, hla, hr⟩ := hw
  intro q hq cell hcell
  obtain ⟨i, hi⟩ := List.getElem?_of_mem hq
  have hlt : i < h.1.length := by rw [← hla]; exact (List.getElem?_eq_some_iff.mp hi).1
  obtain ⟨a, E, h1, h2, -⟩ := hr i (h.1[i]).1 (h.1[i]).2 (by unfold hp_k; rw [List.getElem?_eq_getElem hlt])
  cases Option.some.inj (h1.symm.trans hi)
  have h3 := hP i _ h2
  cases E with
  | inl x =>
    have h4 : H[q]? = some (vp_cell x.1 x.2) := h3
    rw [h4] at hcell
    cases hcell
    obtain ⟨c9, n9, f9⟩ := x
    rcases f9 with f | f | f | f | f <;> rfl
  | inr x =>
    obtain ⟨r, -, cell2, h4, -, h5, -⟩ := h3
    have h4 : H[q]? = some cell2 := h4
    rw [h4] at hcell
    cases hcell
    rw [h5]; rfl
def tb_ao : List String := ["RouteHouse$Port", "RouteHouse$Waiting"]
def sd_a (U : State) : Prop := (∀ w ∈ lw_tbl, w.onTables = true → w.keepsFace = true → w.before #[] U = true) ∧ ∀ C ∈ tb_ao, va_AO C U
def sd_g (U : State) : Prop := ∀ q ∈ tb_str, ∃ sa : Nat, vk_R q.1 q.2.1 q.2.2 sa U
def sd_Pc (D : va_G) (ad : List Nat) (h : hp_T) (sz : Nat) (as : List Value) : Array Value → State → Prop := va_Pc as (fun U => U.heap.size = sz ∧ sd_w D (sd_fr ad sz) ad h U U.heap ∧ sx_h U ∧ sd_a U ∧ sd_g U)
def sd_Qc (D : va_G) (ad : List Nat) (sz : Nat) (o : ev_O) : Array Value → State → Outcome → State → Prop := fun _ st oc t => ∃ (v w : Option Value) (z : List Nat), o.1 = .inl v ∧ oc = .returned w ∧ sd_l (ad ++ z) v.toList w.toList ∧ sd_w D (sd_fr ad sz) (ad ++ z) o.2 t t.heap ∧ va_F (sd_fr ad sz) st t
def sd_X (D : va_G) (ad : List Nat) (sz : Nat) (h : hp_T) : State → State → Prop := fun st t => ∃ z : List Nat, sd_w D (sd_fr ad sz) (ad ++ z) h t t.heap ∧ va_F (sd_fr ad sz) st t
def sd_rm (k mc ms : Nat) : Room := { frames := tb_rf k, cells := mc, slots := ms, locals := tb_rl k }
def sd_ws (k : Nat) : List Jvm.Cond := .code (tb_y k) (tb_b k) (tb_ml k) (tb_rt k) :: tb_all
def sd_Mt (l : Launch) (D : va_G) (k : Nat) (ad : List Nat) (h : hp_T) (sz : Nat) (as : List Value) (o : ev_O) : Prop := ∀ mc ms : Nat, mc + hp_c h = hp_c o.2 → ms + hp_s h = hp_s o.2 →
  (∀ v, o.1 = .inl v → Met l (tb_y k) (sd_ws k) (sd_rm k mc ms) (sd_Pc D ad h sz as) (sd_Qc D ad sz o) mc ms (sd_fr ad sz)) ∧
  (∀ q, o.1 = .inr q → sx_Met l (tb_y k) (sd_ws k) (sd_rm k mc ms) (sd_Pc D ad h sz as) (sd_X D ad sz o.2) (tb_xn q) mc ms (sd_fr ad sz))
def sd_MQ (below : List Frame) (D : va_G) (ad : List Nat) (sz : Nat) (o : ev_O) (args : Array Value) (s : State) (mc ms : Nat) : State → Prop := match o.1 with
  | .inl _ => MQ below (sd_Qc D ad sz o) args s mc ms (sd_fr ad sz)
  | .inr q => sx_Q below (sd_X D ad sz o.2) (tb_xn q) s mc ms (sd_fr ad sz)
theorem sd_Pc_blind {D : va_G} {ad : List Nat} {h : hp_T} {sz : Nat} {as : List Value} : FrameBlind (sd_Pc D ad h sz as) := by
  intro a U g mk hp
  obtain ⟨h1, h2, h3, h4, h5, h6⟩ := hp
  refine ⟨h1, h2, sd_w_moved (Vm.Alike.refl U.vm) h3, sx_hmoved h4 (Vm.Alike.refl U.vm) (fun _ _ h9 _ => h9), ⟨fun w hw ho hk => ?_, fun C hC => va_AO.moved (Vm.Alike.refl U.vm) (h5.2 C hC)⟩, fun q hq => ?_⟩
  · exact sx_word (s := U) (U := U.calling g mk a) (State.WarmedH.refl U) ho hk (h5.1 w hw ho hk)
  · obtain ⟨sa, h7⟩ := h6 q hq
    exact ⟨sa, vk_R.same rfl h7⟩
-- what the tables say of a call and of a throw
def sd_B (k0 k : Nat) (own : String) (args : Array Value) (s : State) (x : Nat) : Prop := tb_ok k = true ∧ (Jvm.Cond.methodLink own x (tb_y k)).before args s = true ∧ (Jvm.Cond.initialized (tb_y k).cls).before args s = true ∧ Jvm.Cond.code (tb_y k) (tb_b k) (tb_ml k) (tb_rt k) ∈ tb_all ∧ ((tb_y k).cls ≠ "java/lang/invoke/MethodHandle" ∧ (tb_y k).cls ≠ "java/lang/invoke/VarHandle" ∧ (parseMethodDescriptor (tb_y k).desc).map (fun d => d.parameters.length) = some (tb_na k)) ∧ (tb_rf k + 1 ≤ tb_rf k0 ∧ 8 + (tb_ml k + 11) + tb_rl k ≤ tb_rl k0)
def sd_k (k0 : Nat) (own : String) (rs : Nat → ev_R) (args : Array Value) (s : State) (i : Instr) : Prop := match i with
  | .invokevirtual x => (rs x).1 = 2 → sd_B k0 (rs x).2.1 own args s x ∧ (∃ (T : u_T) (N : Nat), vwCl[tb_ci (rs x).2.1]? = some ((tb_y (rs x).2.1).cls, T, N)) ∧ (Jvm.Cond.instanceMethod (tb_y (rs x).2.1)).before args s = true ∧ (Jvm.Cond.selects (tb_y (rs x).2.1).cls (tb_y (rs x).2.1) (tb_y (rs x).2.1)).before args s = true
  | .invokespecial x => (rs x).1 = 2 → sd_B k0 (rs x).2.1 own args s x ∧ (tb_y (rs x).2.1).name = "<init>" ∧ tb_rt (rs x).2.1 = none ∧ (Jvm.Cond.instanceMethod (tb_y (rs x).2.1)).before args s = true
  | .invokestatic x => (rs x).1 = 2 → sd_B k0 (rs x).2.1 own args s x ∧ (Jvm.Cond.static (tb_y (rs x).2.1)).before args s = true
  | _ => True
def sd_t (k0 : Nat) (own : String) (rs : Nat → ev_R) (b : ByteArray) (pc : Nat) (i : Instr) : Prop := match i with
  | .new x => (rs x).1 = 9 → ∃ (cls text : String) (names : List String) (is ic : Nat), cls = tb_xn (rs x).2.1 ∧ Bundle.fit cls = true ∧ (∀ n ∈ names, Bundle.fit n = true) ∧ names.length + 3 < tb_rf k0 ∧ 8 + (13 * (names.length + 1) + 43) ≤ tb_rl k0 ∧ Jvm.Cond.classLink own x cls ∈ lw_tbl ∧ Jvm.Cond.initialized cls ∈ lw_tbl ∧ Jvm.Cond.instantiable cls 6 ∈ lw_tbl ∧ (own, is, text) ∈ tb_str ∧
      (∀ (U : State) (args : Array Value), sx_h U → sd_a U → ∀ w ∈ Bundle.ownAtoms own ic cls names, w.before args U = true) ∧ decode b (pc + 3) = .ok (.dup, 1) ∧ decode b (pc + 4) = .ok (.ldc is, 2) ∧ decode b (pc + 6) = .ok (.invokespecial ic, 3) ∧ decode b (pc + 9) = .ok (.athrow, 1)
  | _ => True
def sd_tb : Prop := sd_cl ∧ (∀ w ∈ tb_all, (w.onTables && w.keeps) = true ∨ ∃ ty, w = Jvm.Cond.arrayClass ty) ∧ ∀ k, tb_ok k = true → plainName (tb_y k).cls = true ∧ tb_own k = (tb_y k).cls ∧ (1 ≤ tb_rf k ∧ 60 ≤ tb_rl k) ∧
  (∀ pc i, tb_ins k pc = some i → ∃ n, decode (tb_b k) pc = .ok (i, n) ∧ (n = ev_len i ∨ ev_sw i = true)) ∧
  ∀ (args : Array Value) (s : State), (∀ w ∈ sd_ws k, w.before args s = true) → sd_a s → ∀ pc i, tb_ins k pc = some i → sd_i (sd_ws k) (tb_own k) (tb_rs k) args s (tb_y k).name i ∧ sd_k k (tb_own k) (tb_rs k) args s i ∧ sd_t k (tb_own k) (tb_rs k) (tb_b k) pc i
end MainA
section MainB
variable {p : Program} {l : Launch} {e : Env} {R : Room} {s : State} {m : MethodId} {args : Array Value} {below : List Frame} {meth : Method} {c : Code} {H : Heap} {locs : List Loc} {cells slots mc ms : Nat} {Q : State → Prop} {free : Addr → Prop} {pc : Nat} {ls : Array Slot} {st0 rest : List Value} {Qa : State → Outcome → State → Prop}
theorem sd_callR (hr : va_Run p l e R s m args below meth c H locs cells slots mc ms (F0 m pc ls st0) rest Qa free)
    (kk : ∀ (v : Option Value) (st₀ t : State) (H1 : Heap) (L : List Loc), st₀.heap = H → t.heap = H1 → s.vm.Alike t.vm → Qa st₀ (.returned v) t → (∀ q ∈ L, free q.base) → W p l e R s m args below meth c H1 (locs ++ L) (cells + mc) (slots + ms) Q (F0 m (pc + 3) ls (v.toList ++ rest))) : W p l e R s m args below meth c H locs cells slots Q (F0 m pc ls st0) := by
  intro T hT X
  obtain ⟨v, st₀, t, T', L, h0, X', hL, e1, e2, hq, st⟩ := hr T hT X
  obtain ⟨t2, a1, b1⟩ := kk v st₀ t T'.heap L h0 e1.symm (by rw [← e2]; exact X'.warmed.alike) hq hL T' rfl X'
  exact ⟨t2, st t2 a1, b1⟩
theorem sd_keepS {A0 A1 : Nat → Prop} {H0 H1 : Heap} {st₀ t : State} {L : List Loc} (h0 : st₀.heap = H) (e1 : t.heap = H1) (hS : va_S A0 H0 H locs) (hA : ∀ q, A1 q → A0 q) (hL : ∀ q ∈ L, A1 q.base) (hF : va_F A1 st₀ t) : va_S A0 H0 H1 (locs ++ L) := by
  obtain ⟨hz, hk⟩ := hF
  rw [h0, e1] at hz
  rw [h0, e1] at hk
  refine ⟨Nat.le_trans hS.1 hz, fun q h1 h2 => ?_, fun q hq => ?_⟩
  · rw [hk q (Nat.lt_of_lt_of_le h1 hS.1) (fun z => h2 (hA q z))]
    exact hS.2.1 q h1 h2
  · rcases List.mem_append.mp hq with h | h
    · exact hS.2.2 q h
    · exact hA _ (hL q h)
end MainB
