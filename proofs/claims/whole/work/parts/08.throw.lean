section ThrowA
variable {l : Launch} {R : Room} {p : Program} {e : Env} {below : List Frame} {s : State} {args : Array Value} {m : MethodId} {meth : Method} {c : Code} {T : State} {locs : List Loc} {cells slots : Nat} {H : Heap}
-- the same frame, its method taken as begun in this heap
theorem sx_anew (X : Stand p l e R s m args below meth c T locs cells slots) {R2 : Room} (hf : R2.frames ≤ R.frames) (hl : R2.locals ≤ R.locals) (hc : cells + R2.cells ≤ R.cells) (hs : slots + R2.slots ≤ R.slots) :
    Stand p l e R2 ((T.setVm s.vm).setFrames (.invoking m args :: below)) m args below meth c T [] 0 0 := by
  obtain ⟨g0, hfr⟩ := X.frames_eq
  have hcur : (T.setVm s.vm).cur < (T.setVm s.vm).threads.size := State.cur_lt_of_frames hfr
  have hF : ((T.setVm s.vm).setFrames (.invoking m args :: below)).frames = .invoking m args :: below := State.frames_setFrames _ hcur
  have hU : ((T.setVm s.vm).setFrames (.invoking m args :: below)).localsInUse = s.localsInUse := by
    rw [State.localsInUse_invoking hF (meth := meth) (c := c) X.method X.code, State.localsInUse_invoking X.frames X.method X.code]
  have e1 : ((T.setVm s.vm).setFrames (.invoking m args :: below)).me.stackBytes = s.me.stackBytes := by
    rw [State.stackBytes_setFrames]; exact X.bytes
  have e2 : e.platform.stackLimits ((T.setVm s.vm).setFrames (.invoking m args :: below)).me = e.platform.stackLimits s.me := by
    rw [State.stackLimits_setFrames]; exact X.limits
  refine ⟨X.admits, X.cas, X.clock, hF, ?_, X.hears, X.method, X.code, X.here, X.tail, X.warmed, X.limits.trans e2.symm, X.bytes.trans e1.symm, ?_⟩
  · have h := X.room
    have q1 := X.heapSize
    have q2 := X.used
    have q3 := X.frames
    simp only [State.hasRoom, Bool.and_eq_true, decide_eq_true_eq] at h ⊢
    obtain ⟨⟨⟨⟨h1, h2, h3, h4, h5, h6⟩, h7⟩, h8⟩, h9⟩ := h
    rw [q3] at h2 h3
    refine ⟨⟨⟨⟨by rw [hU]; omega, by rw [hF]; simp only [List.length_cons] at h2 ⊢; omega, by rw [hF, e2]; simp only [List.length_cons] at h3 ⊢; omega, by rw [hU]; omega, by rw [hU, e2]; omega, by rw [e1]; exact h6⟩, ?_⟩, ?_⟩, X.book⟩
    · show T.heap.size + R2.cells ≤ e.platform.maxCells
      omega
    · show T.slotsUsed + R2.slots ≤ e.platform.maxSlots
      omega
  · obtain ⟨t, ht, -⟩ := State.frames_cons hF
    have h9 := (State.sameButNew.refl ((T.setVm s.vm).setFrames (.invoking m args :: below)) ht).setFrames T.frames (State.cur_lt_of_frames hF)
    rw [State.setFrames_setFrames] at h9
    have hfr9 : (T.setVm s.vm).setFrames T.frames = T.setVm s.vm := by
      obtain ⟨t2, ht2, -⟩ := State.frames_cons (s := T.setVm s.vm) hfr
      exact State.setFrames_self ht2
    rw [hfr9] at h9
    exact h9
theorem sx_word {s U : State} {a1 a2 : Array Value} {w : Jvm.Cond} (hW : s.WarmedH U.vm) (ho : w.onTables = true) (hk : w.keepsFace = true) (h : w.before a1 s = true) : w.before a2 U = true := by
  have h1 : w.before a1 (s.setVm U.vm) = true := Cond.before_shiftedFace (State.Shifted.of_warmed hW) _ hk h
  rw [Cond.onTables_vm (A' := a2) (U' := U) U.vm w ho] at h1
  rwa [State.setVm_self] at h1
theorem sx_same {s U : State} {k n : Nat} (h : s.sameButNew ({ U with vm := s.vm } : State) [] k n) : s.heap.size ≤ U.heap.size ∧ ∀ q : Nat, q < s.heap.size → U.heap[q]? = s.heap[q]? := by
  obtain ⟨-, h2, -, -, -, h6⟩ := h
  refine ⟨h2, fun q hq => ?_⟩
  obtain ⟨c9, e1, e2, e3, e4⟩ := h6 q _ (Array.getElem?_eq_getElem hq)
  have hs : c9.slots = (s.heap[q]).slots := Array.ext_getElem? fun i => e4 i (by simp)
  rw [hs] at e2
  have e1 : U.heap[q]? = some c9 := e1
  rw [e1, e2, Array.getElem?_eq_getElem hq]
set_option maxHeartbeats 2000000 in
-- throw new E("text")
theorem sx_throw {cc : ByteArray} {pc : Nat} {ls : Array Slot} {rest : List Value} (hexec : p.tables.exec = Jvm.exec) (hb : c.code = cc) (htl : l.stackTraces = false) {own cls text : String} {names : List String} {ik is ic mc ms sa : Nat} {free : Addr → Prop} {X9 : State → State → Prop}
    (hown : s.vm.findClass own = some m.cls) (hcls : Bundle.fit cls = true) (hnames : ∀ n ∈ names, Bundle.fit n = true)
    (hk : (Jvm.Cond.classLink own ik cls).before args s = true) (hini : (Jvm.Cond.initialized cls).before args s = true) (hins : (Jvm.Cond.instantiable cls 6).before args s = true) (hstr : vk_R own is text sa s)
    (hat : ∀ U : State, U.vm = s.vm → U.heap = H → ∀ w ∈ Bundle.ownAtoms own ic cls names, w.before args U = true) (hsize : ls.size = c.maxLocals)
    (d0 : decode cc pc = .ok (.new ik, 3)) (d3 : decode cc (pc + 3) = .ok (.dup, 1)) (d4 : decode cc (pc + 4) = .ok (.ldc is, 2)) (d6 : decode cc (pc + 6) = .ok (.invokespecial ic, 3)) (d9 : decode cc (pc + 9) = .ok (.athrow, 1))
    (hout : ∀ x ∈ c.exceptionTable.toList, False) (hRf : names.length + 3 < R.frames) (hRl : (rest.map fun v => v.category).sum + (13 * (names.length + 1) + 43) ≤ R.locals) (hRc : cells + 1 ≤ R.cells) (hRs : slots + 6 ≤ R.slots) (hlocks : meth.locks = false)
    (hx : ∀ t : State, s.vm.Alike t.vm → H.size ≤ t.heap.size → (∀ q : Nat, q < H.size → t.heap[q]? = H[q]?) → X9 s t) (hf : ∀ z ∈ locs, free z.base) (hc : cells + 1 ≤ mc) (hs : slots + 6 ≤ ms) :
    W p l e R s m args below meth c H locs cells slots (sx_Q below X9 cls s mc ms free) (F0 m pc ls rest) := by
  intro T hT X
  have htr : e.platform.stackTraces = false := by rw [X.admits.platform]; exact htl
  have Y := sx_anew X (R2 := { frames := R.frames, locals := R.locals, cells := 1, slots := 6 }) (Nat.le_refl _) (Nat.le_refl _) hRc hRs
  generalize hs9 : (T.setVm s.vm).setFrames (.invoking m args :: below) = s9 at Y
  have hvm9 : s9.vm = s.vm := by rw [← hs9]; rfl
  have hh9 : s9.heap = H := by rw [← hs9]; exact hT
  have hW9 : s.WarmedH s9.vm := by rw [hvm9]; exact State.WarmedH.refl s
  have hown9 : s9.vm.findClass own = some m.cls := by rw [hvm9]; exact hown
  have hw9 : ∀ w : Jvm.Cond, w.onTables = true → w.keepsFace = true → w.before args s = true → w.before args s9 = true := fun w h1 h2 h3 => sx_word hW9 h1 h2 h3
  have hins9 := hw9 _ rfl rfl hins
  have key : W p l e { frames := R.frames, locals := R.locals, cells := 1, slots := 6 } s9 m args below meth c H [] 0 0 (fun t => ∃ a : Addr, t.status = .running ∧ Ended t below (.threw a) ∧ s9.WarmedH t.vm ∧ s9.sameButNew ({ t with vm := s9.vm } : State) [] 1 6 ∧ ∃ ce : Cell, t.heap[a]? = some ce ∧ ce.vm = .none ∧ s9.vm.findClass cls = some ce.cls) (F0 m pc ls rest) := by
    refine W.newc hexec hb hown9 (hw9 _ rfl rfl hk) hins9 (hw9 _ rfl rfl hini) rfl d0 (Nat.le_refl _) (Nat.le_refl _) (fun cX kX h1 h2 h3 h4 => ?_)
    refine W.eq (g2 := F0 m (pc + 3) ls (.ref H.size :: rest)) rfl ?_
    refine lv_dup hexec hb d3 rfl ?_
    refine va_ldcS hexec hb hown9 (vk_R.warm hW9 hstr) d4 ?_
    intro T2 hT2 X2
    obtain ⟨U, hsteps, hrun, hend, hW, hsm, ce, hce, K⟩ := X2.ctorThrowS hexec htr (own := own) (cls := cls) (names := names) (ic := ic) hown9 hcls hnames (hat s9 hvm9 hh9) (fun _ h => by cases h) h1 h2 (a := H.size) (by rw [hT2]; simp [freshCell]) (by rw [hh9]; exact Nat.le_refl _) (msg := .ref sa) rfl
      (g := F0 m (pc + 6) ls (.ref sa :: .ref H.size :: .ref H.size :: rest)) rfl hsize rfl rfl (rest := rest) rfl (by rw [hb]; exact d6) (by rw [hb]; exact d9) (fun x hx => (hout x hx).elim) hRf
      (by have h0 : (F0 m (pc + 6) ls (.ref sa :: .ref H.size :: .ref H.size :: rest)).monitorRoom = 0 := rfl
          have h8 : (Value.ref H.size).category = 1 := rfl
          rw [h0, List.map_cons, List.sum_cons, h8]; show _ ≤ R.locals; omega) hlocks
    exact ⟨U, hsteps, H.size, hrun, hend, hW, hsm, ce, hce, K.vm, K.cls⟩
  obtain ⟨t, st, a, hrun, hend, hW, hsm, ce, hce, hcv, hcl⟩ := key T hT Y
  obtain ⟨z1, z2⟩ := sx_same hsm
  rw [hh9] at z1 z2
  refine ⟨t, st, a, hrun, hend, ce, locs, hx t ?_ z1 z2, hce, hcv, by rw [← hvm9]; exact hcl, ?_, ?_, hf⟩
  · rw [← hvm9]; exact hW.alike
  · have h1 : s9.WarmedH t.vm := hW
    rw [← hs9] at h1
    exact h1
  · rw [← hs9] at hsm
    obtain ⟨e1, e2⟩ := hsm
    rw [State.setFrames_setFrames] at e1
    have h2 : (T.setVm s.vm).sameButNew ({ t with vm := s.vm } : State) [] 1 6 := ⟨e1, e2⟩
    have h3 := X.same.trans h2
    rw [List.append_nil] at h3
    exact h3.mono hc hs
end ThrowA
