section CatchA
variable {e : Env} {d : Bool} {acts : List Action} {f : JFrame} {a : Addr}
-- one row of the table, her class linked at this moment
theorem sc_row {s : State} {Q : Handler → Pre} {E : CtlPost} {x : ExceptionTableEntry} {t : List ExceptionTableEntry} {c : ClassId} {cell : Cell} (hx : covers x f.pc = true) (h0 : x.catchType ≠ 0) (hl : s.vm.ClassLinks e.platform f.method.cls x.catchType c) (hcell : s.heap[a]? = some cell) (hobj : cell.vm = .none)
    (hk : ∃ k, s.vm.classes[cell.cls]? = some k) (hc : ∃ k, s.vm.classes[c]? = some k) :
    wp (findHandler.go f a (x :: t)) Q E e d acts s ↔ if s.vm.assignable cell.cls c = true then Q (.found x.handlerPc) d acts (s.setVm (s.vm.noted f.method.cls x.catchType (.cls c))) else wp (findHandler.go f a t) Q E e d acts (s.setVm (s.vm.noted f.method.cls x.catchType (.cls c))) := by
  simp only [covers] at hx
  obtain ⟨h1, h2⟩ := (resolveClass_links e.toSetting hl).op (op := VmOp.resolveClass f.method.cls x.catchType) rfl
  have hal : s.vm.Alike (s.vm.noted f.method.cls x.catchType (.cls c)) := (Vm.Alike.refl s.vm).noted _ _ _
  obtain ⟨k1, hk1⟩ := hk
  obtain ⟨k2, hk2⟩ := hc
  obtain ⟨k3, hk3, -⟩ := hal.2.2 _ _ hk1
  obtain ⟨k4, hk4, -⟩ := hal.2.2 _ _ hk2
  have hob : ∀ k, cell.vm ≠ .statics k := fun k h => by rw [hobj] at h; cases h
  have e9 := hal.assignable cell.cls c
  cases hfit : s.vm.assignable cell.cls c with
  | true => rw [hfit] at e9; simp [findHandler.go, hx, h0, h1, h2, hcell, hob, hk3, hk4, e9, VmOp.dirties, VmOp.acts]
  | false => rw [hfit] at e9; simp [findHandler.go, hx, h0, h1, h2, hcell, hob, hk3, hk4, e9, VmOp.dirties, VmOp.acts]
-- rows that let it pass, then the one that takes it
def sc_no (pl : Platform) (s : State) (dc : ClassId) (pc : Nat) (th : ClassId) (fit : Bool) (y : ExceptionTableEntry) : Prop := covers y pc = true ∧ y.catchType ≠ 0 ∧ ∃ c, s.vm.ClassLinks pl dc y.catchType c ∧ s.vm.assignable th c = fit
theorem sc_go {s : State} {cell : Cell} (hobj : cell.vm = .none) (hk0 : ∃ k, s.vm.classes[cell.cls]? = some k) {x : ExceptionTableEntry} {rest : List ExceptionTableEntry} (hx : sc_no e.platform s f.method.cls f.pc cell.cls true x) :
    ∀ (pre : List ExceptionTableEntry) (S : State), s.WarmedH S.vm → S.heap[a]? = some cell → (∀ y ∈ pre, sc_no e.platform s f.method.cls f.pc cell.cls false y) →
      ∃ v : Vm, s.WarmedH v ∧ ∀ (Q : Handler → Pre) (E : CtlPost) (d : Bool) (acts : List Action), wp (findHandler.go f a (pre ++ x :: rest)) Q E e d acts S ↔ Q (.found x.handlerPc) d acts (S.setVm v) := by
  have one : ∀ (y : ExceptionTableEntry) (b : Bool) (S : State), s.WarmedH S.vm → S.heap[a]? = some cell → sc_no e.platform s f.method.cls f.pc cell.cls b y →
      ∃ v : Vm, s.WarmedH v ∧ ∀ (t : List ExceptionTableEntry) (Q : Handler → Pre) (E : CtlPost) (d : Bool) (acts : List Action), wp (findHandler.go f a (y :: t)) Q E e d acts S ↔ if b = true then Q (.found y.handlerPc) d acts (S.setVm v) else wp (findHandler.go f a t) Q E e d acts (S.setVm v) := by
    intro y b S hW hcell hy
    obtain ⟨h1, h2, c, hl, hfit⟩ := hy
    obtain ⟨dk, _, _, kt, hd, _, _, _, _, hkt, _, hopen⟩ := hl.here
    obtain ⟨k0, hk0⟩ := hk0
    obtain ⟨k1, hk1, -⟩ := hW.alike.2.2 _ _ hk0
    obtain ⟨k2, hk2, -⟩ := hW.alike.2.2 _ _ hkt
    refine ⟨_, hW.noted hd hopen (State.rightAt_cls hl), fun t Q E d acts => ?_⟩
    rw [sc_row h1 h2 (hW.classLinks hl) hcell hobj ⟨k1, hk1⟩ ⟨k2, hk2⟩, hW.alike.assignable, hfit]
  intro pre
  induction pre with
  | nil =>
    intro S hW hcell _
    obtain ⟨v, h1, h2⟩ := one x true S hW hcell hx
    exact ⟨v, h1, fun Q E d acts => by rw [List.nil_append, h2]; simp⟩
  | cons y ys ih =>
    intro S hW hcell hp
    obtain ⟨v, h1, h2⟩ := one y false S hW hcell (hp y (List.mem_cons_self ..))
    obtain ⟨v2, h3, h4⟩ := ih (S.setVm v) h1 hcell (fun z hz => hp z (List.mem_cons_of_mem _ hz))
    exact ⟨v2, h3, fun Q E d acts => by rw [List.cons_append, h2]; simp only [Bool.false_eq_true, if_false]; rw [h4]; rfl⟩
end CatchA
section CatchB
variable {p : Program} {l : Launch} {e : Env} {R : Room} {s : State} {m : MethodId} {args : Array Value} {below : List Frame} {meth : Method} {c : Code} {H : Heap} {locs : List Loc} {cells slots : Nat} {Q : State → Prop}
theorem sc_step {S : State} {a : Addr} {g : JFrame} {r : List Frame} {pc : Nat} {v : Vm} (hf : ∀ (Q : Handler → Pre) (E : CtlPost) (d : Bool) (acts : List Action), wp (findHandler g a) Q E e d acts S ↔ Q (.found pc) d acts (S.setVm v)) :
    (stepThrowing e S a (.java g :: r)).Is ((S.setVm v).setFrames (.java { g with pc := pc, stack := [.ref a] } :: r)) [] := by
  simp only [stepThrowing, searchFrame, vmDo]
  generalize hr : Sem.go _ e false [] S = res
  obtain ⟨as, rfl, ha⟩ := Sem.eq_ok_of hr (a := Handler.found pc) (s' := S.setVm v) (acts' := []) (by simp [hf _ _ _ _])
  exact ⟨rfl, ha⟩
-- caught here
theorem sc_catch {pc : Nat} {ls : Array Slot} {rest : List Value} {own E nm : String} {ce : Cell} {q : Addr} (hown : s.vm.findClass own = some m.cls) (pre : List ExceptionTableEntry) (x : ExceptionTableEntry) (suf : List ExceptionTableEntry) (hsplit : c.exceptionTable.toList = pre ++ x :: suf)
    (hpass : ∀ y ∈ pre, covers y pc = true ∧ y.catchType ≠ 0 ∧ ∃ n2 : String, (Jvm.Cond.classLink own y.catchType n2).before args s = true ∧ va_Nc E n2 s) (hx : covers x pc = true) (h0 : x.catchType ≠ 0)
    (hlink : (Jvm.Cond.classLink own x.catchType nm).before args s = true) (hcast : (Jvm.Cond.castable E nm).before args s = true) (hcell : H[q]? = some ce) (hv : ce.vm = .none) (hcl : s.vm.findClass E = some ce.cls)
    (kk : W p l e R s m args below meth c H locs cells slots Q (F0 m x.handlerPc ls [.ref q])) : sx_W p l e R s m args below meth c H locs cells slots Q (F0 m pc ls rest) q := by
  intro T hT X
  have hpl : e.platform.magicAccessors = ({} : Platform).magicAccessors := by rw [X.admits.platform]
  obtain ⟨k9, hk9, -⟩ := Vm.findClass_spec hcl
  have hxx : sc_no e.platform s m.cls pc ce.cls true x := by
    obtain ⟨c5, hc5, hl5⟩ := Cond.classLink_spec hown hlink e.platform hpl
    obtain ⟨c3, c4, hc3, hc4, has⟩ := Cond.castable_spec hcast
    cases Option.some.inj (hc3.symm.trans hcl)
    cases Option.some.inj (hc4.symm.trans hc5)
    exact ⟨hx, h0, _, hl5, has⟩
  have hpp : ∀ y ∈ pre, sc_no e.platform s m.cls pc ce.cls false y := by
    intro y hy
    obtain ⟨h1, h2, n2, h3, h4⟩ := hpass y hy
    obtain ⟨c5, hc5, hl5⟩ := Cond.classLink_spec hown h3 e.platform hpl
    obtain ⟨c6, c7, h6, h7, h8⟩ := h4
    cases Option.some.inj (h6.symm.trans hcl)
    cases Option.some.inj (h7.symm.trans hc5)
    exact ⟨h1, h2, _, hl5, h8⟩
  have hcur : T.cur < T.threads.size := by obtain ⟨g0, hfr⟩ := X.frames_eq; exact State.cur_lt_of_frames hfr
  obtain ⟨v, hW, hf⟩ := sc_go (e := e) (f := F0 m pc ls rest) (a := q) (s := s) hv ⟨k9, hk9⟩ (rest := suf) hxx pre ((T.setTop (F0 m pc ls rest)).pushFrame (.throwing q)) X.warmed (by show T.heap[q]? = some ce; rw [hT]; exact hcell) hpp
  have hfind : ∀ (Q : Handler → Pre) (E : CtlPost) (d : Bool) (acts : List Action), wp (findHandler (F0 m pc ls rest) q) Q E e d acts ((T.setTop (F0 m pc ls rest)).pushFrame (.throwing q)) ↔ Q (.found x.handlerPc) d acts (((T.setTop (F0 m pc ls rest)).pushFrame (.throwing q)).setVm v) := by
    intro Q E d acts
    rw [W.findHandler_eq (meth := meth) (code := c) X.method' X.code, hsplit]
    exact hf Q E d acts
  obtain ⟨t, a1, b1⟩ := kk (T.setVm v) hT (X.noted hW)
  refine ⟨t, ?_, b1⟩
  obtain ⟨hgo, hw⟩ := X.here.throwing (g := F0 m pc ls rest) q
  refine Steps.head hgo hw ?_
  rw [stepThread_throwing (frames_entered X.here.top _), (sc_step hfind).1]
  obtain ⟨g₀, hg⟩ := Option.isSome_iff_exists.mp X.here.top
  obtain ⟨r, hr⟩ := State.topJava?_eq_some.mp hg
  have hr2 : (T.setVm v).frames = .java g₀ :: r := hr
  rw [State.setTop_of_frames _ hr2] at a1
  have e1 : ∀ (u : State) (F G : List Frame), ((u.setFrames F).setVm v).setFrames G = (u.setVm v).setFrames G := by
    intro u F G
    have h9 : (u.setFrames F).setVm v = (u.setVm v).setFrames F := rfl
    rw [h9, State.setFrames_setFrames]
  rw [hr, List.tail_cons, State.pushFrame, e1, State.setTop_of_frames _ hr, e1]
  exact a1
end CatchB
