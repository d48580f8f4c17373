section LongA
variable {p : Program} {l : Launch} {e : Env} {R : Room} {s : State} {m : MethodId} {args : Array Value} {below : List Frame} {meth : Method} {c : Code} {H : Heap} {locs : List Loc} {cells slots : Nat} {Q : State → Prop} {cc : ByteArray} {nL pc : Nat} {ls : Array Slot} {rest : List Value} {D : va_G} {A : Nat → Prop} {ad : List Nat} {h h2 : hp_T} {qo : Nat} {f : Nat → Int64}
-- the law's long[1]
def sw_c (D : va_G) (A : Nat → Prop) (ad : List Nat) (qo : Nat) (f : Nat → Int64) (s : State) (H : Heap) : Prop := ∃ cL : ClassId, va_K D vwCl [(cL, .long)] s ∧ va_P D vwCl [(qo, .inl (cL, 1, .inr (.inl f)))] H ∧ A qo ∧ qo ∉ ad
theorem sw_clt (h : sw_c D A ad qo f s H) : qo < H.size := by
  obtain ⟨cL, -, h2, -⟩ := h
  exact (h2 0 _ rfl).lt
theorem sw_ck {H1 : Heap} (h : sw_c D A ad qo f s H) (hk : ∀ q, q < H.size → q ∉ ad → H1[q]? = H[q]?) : sw_c D A ad qo f s H1 := by
  have hlt := sw_clt h
  obtain ⟨cL, h1, h2, h3, h4⟩ := h
  refine ⟨cL, h1, h2.kept (fun k q hq => ?_), h3, h4⟩
  have hm := List.mem_of_getElem? hq
  simp only [List.mem_cons, List.not_mem_nil, or_false] at hm
  subst hm
  exact hk qo hlt h4
theorem sw_cmoved {U : State} (hv : s.vm.Alike U.vm) (h : sw_c D A ad qo f s H) : sw_c D A ad qo f U H := by
  obtain ⟨cL, h1, h2⟩ := h
  exact ⟨cL, va_K.moved hv h1, h2⟩
theorem sw_cown {B : Nat → Prop} (h : sw_c D A ad qo f s H) (hB : B qo) : sw_c D B ad qo f s H := by
  obtain ⟨cL, h1, h2, h3, h4⟩ := h
  exact ⟨cL, h1, h2, hB, h4⟩
theorem sw_z {z : List Nat} (hw : sd_w D A ad h s H) {H1 : Heap} {U : State} (hw2 : sd_w D A (ad ++ z) h2 U H1) (hk : h2.1 = h.1) : z = [] := by
  obtain ⟨ws, tys, -, -, -, -, h1, -⟩ := hw
  obtain ⟨ws2, tys2, -, -, -, -, h3, -⟩ := hw2
  rw [hk, ← h1, List.length_append] at h3
  exact List.eq_nil_of_length_eq_zero (by omega)
theorem sw_both (hw : sd_w D A ad h s H) (hc : sw_c D A ad qo f s H) : ∃ (ws : va_W) (tys : List (ClassId × FieldType)) (cL : ClassId), va_K D vwCl (tys ++ [(cL, .long)]) s ∧ va_P D vwCl (ws ++ [(qo, .inl (cL, 1, .inr (.inl f)))]) H ∧ va_D A (ws ++ [(qo, .inl (cL, 1, .inr (.inl f)))]) ∧ sd_r ad h tys ws ∧ va_K D vwCl tys s ∧ va_K D vwCl [(cL, .long)] s ∧ qo ∉ ad := by
  obtain ⟨ws, tys, hK, hP, hD, hr⟩ := hw
  obtain ⟨cL, h1, h2, h3, h4⟩ := hc
  refine ⟨ws, tys, cL, hK.app h1, hP.app h2, hD.app ⟨fun i j p q hi hj _ => ?_, fun k q hk => ?_⟩ (fun i j p q hi hj he => ?_), hr, hK, h1, h4⟩
  · have h5 := (List.getElem?_eq_some_iff.mp hi).1
    have h6 := (List.getElem?_eq_some_iff.mp hj).1
    simp only [List.length_cons, List.length_nil] at h5 h6
    omega
  · have hm := List.mem_of_getElem? hk
    simp only [List.mem_cons, List.not_mem_nil, or_false] at hm
    subst hm
    exact h3
  · have hm := List.mem_of_getElem? hj
    simp only [List.mem_cons, List.not_mem_nil, or_false] at hm
    subst hm
    obtain ⟨hlw, hla, hr9⟩ := hr
    have hlt : i < h.1.length := by rw [← hlw]; exact (List.getElem?_eq_some_iff.mp hi).1
    obtain ⟨a, E, g1, g2, -⟩ := hr9 i (h.1[i]).1 (h.1[i]).2 (by unfold hp_k; rw [List.getElem?_eq_getElem hlt])
    cases Option.some.inj (g2.symm.trans hi)
    have he : a = qo := he
    exact h4 (by rw [← he]; exact List.mem_of_getElem? g1)
theorem sw_split {ws : va_W} {tys : List (ClassId × FieldType)} {cL : ClassId} (hP : va_P D vwCl (ws ++ [(qo, .inl (cL, 1, .inr (.inl f)))]) H) (hD : va_D A (ws ++ [(qo, .inl (cL, 1, .inr (.inl f)))])) (hr : sd_r ad h tys ws) (hK : va_K D vwCl tys s) (h1 : va_K D vwCl [(cL, .long)] s) (h4 : qo ∉ ad) : sd_w D A ad h s H ∧ sw_c D A ad qo f s H := by
  have el : ∀ (k : Nat) (q : Nat × va_E), ws[k]? = some q → (ws ++ [(qo, .inl (cL, 1, .inr (.inl f)))])[k]? = some q := fun k q hk => by rw [List.getElem?_append_left (List.getElem?_eq_some_iff.mp hk).1]; exact hk
  have er : (ws ++ [(qo, (.inl (cL, 1, .inr (.inl f)) : va_E))])[ws.length]? = some (qo, .inl (cL, 1, .inr (.inl f))) := by rw [List.getElem?_append_right (Nat.le_refl _)]; simp
  refine ⟨⟨ws, tys, hK, fun k q hk => hP k q (el k q hk), ⟨fun i j p q hi hj he => hD.1 i j p q (el i p hi) (el j q hj) he, fun k q hk => hD.2 k q (el k q hk)⟩, hr⟩, cL, h1, fun k q hk => ?_, hD.2 _ _ er, h4⟩
  have hm := List.mem_of_getElem? hk
  simp only [List.mem_cons, List.not_mem_nil, or_false] at hm
  subst hm
  exact hP _ _ er
theorem sw_last (hx : p.tables.exec = Jvm.exec) (hb : c.code = cc) (hw : sd_w D A ad h s H) (hc : sw_c D A ad qo f s H) (hSt : va_S A s.heap H locs) {x : Int64} (hdg : decode cc pc = .ok (.lastore, 1))
    (kk : ∀ (H1 : Heap) (locs1 : List Loc), sd_w D A ad h s H1 → sw_c D A ad qo (vp_updL f 0 x) s H1 → va_S A s.heap H1 locs1 → W p l e R s m args below meth c H1 locs1 cells slots Q (F0 m (pc + 1) ls rest)) : W p l e R s m args below meth c H locs cells slots Q (F0 m pc ls (.long x :: .int 0 :: .ref qo :: rest)) := by
  obtain ⟨ws, tys, cL, h1, h2, h3, h4, h5, h6, h7⟩ := sw_both hw hc
  have g1 : (ws ++ [(qo, (.inl (cL, 1, .inr (.inl f)) : va_E))])[ws.length]? = some (qo, .inl (cL, 1, .inr (.inl f))) := by rw [List.getElem?_append_right (Nat.le_refl _)]; simp
  have g2 : (tys ++ [(cL, FieldType.long)])[tys.length]? = some (cL, .long) := by rw [List.getElem?_append_right (Nat.le_refl _)]; simp
  refine va_last hx hb h1 h2 h3 hSt ws.length tys.length g1 g2 (i := 0) (vp_in_nI (n := 0) (by decide) (by decide)) hdg (fun H1 locs1 hP1 hD1 hS1 => ?_)
  rw [List.set_append_right _ _ (Nat.le_refl _)] at hP1 hD1
  simp only [Nat.sub_self, List.set_cons_zero] at hP1 hD1
  obtain ⟨g1, g2⟩ := sw_split hP1 hD1 h4 h5 h6 h7
  exact kk H1 locs1 g1 g2 hS1
theorem sw_lald (hx : p.tables.exec = Jvm.exec) (hb : c.code = cc) (hc : sw_c D A ad qo f s H) (hdg : decode cc pc = .ok (.laload, 1))
    (kk : W p l e R s m args below meth c H locs cells slots Q (F0 m (pc + 1) ls (.long (f 0) :: rest))) : W p l e R s m args below meth c H locs cells slots Q (F0 m pc ls (.int 0 :: .ref qo :: rest)) := by
  obtain ⟨cL, h1, h2, h3, h4⟩ := hc
  exact va_lald hx hb h1 h2 0 0 rfl rfl (i := 0) (vp_in_nI (n := 0) (by decide) (by decide)) hdg kk
-- what a wrapper of the law is called with, and what it leaves
def sw_n (U : State) : Prop := va_Nc "java/lang/IndexOutOfBoundsException" "java/lang/IllegalArgumentException" U ∧ va_Nc "java/lang/IllegalArgumentException" "java/lang/IndexOutOfBoundsException" U ∧ va_Nc "java/lang/UnsupportedOperationException" "java/lang/IllegalArgumentException" U ∧ va_Nc "java/lang/UnsupportedOperationException" "java/lang/IndexOutOfBoundsException" U
theorem sw_nmoved {U V : State} (hv : U.vm.Alike V.vm) (h : sw_n U) : sw_n V := ⟨va_Nc.moved hv h.1, va_Nc.moved hv h.2.1, va_Nc.moved hv h.2.2.1, va_Nc.moved hv h.2.2.2⟩
def sw_P (D : va_G) (ad : List Nat) (h : hp_T) (qo : Nat) (f : Nat → Int64) (sz : Nat) (as : List Value) : Array Value → State → Prop := va_Pc as (fun U => U.heap.size = sz ∧ sd_w D (sd_fr (qo :: ad) sz) ad h U U.heap ∧ sw_c D (sd_fr (qo :: ad) sz) ad qo f U U.heap ∧ sx_h U ∧ sd_a U ∧ sd_g U ∧ sw_n U)
def sw_Q (D : va_G) (ad : List Nat) (h : hp_T) (qo sz : Nat) (r : Int32) (g : (Nat → Int64) → Prop) : Array Value → State → Outcome → State → Prop := fun _ st oc t => ∃ f : Nat → Int64, g f ∧ oc = .returned (some (.int r)) ∧ sd_w D (sd_fr (qo :: ad) sz) ad h t t.heap ∧ sw_c D (sd_fr (qo :: ad) sz) ad qo f t t.heap ∧ va_F (sd_fr (qo :: ad) sz) st t
theorem sw_Pblind {sz : Nat} {as : List Value} : FrameBlind (sw_P D ad h qo f sz as) := by
  intro a U g mk hp
  obtain ⟨h1, h2, h3, h3c, h4, h5, h6, h7⟩ := hp
  refine ⟨h1, h2, sd_w_moved (Vm.Alike.refl U.vm) h3, sw_cmoved (Vm.Alike.refl U.vm) h3c, sx_hmoved h4 (Vm.Alike.refl U.vm) (fun _ _ h9 _ => h9), ⟨fun w hw ho hk => ?_, fun C hC => va_AO.moved (Vm.Alike.refl U.vm) (h5.2 C hC)⟩, fun q hq => ?_, sw_nmoved (Vm.Alike.refl U.vm) h7⟩
  · exact sx_word (s := U) (U := U.calling g mk a) (State.WarmedH.refl U) ho hk (h5.1 w hw ho hk)
  · obtain ⟨sa, h7⟩ := h6 q hq
    exact ⟨sa, vk_R.same rfl h7⟩
def sw_rm (k mc ms : Nat) : Room := { frames := tb_rf k + 1, cells := mc, slots := ms, locals := 8 + (tb_ml k + 11) + tb_rl k }
theorem sw_good {w0 : Jvm.Cond} {k : Nat} (hc : Jvm.Cond.code (tb_y k) (tb_b k) (tb_ml k) (tb_rt k) ∈ tb_all) : GoodIn (w0 :: tb_all) (sd_ws k) := by
  intro w hw
  have h8 : w ∈ tb_all := by
    rcases List.mem_cons.mp hw with rfl | h
    · exact hc
    · exact h
  exact ⟨List.mem_cons_of_mem _ h8, good_of_word (List.mem_filter.mp h8).2⟩
theorem sw_tab {y : MethodName} {hh : List (Nat × Nat × Nat × Nat)} {bytes : ByteArray} {maxL : Nat} {ret : Option FieldType} {S : Spec} {s₁ : State} {cc2 : ByteArray} {m2 : Nat} {r2 : Option FieldType} (B : BodyLoose p l y S cc2 m2 r2 e s m args below meth c s₁) (hw : (Jvm.Cond.codeWith y bytes maxL ret hh).before args s = true) : c.exceptionTable.toList = tableOf hh := by
  obtain ⟨m9, meth9, c9, hn9, h1, h2, -, -, h5, -⟩ := Cond.codeWith_spec hw
  cases B.named.symm.trans hn9
  cases Option.some.inj (h1.symm.trans B.method)
  cases Option.some.inj (h2.symm.trans (Stand.of_body B).code)
  rw [← h5, table_eq]
end LongA
