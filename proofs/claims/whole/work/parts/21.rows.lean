section LawRows
variable {p : Program} {l : Launch} {e : Env} {R : Room} {s : State} {m : MethodId} {args : Array Value} {below : List Frame} {meth : Method} {c : Code} {H : Heap} {locs : List Loc} {cells slots : Nat} {Q : State → Prop} {cc : ByteArray} {nL pc : Nat} {ls : Array Slot} {rest : List Value} {D : va_G} {A : Nat → Prop} {ad : List Nat} {h h2 : hp_T} {qo : Nat} {f : Nat → Int64}
-- script[i + k]
theorem lq_arg (hx : p.tables.exec = Jvm.exec) (hb : c.code = cc) {b L i : Nat} {xs : Nat → Int32} (hX : va_X b L xs s s.heap) (hbl : b < s.heap.size) (hbA : ¬ A b) (hSt : va_S A s.heap H locs) (h0 : ls[0]? = some (.val (.ref b))) (h4 : ls[4]? = some (.val (.int (nI i)))) (hL : L < 100000) (k : Nat) (hk : i + k < L) {z : Int} (hz : Int32.ofInt z = nI k)
    (d0 : decode cc pc = .ok (.aload_n 0, 1)) (d1 : decode cc (pc + 1) = .ok (.iload 4, 2)) (d3 : decode cc (pc + 3) = .ok (.iconst z, 1)) (d4 : decode cc (pc + 4) = .ok (.iadd, 1)) (d5 : decode cc (pc + 5) = .ok (.iaload, 1))
    (kk : W p l e R s m args below meth c H locs cells slots Q (F0 m (pc + 6) ls (.int (xs (i + k)) :: rest))) : W p l e R s m args below meth c H locs cells slots Q (F0 m pc ls rest) := by
  refine lv_aload_n hx hb d0 rfl h0 ?_
  refine lv_iload hx hb d1 h4 ?_
  refine lv_iconst hx hb d3 hz ?_
  refine lv_iadd hx hb d4 ?_
  rw [nI_add]
  refine va_sld hx hb hX hbl hbA hSt (vp_in_nI hk (by omega)) d5 ?_
  rw [nI_clamp (by omega)]
  exact kk
-- x != 0 as a value
theorem lq_bool (hx : p.tables.exec = Jvm.exec) (hb : c.code = cc) {x : Int32} (d0 : decode cc pc = .ok (.ifCond .eq 7, 3)) (d3 : decode cc (pc + 3) = .ok (.iconst 1, 1)) (d4 : decode cc (pc + 4) = .ok (.goto 4, 3)) (d7 : decode cc (pc + 7) = .ok (.iconst 0, 1))
    (kk : W p l e R s m args below meth c H locs cells slots Q (F0 m (pc + 8) ls (.int (if x = 0 then 0 else 1) :: rest))) : W p l e R s m args below meth c H locs cells slots Q (F0 m pc ls (.int x :: rest)) := by
  refine lv_if_eq (tgt := pc + 7) hx hb d0 (by omega) (fun h9 => ?_) (fun h9 => ?_)
  · rw [if_pos h9] at kk
    exact lv_iconst (v := 0) hx hb d7 (by decide) kk
  · rw [if_neg h9] at kk
    refine lv_iconst (v := 1) hx hb d3 (by decide) ?_
    exact lv_goto (tgt := pc + 8) hx hb d4 (by omega) kk
-- a wrapper, called by invokestatic
theorem sw_stat {k x mc ms maxL : Nat} {y : MethodName} {bytes : ByteArray} {hh : List (Nat × Nat × Nat × Nat)} {as : List Value} {r : Int32} {g : (Nat → Int64) → Prop} {own : String} (hx : p.tables.exec = Jvm.exec) (hb : c.code = cc) (hml : c.maxLocals = nL) (hown : s.vm.findClass own = some m.cls)
    (hM : Met l y (.codeWith y bytes maxL (some .int) hh :: tb_all) (sw_rm k mc ms) (sw_P D ad h qo f H.size as) (sw_Q D ad h2 qo H.size r g) mc ms (sd_fr (qo :: ad) H.size))
    (hall : ∀ w ∈ tb_all, w.before args s = true) (hcw : Jvm.Cond.codeWith y bytes maxL (some .int) hh ∈ tb_all) (hl : Jvm.Cond.methodLink own x y ∈ tb_all) (hst : Jvm.Cond.static y ∈ tb_all) (hini : Jvm.Cond.initialized y.cls ∈ tb_all) (hd : y.cls ≠ "java/lang/invoke/MethodHandle" ∧ y.cls ≠ "java/lang/invoke/VarHandle" ∧ (parseMethodDescriptor y.desc).map (fun d => d.parameters.length) = some as.length)
    (hrf : tb_rf k + 1 + 1 ≤ R.frames) (hrl : 8 + (maxL + 11) + (8 + (tb_ml k + 11) + tb_rl k) ≤ R.locals)
    (hw : sd_w D A ad h s H) (hc : sw_c D A ad qo f s H) (hSt : va_S A s.heap H locs) (hA : ∀ q, s.heap.size ≤ q → A q) (hR : sw_R s H) (hn : sw_n s) (hsz : ls.size = nL) (hK : (rest.map fun v => v.category).sum ≤ 8) (hdg : decode cc pc = .ok (.invokestatic x, 3)) (hRc : cells + mc ≤ R.cells) (hRs : slots + ms ≤ R.slots)
    (kk : ∀ (f2 : Nat → Int64) (H1 : Heap) (locs1 : List Loc), g f2 → sd_w D A ad h2 s H1 → sw_c D A ad qo f2 s H1 → va_S A s.heap H1 locs1 → sw_R s H1 → W p l e R s m args below meth c H1 locs1 (cells + mc) (slots + ms) Q (F0 m (pc + 3) ls (.int r :: rest))) :
    W p l e R s m args below meth c H locs cells slots Q (F0 m pc ls (as.reverse ++ rest)) := by
  have hgw : ∀ w ∈ (Jvm.Cond.codeWith y bytes maxL (some .int) hh :: tb_all), w ∈ tb_all := fun w h => (List.mem_cons.mp h).elim (fun e => by rw [e]; exact hcw) id
  have hws : ∀ w ∈ (Jvm.Cond.codeWith y bytes maxL (some .int) hh :: tb_all), ∀ (a' : Array Value) (U : State), s.WarmedH U.vm → w.before a' U = true := fun w h a' U hW => word_at hW (good_of_word (List.mem_filter.mp (hgw w h)).2) (hall w (hgw w h))
  have hini9 := hall _ hini
  have hK9 : Back l R p e below s args y 3 8 (PreOf R mc ms (sw_P D ad h qo f H.size as)) (PostOf (sw_Q D ad h2 qo H.size r g) mc ms (sd_fr (qo :: ad) H.size)) := va_backW (hh := hh) (bytes := bytes) (maxL := maxL) (ret := some .int) hM sw_Pblind rfl rfl hrf hrl hws List.mem_cons_self (fun a' U hW => word_at hW (good_of_word (List.mem_filter.mp hini).2) hini9)
  have hcode := hall _ hcw
  obtain ⟨mk, methM, cM, hnamed, hmethM, -, -, -, -, -, -, hsigM⟩ := Cond.codeWith_spec hcode
  have hstatic : methM.isStatic = true := Cond.static_spec hnamed hmethM (hall _ hst)
  obtain ⟨kP, hkP, -⟩ := className_of_methodNamed hnamed
  have hinitP : kP.init = .initialized := Cond.initialized_spec (findClass_of_methodNamed hnamed) hkP hini9
  have hlen : as.length = methM.sig.parameters.length := by
    have h9 := hd.2.2
    rw [hsigM] at h9
    exact (Option.some.inj h9).symm
  intro T hT X
  obtain ⟨vm₁, X₁, hstep₁⟩ := X.invokestatic hx hown (hall _ hl) hnamed hmethM hstatic hkP hinitP ⟨hd.1, hd.2.1⟩ (g := F0 m pc ls (as.reverse ++ rest)) rfl (argsL := as) (rest := rest) hlen rfl (by rw [hb]; exact hdg)
  have hsub : ∀ q, sd_fr (qo :: ad) H.size q → A q := by
    intro q h9
    rcases h9 with h9 | h9
    · rcases List.mem_cons.mp h9 with rfl | h9
      · obtain ⟨cL, -, -, h3, -⟩ := hc; exact h3
      · exact (sd_w_at hw q h9).1
    · exact hA q (Nat.le_trans hSt.1 h9)
  have hpre : sw_P D ad h qo f H.size as as.toArray (T.setVm vm₁) := by
    obtain ⟨hxh, hxa, hg, hk9⟩ := hR
    have hW := X₁.warmed
    have hT2 : (T.setVm vm₁).heap = H := hT
    refine ⟨rfl, by rw [hT2], ?_, ?_, sx_hmoved hxh hW.alike (fun a cell h1 h2 => by rw [hT2]; exact hk9 a cell h1 h2), ⟨fun w hw ho hk9 => sx_word hW ho hk9 (hxa.1 w hw ho hk9), fun C hC => va_AO.moved hW.alike (hxa.2 C hC)⟩, fun q hq => ?_, sw_nmoved hW.alike hn⟩
    · rw [hT2]; exact sd_w_moved hW.alike (sd_w_own hw (fun q h9 => Or.inl (List.mem_cons_of_mem _ h9)))
    · rw [hT2]; exact sw_cmoved hW.alike (sw_cown hc (Or.inl List.mem_cons_self))
    · obtain ⟨sa, h6⟩ := hg q hq
      exact ⟨sa, vk_R.warm hW h6⟩
  obtain ⟨v, ⟨U', l2, c2, s2⟩, X', ⟨g', mk2, t, Lc, e1, e2, hq, h1, hL, h2, h3⟩, st⟩ := hK9 m meth c ⟨T.setVm vm₁, locs, cells, slots⟩ (F0 m pc ls rest) (.invokestatic x) mk as.toArray X₁ rfl (by rw [hml]; exact hsz) (by rw [hb]; exact hdg) (lv_room hK) (X₁.named hnamed) ⟨hRc, hRs, hpre⟩
  dsimp only [Pt.U, Pt.locs, Pt.cells, Pt.slots] at X' e1 e2 h1 h2 h3 st
  subst h1; subst h2; subst h3
  obtain ⟨f2, g1, g2, g3, g4, g5⟩ := hq
  cases g2
  have hvm : s.vm.Alike t.vm := by rw [← e2]; exact X'.warmed.alike
  have hkS := sd_keepS (H := H) (H1 := t.heap) (by show T.heap = H; exact hT) rfl hSt hsub hL g5
  have hR1 : sw_R s t.heap := by
    obtain ⟨z1, z2, z3, z4⟩ := hR
    refine ⟨z1, z2, z3, fun a cell y1 y2 => ?_⟩
    have y3 := z4 a cell y1 y2
    have y4 : ¬ sd_fr (qo :: ad) H.size a := by
      intro y5
      rcases y5 with y5 | y5
      · rcases List.mem_cons.mp y5 with rfl | y5
        · obtain ⟨cL, -, y6, -⟩ := hc
          have y7 : H[a]? = some (vp_cell cL (1, .inr (.inl f))) := y6 0 _ rfl
          rw [y7] at y3; cases y3; cases y2
        · rw [sd_w_ns hw a y5 cell y3] at y2; cases y2
      · have y8 : a < H.size := (Array.getElem?_eq_some_iff.mp y3).1
        omega
    have y9 := g5.2 a (by show a < T.heap.size; rw [hT]; exact (Array.getElem?_eq_some_iff.mp y3).1) y4
    rw [y9]
    show T.heap[a]? = some cell
    rw [hT]; exact y3
  have hB : ∀ q, q ∈ ad → A q := fun q h9 => (sd_w_at hw q h9).1
  obtain ⟨t2, a1, b1⟩ := kk f2 t.heap (locs ++ Lc) g1 (sd_w_moved hvm.symm (sd_w_own g3 hB)) (sw_cmoved hvm.symm (sw_cown g4 (by obtain ⟨cL, -, -, h3, -⟩ := hc; exact h3))) hkS hR1 U' e1 X'
  refine ⟨t2, ?_, b1⟩
  exact hstep₁ _ fun acts => by rw [doInvoke_state]; exact st.trans a1
end LawRows
