section LawA
variable {p : Program} {l : Launch} {e : Env} {R : Room} {s : State} {m : MethodId} {args : Array Value} {below : List Frame} {meth : Method} {c : Code} {H : Heap} {locs : List Loc} {cells slots : Nat} {Q : State → Prop} {cc : ByteArray} {nL pc : Nat} {ls : Array Slot} {Ts : List Jvm.Cond} {own : String} {D : va_G} {A : Nat → Prop} {ad : List Nat} {h h2 : hp_T}
-- what a caller outside the evaluator keeps
def sw_R (s : State) (H : Heap) : Prop := sx_h s ∧ sd_a s ∧ sd_g s ∧ ∀ (a : Nat) (cell : Cell), s.heap[a]? = some cell → cell.vm.isStatics = true → H[a]? = some cell
theorem sw_pre (hw : sd_w D A ad h s H) (hR : sw_R s H) (as : List Value) : ∀ U : State, U.heap = H → s.WarmedH U.vm → sd_Pc D ad h H.size as as.toArray U := by
  intro U hU hW
  obtain ⟨hxh, hxa, hg, hk⟩ := hR
  refine ⟨rfl, by rw [hU], ?_, sx_hmoved hxh hW.alike (fun a cell h1 h2 => by rw [hU]; exact hk a cell h1 h2), ⟨fun w hw ho hk9 => sx_word hW ho hk9 (hxa.1 w hw ho hk9), fun C hC => va_AO.moved hW.alike (hxa.2 C hC)⟩, fun q hq => ?_⟩
  · rw [hU]; exact sd_w_moved hW.alike (sd_w_own hw (fun q h9 => Or.inl h9))
  · obtain ⟨sa, h6⟩ := hg q hq
    exact ⟨sa, vk_R.warm hW h6⟩
theorem sw_sub (hw : sd_w D A ad h s H) (hSt : va_S A s.heap H locs) (hA : ∀ q, s.heap.size ≤ q → A q) : ∀ q, sd_fr ad H.size q → A q := fun q h9 => h9.elim (fun h8 => (sd_w_at hw q h8).1) (fun h8 => hA q (Nat.le_trans hSt.1 h8))
theorem sw_off {st t : State} {H1 : Heap} (e0 : st.heap = H) (e1 : t.heap = H1) (hF : va_F (sd_fr ad H.size) st t) : H.size ≤ H1.size ∧ ∀ q, q < H.size → q ∉ ad → H1[q]? = H[q]? := by
  obtain ⟨h1, h2⟩ := hF
  rw [e0, e1] at h1
  rw [e0, e1] at h2
  exact ⟨h1, fun q h3 h4 => h2 q h3 (fun h9 => h9.elim h4 (fun h8 => by omega))⟩
theorem sw_keep {H1 : Heap} (hR : sw_R s H) (hw : sd_w D A ad h s H) (hk : ∀ q, q < H.size → q ∉ ad → H1[q]? = H[q]?) : sw_R s H1 := by
  obtain ⟨h1, h2, h3, h4⟩ := hR
  refine ⟨h1, h2, h3, fun a cell h5 h6 => ?_⟩
  have h7 := h4 a cell h5 h6
  rw [hk a (Array.getElem?_eq_some_iff.mp h7).1 (fun h8 => by rw [sd_w_ns hw a h8 cell h7] at h6; cases h6)]
  exact h7
-- a method of the evaluator, called by invokevirtual, that returns
theorem sw_ret (hlt : l.stackTraces = false) {d f0 k x b qb : Nat} {as AsC K : List Value} {v : Option Value} (hev : ev_m d f0 k (.ref b :: as) h = some (.inl v, h2)) (hk : tb_ok k = true) (hx : p.tables.exec = Jvm.exec) (hb : c.code = cc) (hml : c.maxLocals = nL) (hown : s.vm.findClass own = some m.cls) (hts : ∀ w ∈ Ts, w.before args s = true)
    (hG : GoodIn Ts (sd_ws k)) (hl : (Jvm.Cond.methodLink own x (tb_y k)).before args s = true) (hlm : lf_m k 1) (hall : ∀ w ∈ tb_all, w.before args s = true) (hrf : tb_rf k + 1 ≤ R.frames) (hrl : 8 + (tb_ml k + 11) + tb_rl k ≤ R.locals)
    (hw : sd_w D A ad h s H) (hSt : va_S A s.heap H locs) (hA : ∀ q, s.heap.size ≤ q → A q) (hR : sw_R s H) (hkb : hp_k h b = some (tb_ci k, 0)) (hqb : ad[b]? = some qb) (has : sd_l ad as AsC) (hna : AsC.length = tb_na k) (hsz : ls.size = nL) (hK : (K.map fun v => v.category).sum ≤ 8) (hdg : decode cc pc = .ok (.invokevirtual x, 3)) (hRc : cells + (hp_c h2 - hp_c h) ≤ R.cells) (hRs : slots + (hp_s h2 - hp_s h) ≤ R.slots)
    (kk : ∀ (w : Option Value) (z : List Nat) (H1 : Heap) (locs1 : List Loc), sd_w D A (ad ++ z) h2 s H1 → va_S A s.heap H1 locs1 → sd_l (ad ++ z) v.toList w.toList → H.size ≤ H1.size → (∀ q, q < H.size → q ∉ ad → H1[q]? = H[q]?) → sw_R s H1 → W p l e R s m args below meth c H1 locs1 (cells + (hp_c h2 - hp_c h)) (slots + (hp_s h2 - hp_s h)) Q (F0 m (pc + 3) ls (w.toList ++ K))) :
    W p l e R s m args below meth c H locs cells slots Q (F0 m pc ls (AsC.reverse ++ .ref qb :: K)) := by
  obtain ⟨-, g2, g3, g4, -, g6, -⟩ := hlm
  obtain ⟨⟨T9, N9, hcv⟩, g7, g8⟩ := g6 rfl
  have hmm : hp_c h ≤ hp_c h2 ∧ hp_s h ≤ hp_s h2 := ev_m_c d f0 _ _ _ _ hev
  have hM := (sd_main (l := l) tb_true hlt D d f0 k _ h _ hk hev ad H.size (.ref qb :: AsC) ⟨⟨qb, hqb, rfl⟩, has⟩ (hp_c h2 - hp_c h) (hp_s h2 - hp_s h) (by show _ = hp_c h2; omega) (by show _ = hp_s h2; omega)).1 v rfl
  have hrecv : ∃ cellB : Cell, H[qb]? = some cellB ∧ cellB.vm.isStatics = false ∧ s.vm.findClass (tb_y k).cls = some cellB.cls := by
    obtain ⟨ws, tys, hK9, hP9, hD9, hlw, hla, hr9⟩ := hw
    obtain ⟨a, E, h1, h2, h3⟩ := hr9 _ _ _ hkb
    obtain ⟨fs, rfl, -⟩ := sd_e_o h3 (cl_all _ _ _ _ hcv).1
    cases Option.some.inj (h1.symm.trans hqb)
    exact va_recv hK9 hP9 hcv h2
  have cb : CallB R s args own x (tb_y k) (tb_b k) (tb_ml k) (tb_rt k) (sd_ws k) (sd_rm k (hp_c h2 - hp_c h) (hp_s h2 - hp_s h)) (hp_c h2 - hp_c h) (hp_s h2 - hp_s h) (tb_na k) := callB_of _ hts hG rfl rfl rfl (hall _ g2) hl g4 ⟨hrf, hrl⟩
  refine sd_callR (va_runV ⟨hx, hb, hml, hown, hts⟩ hM ⟨cb, hall _ g7, hall _ g8⟩ ⟨sd_Pc_blind, hrecv, sw_pre hw hR _⟩ rfl hna hsz rfl (lv_room hK) hdg ⟨hRc, hRs⟩) (fun w st₀ t H1 Lc e0 e1 hvm hq hL => ?_)
  obtain ⟨v2, w2, z2, q1, q2, q3, q4, q5⟩ := hq
  cases q1
  cases q2
  subst e1
  have hsub := sw_sub hw hSt hA
  obtain ⟨o1, o2⟩ := sw_off (H1 := t.heap) e0 rfl q5
  exact kk w z2 t.heap (locs ++ Lc) (sd_w_moved hvm.symm (sd_w_own q4 (fun q h9 => hsub q (sd_w_at q4 q h9).1))) (sd_keepS e0 rfl hSt hsub hL q5) q3 o1 o2 (sw_keep hR hw o2)
-- one that throws
theorem sw_thr (hlt : l.stackTraces = false) {d f0 k x b qb e9 : Nat} {as AsC K : List Value} (hev : ev_m d f0 k (.ref b :: as) h = some (.inr e9, h2)) (hk : tb_ok k = true) (hx : p.tables.exec = Jvm.exec) (hb : c.code = cc) (hml : c.maxLocals = nL) (hown : s.vm.findClass own = some m.cls) (hts : ∀ w ∈ Ts, w.before args s = true)
    (hG : GoodIn Ts (sd_ws k)) (hl : (Jvm.Cond.methodLink own x (tb_y k)).before args s = true) (hlm : lf_m k 1) (hall : ∀ w ∈ tb_all, w.before args s = true) (hrf : tb_rf k + 1 ≤ R.frames) (hrl : 8 + (tb_ml k + 11) + tb_rl k ≤ R.locals)
    (hw : sd_w D A ad h s H) (hSt : va_S A s.heap H locs) (hA : ∀ q, s.heap.size ≤ q → A q) (hR : sw_R s H) (hkb : hp_k h b = some (tb_ci k, 0)) (hqb : ad[b]? = some qb) (has : sd_l ad as AsC) (hna : AsC.length = tb_na k) (hsz : ls.size = nL) (hK : (K.map fun v => v.category).sum ≤ 8) (hdg : decode cc pc = .ok (.invokevirtual x, 3)) (hRc : cells + (hp_c h2 - hp_c h) ≤ R.cells) (hRs : slots + (hp_s h2 - hp_s h) ≤ R.slots)
    (kk : ∀ (ce : Cell) (q : Addr) (z : List Nat) (H1 : Heap) (locs1 : List Loc), sd_w D A (ad ++ z) h2 s H1 → va_S A s.heap H1 locs1 → H.size ≤ H1.size → (∀ q, q < H.size → q ∉ ad → H1[q]? = H[q]?) → sw_R s H1 → H1[q]? = some ce → ce.vm = .none → s.vm.findClass (tb_xn e9) = some ce.cls → sx_W p l e R s m args below meth c H1 locs1 (cells + (hp_c h2 - hp_c h)) (slots + (hp_s h2 - hp_s h)) Q (F0 m pc ls K) q) :
    W p l e R s m args below meth c H locs cells slots Q (F0 m pc ls (AsC.reverse ++ .ref qb :: K)) := by
  obtain ⟨-, g2, g3, g4, -, g6, -⟩ := hlm
  obtain ⟨⟨T9, N9, hcv⟩, g7, g8⟩ := g6 rfl
  have hmm : hp_c h ≤ hp_c h2 ∧ hp_s h ≤ hp_s h2 := ev_m_c d f0 _ _ _ _ hev
  have hM := (sd_main (l := l) tb_true hlt D d f0 k _ h _ hk hev ad H.size (.ref qb :: AsC) ⟨⟨qb, hqb, rfl⟩, has⟩ (hp_c h2 - hp_c h) (hp_s h2 - hp_s h) (by show _ = hp_c h2; omega) (by show _ = hp_s h2; omega)).2 e9 rfl
  have hrecv : ∃ cellB : Cell, H[qb]? = some cellB ∧ cellB.vm.isStatics = false ∧ s.vm.findClass (tb_y k).cls = some cellB.cls := by
    obtain ⟨ws, tys, hK9, hP9, hD9, hlw, hla, hr9⟩ := hw
    obtain ⟨a, E, h1, h2, h3⟩ := hr9 _ _ _ hkb
    obtain ⟨fs, rfl, -⟩ := sd_e_o h3 (cl_all _ _ _ _ hcv).1
    cases Option.some.inj (h1.symm.trans hqb)
    exact va_recv hK9 hP9 hcv h2
  have cb : CallB R s args own x (tb_y k) (tb_b k) (tb_ml k) (tb_rt k) (sd_ws k) (sd_rm k (hp_c h2 - hp_c h) (hp_s h2 - hp_s h)) (hp_c h2 - hp_c h) (hp_s h2 - hp_s h) (tb_na k) := callB_of _ hts hG rfl rfl rfl (hall _ g2) hl g4 ⟨hrf, hrl⟩
  intro T hT X
  obtain ⟨q9, st₀, t, T', Lc, ce, e0, ⟨z2, q4, q5⟩, hce, hcv9, hcl, hL, e1, e2, X', st1⟩ := sx_callV X hx hown hM ⟨cb, hall _ g7, hall _ g8⟩ (b := qb) ⟨sd_Pc_blind, hrecv, sw_pre hw hR _⟩ hT (g := F0 m pc ls (AsC.reverse ++ .ref qb :: K)) rfl hna (by rw [hml]; exact hsz) rfl (lv_room hK) (by rw [hb]; exact hdg) ⟨hRc, hRs⟩
  have hvm : s.vm.Alike t.vm := by rw [← e2]; exact X'.warmed.alike
  have hsub := sw_sub hw hSt hA
  obtain ⟨o1, o2⟩ := sw_off (H1 := t.heap) e0 rfl q5
  obtain ⟨t2, a1, b1⟩ := kk ce q9 z2 t.heap (locs ++ Lc) (sd_w_moved hvm.symm (sd_w_own q4 (fun q h9 => hsub q (sd_w_at q4 q h9).1))) (sd_keepS e0 rfl hSt hsub hL q5) o1 o2 (sw_keep hR hw o2) hce hcv9 hcl T' e1 X'
  exact ⟨t2, st1.trans a1, b1⟩
end LawA
