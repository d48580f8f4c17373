section MainC
variable {p : Program} {l : Launch} {e : Env} {s : State} {m : MethodId} {args : Array Value} {below : List Frame} {meth : Method} {c : Code}
theorem ev_rr_of {ty : FieldType} (h : ev_rr ty = true) : (∃ n, ty = .object n) ∨ ∃ t, ty = .array t := by
  cases ty with
  | object n => exact Or.inl ⟨n, rfl⟩
  | array t => exact Or.inr ⟨t, rfl⟩
  | _ => cases h
set_option maxHeartbeats 8000000 in
set_option maxRecDepth 100000 in
theorem sd_one (htb : sd_tb) (hlt : l.stackTraces = false) {D : va_G} {d f0 k : Nat} (hk : tb_ok k = true)
    (IH : ∀ (k2 : Nat) (as : List Value) (h : hp_T) (o : ev_O), tb_ok k2 = true → ev_m d f0 k2 as h = some o → ∀ (ad : List Nat) (sz : Nat) (asC : List Value), sd_l ad as asC → sd_Mt l D k2 ad h sz asC o)
    (hx : p.tables.exec = Jvm.exec) (hb : c.code = tb_b k) (hml : c.maxLocals = tb_ml k) (hrt : meth.sig.returnType = tb_rt k) (hown : s.vm.findClass (tb_own k) = some m.cls) (hlocks : meth.locks = false) (hnm : meth.name = (tb_y k).name) (hout : ∀ x ∈ c.exceptionTable.toList, False)
    (hts : ∀ w ∈ sd_ws k, w.before args s = true) (hxh : sx_h s) (hxa : sd_a s) (hg : sd_g s) {ad0 : List Nat} {h9 : hp_T} (hw0 : sd_w D (sd_fr ad0 s.heap.size) ad0 h9 s s.heap) {o : ev_O} {h0 : hp_T} {mc ms : Nat} (hmc : mc + hp_c h0 = hp_c o.2) (hms : ms + hp_s h0 = hp_s o.2) :
    ∀ (f pc : Nat) (L st : List Value) (h : hp_T), ev_1 (ev_m d f0) f k pc L st h = some o → ∀ (z : List Nat) (H : Heap) (locs : List Loc) (cells slots : Nat) (ls : Array Slot) (S : List Value), sd_w D (sd_fr ad0 s.heap.size) (ad0 ++ z) h s H → va_S (sd_fr ad0 s.heap.size) s.heap H locs → sd_s (ad0 ++ z) (tb_ml k) L ls → sd_l (ad0 ++ z) st S → cells + hp_c h0 = hp_c h → slots + hp_s h0 = hp_s h →
      W p l e (sd_rm k mc ms) s m args below meth c H locs cells slots (sd_MQ below D ad0 s.heap.size o args s mc ms) (F0 m pc ls S) := by
  obtain ⟨hcl, hgood, htk⟩ := htb
  obtain ⟨hpl, hyo, ⟨hrf, hrl⟩, hdec, hfacts⟩ := htk k hk
  have hA : ∀ q, s.heap.size ≤ q → sd_fr ad0 s.heap.size q := fun q h => Or.inr h
  have hkS : ∀ (H : Heap) (locs : List Loc), va_S (sd_fr ad0 s.heap.size) s.heap H locs → ∀ (a : Nat) (cell : Cell), s.heap[a]? = some cell → cell.vm.isStatics = true → H[a]? = some cell := by
    intro H locs hSt a cell hc hi
    have hlt9 : a < s.heap.size := (Array.getElem?_eq_some_iff.mp hc).1
    rw [hSt.2.1 a hlt9 ?_]
    · exact hc
    · intro q
      rcases q with q | q
      · rw [sd_w_ns hw0 a q cell hc] at hi; cases hi
      · omega
  have hG : ∀ k2, Jvm.Cond.code (tb_y k2) (tb_b k2) (tb_ml k2) (tb_rt k2) ∈ tb_all → GoodIn (sd_ws k) (sd_ws k2) := by
    intro k2 h9 w hw
    have h8 : w ∈ tb_all := by
      rcases List.mem_cons.mp hw with rfl | h
      · exact h9
      · exact h
    exact ⟨List.mem_cons_of_mem _ h8, hgood w h8⟩
  intro f
  induction f with
  | zero => intro pc L st h hs; cases hs
  | succ f ih =>
    intro pc L st h hs z H locs cells slots ls S hw hSt hl hS hc hsl
    have hsz : ls.size = tb_ml k := by obtain ⟨-, lst, h9, -⟩ := hl; exact h9.1
    have hsub : ∀ q, sd_fr (ad0 ++ z) H.size q → sd_fr ad0 s.heap.size q := fun q h9 => h9.elim (fun h8 => (sd_w_at hw q h8).1) (fun h8 => Or.inr (Nat.le_trans hSt.1 h8))
    -- behind a call that returned
    have goR : ∀ (v : Option Value) (h2 : hp_T) (ra rest : List Value) (a9 : Array Value) (mc2 ms2 : Nat), sd_l (ad0 ++ z) ra rest → ev_1 (ev_m d f0) f k (pc + 3) L (v.toList ++ ra) h2 = some o → mc2 + hp_c h = hp_c h2 → ms2 + hp_s h = hp_s h2 →
        va_Run p l e (sd_rm k mc ms) s m args below meth c H locs cells slots mc2 ms2 (F0 m pc ls S) rest (sd_Qc D (ad0 ++ z) H.size (.inl v, h2) a9) (sd_fr (ad0 ++ z) H.size) →
        W p l e (sd_rm k mc ms) s m args below meth c H locs cells slots (sd_MQ below D ad0 s.heap.size o args s mc ms) (F0 m pc ls S) := by
      intro v h2 ra rest a9 mc2 ms2 hra hs2 hm2 hms2 hrun
      refine sd_callR hrun (fun w st₀ t H1 Lc e0 e1 hvm hq hL => ?_)
      obtain ⟨v2, w2, z2, q1, q2, q3, q4, q5⟩ := hq
      cases q1
      cases q2
      subst e1
      have hw2 : sd_w D (sd_fr ad0 s.heap.size) (ad0 ++ (z ++ z2)) h2 s t.heap := by
        rw [← List.append_assoc]
        exact sd_w_moved hvm.symm (sd_w_own q4 (fun q h9 => hsub q (sd_w_at q4 q h9).1))
      refine ih _ _ _ _ hs2 (z ++ z2) t.heap (locs ++ Lc) _ _ ls _ hw2 (sd_keepS e0 rfl hSt hsub hL q5) (by rw [← List.append_assoc]; exact sd_s_mono hl) ?_ (by omega) (by omega)
      rw [← List.append_assoc]
      exact sd_l_app q3 (sd_l_mono hra)
    -- behind a call that threw
    have goX : ∀ (q : Nat) (h2 : hp_T) (rest : List Value) (mc2 ms2 : Nat), o = (.inr q, h2) → mc2 + hp_c h = hp_c h2 → ms2 + hp_s h = hp_s h2 →
        (∀ T : State, T.heap = H → Stand p l e (sd_rm k mc ms) s m args below meth c T locs cells slots → ∃ (q9 : Addr) (st₀ t T' : State) (L : List Loc) (ce : Cell), st₀.heap = H ∧ sd_X D (ad0 ++ z) H.size h2 st₀ t ∧ t.heap[q9]? = some ce ∧ ce.vm = .none ∧ s.vm.findClass (tb_xn q) = some ce.cls ∧ (∀ z9 ∈ L, sd_fr (ad0 ++ z) H.size z9.base) ∧ T'.heap = t.heap ∧ T'.vm = t.vm ∧ Stand p l e (sd_rm k mc ms) s m args below meth c T' (locs ++ L) (cells + mc2) (slots + ms2) ∧ Steps p.tables e below (T.setTop (F0 m pc ls S)) ((T'.setTop (F0 m pc ls rest)).pushFrame (.throwing q9))) →
        W p l e (sd_rm k mc ms) s m args below meth c H locs cells slots (sd_MQ below D ad0 s.heap.size o args s mc ms) (F0 m pc ls S) := by
      intro q h2 rest mc2 ms2 ho hm2 hms2 hrun
      subst ho
      have hmc : mc + hp_c h0 = hp_c h2 := hmc
      have hms : ms + hp_s h0 = hp_s h2 := hms
      intro T hT X
      obtain ⟨q9, st₀, t, T', Lc, ce, e0, ⟨z2, q4, q5⟩, hce, hcv, hcl, hL, e1, e2, X', st1⟩ := hrun T hT X
      have hvm : s.vm.Alike t.vm := by rw [← e2]; exact X'.warmed.alike
      have key : sx_W p l e (sd_rm k mc ms) s m args below meth c t.heap (locs ++ Lc) (cells + mc2) (slots + ms2) (sx_Q below (sd_X D ad0 s.heap.size h2) (tb_xn q) s mc ms (sd_fr ad0 s.heap.size)) (F0 m pc ls rest) q9 := by
        refine sx_out hout hlocks hce hcv hcl (fun t9 ht9 ha9 => ⟨z ++ z2, ?_, (sd_keepS e0 rfl hSt hsub hL q5).F ht9⟩) (sd_keepS e0 rfl hSt hsub hL q5).2.2 (by omega) (by omega)
        rw [ht9, ← List.append_assoc]
        exact sd_w_moved (hvm.symm.trans ha9) (sd_w_own q4 (fun q h9 => hsub q (sd_w_at q4 q h9).1))
      obtain ⟨t2, a1, b1⟩ := key T' e1 X'
      exact ⟨t2, st1.trans a1, b1⟩
    have hpre : ∀ (a9 : List Value) (U : State), U.heap = H → s.WarmedH U.vm → sd_Pc D (ad0 ++ z) h H.size a9 a9.toArray U := by
      intro a9 U hU hW
      refine ⟨rfl, by rw [hU], ?_, ?_, ⟨fun w hw ho hk9 => sx_word hW ho hk9 (hxa.1 w hw ho hk9), fun C hC => va_AO.moved hW.alike (hxa.2 C hC)⟩, fun q hq => ?_⟩
      · rw [hU]; exact sd_w_moved hW.alike (sd_w_own hw (fun q h9 => Or.inl h9))
      · exact sx_hmoved hxh hW.alike (fun a cell h1 h2 => by rw [hU]; exact hkS H locs hSt a cell h1 h2)
      · obtain ⟨sa, h6⟩ := hg q hq
        exact ⟨sa, vk_R.warm hW h6⟩
    rw [ev_1_s] at hs
    unfold ev_b at hs
    split at hs
    · cases hs
    · rename_i i hi
      obtain ⟨n, hd, hn⟩ := hdec pc i hi
      obtain ⟨hf1, hf2, hf3⟩ := hfacts args s hts hxa pc i hi
      split at hs
      · rename_i pc2 L2 st2 hp
        exact sd_p hx hb hp hd hn hl hS (fun ls2 S2 h1 h2 => ih _ _ _ _ hs z H locs cells slots ls2 S2 hw hSt h1 h2 hc hsl)
      · split at hs
        · rename_i st2 h2 hh
          have hn : n = ev_len i := by
            rcases hn with hn | hn
            · exact hn
            · rw [ev_h_sw hn] at hh; cases hh
          subst hn
          have hm1 := ev_1_c (ev_m_c d f0) _ _ _ _ _ _ _ hs
          have hm0 := ev_h_c hh
          rw [← hnm] at hf1
          refine sd_h hcl hx hb hml hown hts hh hd hf1 hw hSt hA hl hS hrf hrl hc hsl (by show _ ≤ mc + _; omega) (by show _ ≤ ms + _; omega) (fun z2 H1 locs1 S1 c1 s1 h1 h2 h3 h4 h5 => ?_)
          rw [List.append_assoc] at h1 h3
          exact ih _ _ _ _ hs (z ++ z2) H1 locs1 c1 s1 ls S1 h1 h2 (by rw [← List.append_assoc]; exact sd_s_mono hl) h3 h4 h5
        · rename_i o1 hn1 o2 hn2
          clear hn1 hn2
          split at hs
          · -- ireturn
            split at hs
            · rename_i x
              split at hs
              · rename_i ty hty
                split at hs
                · rename_i hnr
                  cases hs
                  have hn : n = 1 := by simpa [ev_len, ev_sw] using hn
                  subst hn
                  obtain ⟨K, rfl, hK⟩ := sd_l_i hS
                  cases sd_l_n hK
                  have ec : cells = mc := by have h9 : mc + hp_c h0 = hp_c h := hmc; omega
                  have es : slots = ms := by have h9 : ms + hp_s h0 = hp_s h := hms; omega
                  subst ec; subst es
                  exact (W.zret hx hb (hrt.trans hty) hnr (fun t ht hW => ⟨some (.int x), some (.int x), z, rfl, rfl, ⟨rfl, trivial⟩, by rw [ht]; exact sd_w_moved hW.alike hw, hSt.F ht⟩) hSt.2.2 hd)
                · cases hs
              · cases hs
            · cases hs
          · -- areturn
            split at hs
            · rename_i x
              split at hs
              · rename_i ty hty
                split at hs
                · rename_i hnr
                  cases hs
                  have hn : n = 1 := by simpa [ev_len, ev_sw] using hn
                  subst hn
                  obtain ⟨a, K, ha, rfl, hK⟩ := sd_l_r hS
                  cases sd_l_n hK
                  have ec : cells = mc := by have h9 : mc + hp_c h0 = hp_c h := hmc; omega
                  have es : slots = ms := by have h9 : ms + hp_s h0 = hp_s h := hms; omega
                  subst ec; subst es
                  exact (W.aret hx hb (hrt.trans hty) (ev_rr_of hnr) (Or.inr ⟨a, rfl⟩) (fun t ht hW => ⟨some (.ref x), some (.ref a), z, rfl, rfl, ⟨⟨a, ha, rfl⟩, trivial⟩, by rw [ht]; exact sd_w_moved hW.alike hw, hSt.F ht⟩) hSt.2.2 hd)
                · cases hs
              · cases hs
            · cases hs
          · -- return
            split at hs
            · split at hs
              · rename_i hty
                cases hs
                have hn : n = 1 := by simpa [ev_len, ev_sw] using hn
                subst hn
                cases sd_l_n hS
                have ec : cells = mc := by have h9 : mc + hp_c h0 = hp_c h := hmc; omega
                have es : slots = ms := by have h9 : ms + hp_s h0 = hp_s h := hms; omega
                subst ec; subst es
                exact (W.vret hx hb (hrt.trans hty) (fun t ht hW => ⟨none, none, z, rfl, rfl, trivial, by rw [ht]; exact sd_w_moved hW.alike hw, hSt.F ht⟩) hSt.2.2 hd)
              · cases hs
            · cases hs
          · -- throw new E("..")
            rename_i x
            split at hs
            · rename_i hz9
              obtain ⟨hz1, hz2⟩ := hz9
              cases hs
              have hn : n = 3 := by simpa [ev_len, ev_sw] using hn
              subst hn
              obtain ⟨cls, text, names, is, ic, rfl, g1, g2, g3, g4, g5, g6, g7, g8, g9, d3, d4, d6, d9⟩ := hf3 hz1
              have hsum := sd_l_sum hS
              have hmc : mc + hp_c h0 = hp_c h + 1 := hmc
              have hms : ms + hp_s h0 = hp_s h + 6 := hms
              obtain ⟨sa, hsa⟩ := hg _ g8
              have hw9 : ∀ w : Jvm.Cond, w ∈ lw_tbl → w.onTables = true → w.keepsFace = true → w.before args s = true := fun w h1 h2 h3 => sx_word (State.WarmedH.refl s) h2 h3 (hxa.1 w h1 h2 h3)
              exact sx_throw hx hb hlt hown g1 g2 (hw9 _ g5 rfl rfl) (hw9 _ g6 rfl rfl) (hw9 _ g7 rfl rfl) hsa
                (fun U hv hU => g9 U args (sx_hmoved hxh (by rw [hv]; exact Vm.Alike.refl _) (fun a cell h1 h2 => by rw [hU]; exact hkS H locs hSt a cell h1 h2)) ⟨fun w h1 h2 h3 => sx_word (s := s) (by rw [hv]; exact State.WarmedH.refl s) h2 h3 (hxa.1 w h1 h2 h3), fun C hC => va_AO.moved (by rw [hv]; exact Vm.Alike.refl _) (hxa.2 C hC)⟩)
                (by rw [hsz, hml]) hd d3 d4 d6 d9 hout (by show names.length + 3 < tb_rf k; omega) (by rw [hsum]; show _ ≤ tb_rl k; omega) (by show _ ≤ mc; omega) (by show _ ≤ ms; omega) hlocks
                (fun t hvm hsz9 hkp => ⟨z, sd_w_moved hvm (sd_w_kept hw hkp), ⟨Nat.le_trans hSt.1 hsz9, fun q h1 h2 => (hkp q (Nat.lt_of_lt_of_le h1 hSt.1)).trans (hSt.2.1 q h1 h2)⟩⟩) hSt.2.2 (by omega) (by omega)
            · cases hs
          · -- invokevirtual
            rename_i x
            split at hs
            · rename_i hz9
              obtain ⟨hz1, hz2⟩ := hz9
              obtain ⟨⟨b1, b2, b3, b4, b5, b9⟩, ⟨T9, N9, hcv⟩, b6, b7⟩ := hf2 hz1
              have hn : n = 3 := by simpa [ev_len, ev_sw] using hn
              subst hn
              split at hs
              · rename_i b r hdr
                split at hs
                · rename_i hz8
                  obtain ⟨hr8, hkb⟩ := hz8
                  have hst : st = st.take (tb_na (tb_rs k x).2.1) ++ (.ref b :: r) := by rw [← hdr, List.take_append_drop]
                  obtain ⟨SA, SB, rfl, hSA, hSB⟩ := sd_l_split (l := st.take (tb_na (tb_rs k x).2.1)) (l' := .ref b :: r) (by rw [← hst]; exact hS)
                  obtain ⟨qb, K, hqb, rfl, hK⟩ := sd_l_r hSB
                  have hargs : sd_l (ad0 ++ z) (.ref b :: (st.take (tb_na (tb_rs k x).2.1)).reverse) (.ref qb :: SA.reverse) := ⟨⟨qb, hqb, rfl⟩, sd_l_rev hSA⟩
                  have hlen : SA.reverse.length = tb_na (tb_rs k x).2.1 := by rw [List.length_reverse, sd_l_len hSA, List.length_take]; omega
                  have hroom : (K.map fun v => v.category).sum ≤ 8 := by rw [sd_l_sum hK]; exact hr8
                  have hrecv : ∃ cellB : Cell, H[qb]? = some cellB ∧ cellB.vm.isStatics = false ∧ s.vm.findClass (tb_y (tb_rs k x).2.1).cls = some cellB.cls := by
                    obtain ⟨ws, tys, hK9, hP9, hD9, hlw, hla, hr9⟩ := hw
                    obtain ⟨a, E, h1, h2, h3⟩ := hr9 _ _ _ hkb
                    obtain ⟨fs, rfl, -⟩ := sd_e_o h3 (hcl _ _ _ _ hcv).1
                    cases Option.some.inj (h1.symm.trans hqb)
                    exact va_recv hK9 hP9 hcv h2
                  have cb : ∀ mc2 ms2 : Nat, CallB (sd_rm k mc ms) s args (tb_own k) x (tb_y (tb_rs k x).2.1) (tb_b (tb_rs k x).2.1) (tb_ml (tb_rs k x).2.1) (tb_rt (tb_rs k x).2.1) (sd_ws (tb_rs k x).2.1) (sd_rm (tb_rs k x).2.1 mc2 ms2) mc2 ms2 (tb_na (tb_rs k x).2.1) := fun mc2 ms2 => callB_of _ hts (hG _ b4) rfl rfl rfl b3 b2 b5 b9
                  split at hs
                  · rename_i v h2 hcall
                    have hmm := ev_m_c d f0 _ _ _ _ hcall
                    have hm1 := ev_1_c (ev_m_c d f0) _ _ _ _ _ _ _ hs
                    have hmm : hp_c h ≤ hp_c h2 ∧ hp_s h ≤ hp_s h2 := hmm
                    have hM := IH _ _ _ _ b1 hcall (ad0 ++ z) H.size _ hargs (hp_c h2 - hp_c h) (hp_s h2 - hp_s h) (by show _ = hp_c h2; omega) (by show _ = hp_s h2; omega)
                    exact goR v h2 r K _ (hp_c h2 - hp_c h) (hp_s h2 - hp_s h) hK hs (by omega) (by omega)
                      (va_runV ⟨hx, hb, hml, hown, hts⟩ (hM.1 v rfl) ⟨cb _ _, b6, b7⟩ ⟨sd_Pc_blind, hrecv, hpre _⟩ rfl hlen hsz (by simp) (lv_room hroom) hd ⟨by show _ ≤ mc; omega, by show _ ≤ ms; omega⟩)
                  · rename_i q h2 hcall
                    have hmm := ev_m_c d f0 _ _ _ _ hcall
                    have hmm : hp_c h ≤ hp_c h2 ∧ hp_s h ≤ hp_s h2 := hmm
                    have ho : o = (.inr q, h2) := (Option.some.inj hs).symm
                    have hoc : hp_c o.2 = hp_c h2 := by rw [ho]
                    have hos : hp_s o.2 = hp_s h2 := by rw [ho]
                    have hM := IH _ _ _ _ b1 hcall (ad0 ++ z) H.size _ hargs (hp_c h2 - hp_c h) (hp_s h2 - hp_s h) (by show _ = hp_c h2; omega) (by show _ = hp_s h2; omega)
                    exact goX q h2 K (hp_c h2 - hp_c h) (hp_s h2 - hp_s h) ho (by omega) (by omega)
                      (fun T hT X => sx_callV X hx hown (hM.2 q rfl) ⟨cb _ _, b6, b7⟩ (b := qb) ⟨sd_Pc_blind, hrecv, hpre _⟩ hT (g := F0 m pc ls (SA ++ .ref qb :: K)) rfl hlen (by rw [hml]; exact hsz) (by simp) (lv_room hroom) (by rw [hb]; exact hd) ⟨by show _ ≤ mc; omega, by show _ ≤ ms; omega⟩)
                  · cases hs
                · cases hs
              · cases hs
            · cases hs
          · -- invokespecial
            rename_i x
            split at hs
            · rename_i hz9
              obtain ⟨hz1, hz2⟩ := hz9
              obtain ⟨⟨b1, b2, b3, b4, b5, b9⟩, b6, b7, b8⟩ := hf2 hz1
              have hn : n = 3 := by simpa [ev_len, ev_sw] using hn
              subst hn
              split at hs
              · rename_i b r hdr
                split at hs
                · rename_i hr8
                  have hst : st = st.take (tb_na (tb_rs k x).2.1) ++ (.ref b :: r) := by rw [← hdr, List.take_append_drop]
                  obtain ⟨SA, SB, rfl, hSA, hSB⟩ := sd_l_split (l := st.take (tb_na (tb_rs k x).2.1)) (l' := .ref b :: r) (by rw [← hst]; exact hS)
                  obtain ⟨qb, K, hqb, rfl, hK⟩ := sd_l_r hSB
                  have hargs : sd_l (ad0 ++ z) (.ref b :: (st.take (tb_na (tb_rs k x).2.1)).reverse) (.ref qb :: SA.reverse) := ⟨⟨qb, hqb, rfl⟩, sd_l_rev hSA⟩
                  have hlen : SA.reverse.length = tb_na (tb_rs k x).2.1 := by rw [List.length_reverse, sd_l_len hSA, List.length_take]; omega
                  have hroom : (K.map fun v => v.category).sum ≤ 8 := by rw [sd_l_sum hK]; exact hr8
                  have cb : ∀ mc2 ms2 : Nat, CallB (sd_rm k mc ms) s args (tb_own k) x (tb_y (tb_rs k x).2.1) (tb_b (tb_rs k x).2.1) (tb_ml (tb_rs k x).2.1) none (sd_ws (tb_rs k x).2.1) (sd_rm (tb_rs k x).2.1 mc2 ms2) mc2 ms2 (tb_na (tb_rs k x).2.1) := fun mc2 ms2 => callB_of _ hts (hG _ b4) (by unfold sd_ws; rw [b7]) rfl rfl b3 b2 b5 b9
                  split at hs
                  · rename_i v h2 hcall
                    have hmm := ev_m_c d f0 _ _ _ _ hcall
                    have hm1 := ev_1_c (ev_m_c d f0) _ _ _ _ _ _ _ hs
                    have hmm : hp_c h ≤ hp_c h2 ∧ hp_s h ≤ hp_s h2 := hmm
                    have hM := IH _ _ _ _ b1 hcall (ad0 ++ z) H.size _ hargs (hp_c h2 - hp_c h) (hp_s h2 - hp_s h) (by show _ = hp_c h2; omega) (by show _ = hp_s h2; omega)
                    exact goR v h2 r K _ (hp_c h2 - hp_c h) (hp_s h2 - hp_s h) hK hs (by omega) (by omega)
                      (va_runI ⟨hx, hb, hml, hown, hts⟩ (hM.1 v rfl) ⟨cb _ _, b6, b8⟩ ⟨sd_Pc_blind, hpre _⟩ rfl hlen hsz (by simp) (lv_room hroom) hd ⟨by show _ ≤ mc; omega, by show _ ≤ ms; omega⟩)
                  · cases hs
                · cases hs
              · cases hs
            · cases hs
          · -- invokestatic
            rename_i x
            split at hs
            · rename_i hz9
              obtain ⟨hz1, hz2, hr8⟩ := hz9
              obtain ⟨⟨b1, b2, b3, b4, b5, b9⟩, b6⟩ := hf2 hz1
              have hn : n = 3 := by simpa [ev_len, ev_sw] using hn
              subst hn
              obtain ⟨SA, K, rfl, hSA, hK⟩ := sd_l_split (l := st.take (tb_na (tb_rs k x).2.1)) (l' := st.drop (tb_na (tb_rs k x).2.1)) (by rw [List.take_append_drop]; exact hS)
              have hargs : sd_l (ad0 ++ z) (st.take (tb_na (tb_rs k x).2.1)).reverse SA.reverse := sd_l_rev hSA
              have hlen : SA.reverse.length = tb_na (tb_rs k x).2.1 := by rw [List.length_reverse, sd_l_len hSA, List.length_take]; omega
              have hroom : (K.map fun v => v.category).sum ≤ 8 := by rw [sd_l_sum hK]; exact hr8
              have cb : ∀ mc2 ms2 : Nat, CallB (sd_rm k mc ms) s args (tb_own k) x (tb_y (tb_rs k x).2.1) (tb_b (tb_rs k x).2.1) (tb_ml (tb_rs k x).2.1) (tb_rt (tb_rs k x).2.1) (sd_ws (tb_rs k x).2.1) (sd_rm (tb_rs k x).2.1 mc2 ms2) mc2 ms2 (tb_na (tb_rs k x).2.1) := fun mc2 ms2 => callB_of _ hts (hG _ b4) rfl rfl rfl b3 b2 b5 b9
              split at hs
              · rename_i v h2 hcall
                have hmm := ev_m_c d f0 _ _ _ _ hcall
                have hm1 := ev_1_c (ev_m_c d f0) _ _ _ _ _ _ _ hs
                have hmm : hp_c h ≤ hp_c h2 ∧ hp_s h ≤ hp_s h2 := hmm
                have hM := IH _ _ _ _ b1 hcall (ad0 ++ z) H.size _ hargs (hp_c h2 - hp_c h) (hp_s h2 - hp_s h) (by show _ = hp_c h2; omega) (by show _ = hp_s h2; omega)
                exact goR v h2 _ K _ (hp_c h2 - hp_c h) (hp_s h2 - hp_s h) hK hs (by omega) (by omega)
                  (va_runS ⟨hx, hb, hml, hown, hts⟩ (hM.1 v rfl) ⟨cb _ _, b6⟩ ⟨sd_Pc_blind, hpre _⟩ rfl hlen hsz (by simp) (lv_room hroom) hd ⟨by show _ ≤ mc; omega, by show _ ≤ ms; omega⟩)
              · rename_i q h2 hcall
                have hmm := ev_m_c d f0 _ _ _ _ hcall
                have hmm : hp_c h ≤ hp_c h2 ∧ hp_s h ≤ hp_s h2 := hmm
                have ho : o = (.inr q, h2) := (Option.some.inj hs).symm
                have hoc : hp_c o.2 = hp_c h2 := by rw [ho]
                have hos : hp_s o.2 = hp_s h2 := by rw [ho]
                have hM := IH _ _ _ _ b1 hcall (ad0 ++ z) H.size _ hargs (hp_c h2 - hp_c h) (hp_s h2 - hp_s h) (by show _ = hp_c h2; omega) (by show _ = hp_s h2; omega)
                exact goX q h2 K (hp_c h2 - hp_c h) (hp_s h2 - hp_s h) ho (by omega) (by omega)
                  (fun T hT X => sx_callS X hx hown (hM.2 q rfl) ⟨cb _ _, b6⟩ ⟨sd_Pc_blind, hpre _⟩ hT (g := F0 m pc ls (SA ++ K)) rfl hlen (by rw [hml]; exact hsz) (by simp) (lv_room hroom) (by rw [hb]; exact hd) ⟨by show _ ≤ mc; omega, by show _ ≤ ms; omega⟩)
              · cases hs
            · cases hs
          · cases hs
theorem sd_lg {ad : List Nat} : ∀ {l k : List Value}, sd_l ad l k → (lg_sl k).length = l.length
  | [], [], _ => rfl
  | _ :: l, w :: k, h => by
    have h1 := sd_v_cat h.1
    have h2 := sd_lg h.2
    unfold lg_sl at h2 ⊢
    rw [List.flatMap_cons, if_neg (by omega), List.length_append, List.length_cons, List.length_nil, h2, List.length_cons]
    omega
  | [], _ :: _, h => False.elim h
  | _ :: _, [], h => False.elim h
theorem sd_args {ad : List Nat} : ∀ {l k : List Value} (j : Nat), sd_l ad l k → ∀ (i : Nat) (v : Value), l[i]? = some v → ∃ w : Value, sd_v ad v w ∧ (j + i, w) ∈ lv_args j k
  | [], [], _, _, i, v, hi => by simp at hi
  | u :: l, w :: k, j, h, i, v, hi => by
    have h1 := sd_v_cat h.1
    cases i with
    | zero =>
      simp only [List.getElem?_cons_zero, Option.some.injEq] at hi
      subst hi
      exact ⟨w, h.1, by unfold lv_args; exact List.mem_cons_self⟩
    | succ i =>
      rw [List.getElem?_cons_succ] at hi
      obtain ⟨w2, h3, h4⟩ := sd_args (j + 1) h.2 i v hi
      refine ⟨w2, h3, ?_⟩
      unfold lv_args
      rw [if_neg (by omega)]
      rw [show j + (i + 1) = j + 1 + i by omega]
      exact List.mem_cons_of_mem _ h4
  | [], _ :: _, _, h, _, _, _ => False.elim h
  | _ :: _, [], _, h, _, _, _ => False.elim h
-- every run of the evaluator is a run of the machine
theorem sd_main (htb : sd_tb) (hlt : l.stackTraces = false) (D : va_G) : ∀ (d f k : Nat) (as : List Value) (h : hp_T) (o : ev_O), tb_ok k = true → ev_m d f k as h = some o → ∀ (ad : List Nat) (sz : Nat) (asC : List Value), sd_l ad as asC → sd_Mt l D k ad h sz asC o := by
  intro d
  induction d with
  | zero => intro f k as h o _ hs; cases hs
  | succ d ih =>
    intro f k as h o hk hs ad sz asC has mc ms hmc hms
    rw [ev_m] at hs
    split at hs
    · rename_i hlen
      obtain ⟨hpl, hyo, -, hdec, hfacts⟩ := htb.2.2 k hk
      have body : ∀ p e s m args below meth c s₁, BodyLoose p l (tb_y k) (headSpec (sd_ws k) (sd_rm k mc ms)) (tb_b k) (tb_ml k) (tb_rt k) e s m args below meth c s₁ → c.maxLocals = tb_ml k → sd_Pc D ad h sz asC args s →
          W p l e (headSpec (sd_ws k) (sd_rm k mc ms)).room s m args below meth c s.heap [] 0 0 (sd_MQ below D ad sz o args s mc ms) (entryFrame m args (tb_ml k)) := by
        intro p e s m args below meth c s₁ B hml hv
        obtain ⟨rfl, hsz, hw, hxh, hxa, hg⟩ := hv
        subst hsz
        have hout := sx_notable B rfl
        have hts := atoms_spec (ws := sd_ws k) B.pre
        have hown : s.vm.findClass (tb_own k) = some m.cls := by rw [hyo]; exact findClass_of_methodNamed B.named
        have hnm : meth.name = (tb_y k).name := (name_of_methodNamed B.named B.method).1
        have hlg := sd_lg has
        have hl := lv_entry asC (n := tb_ml k) (by rw [hlg]; exact hlen)
        rw [lg_entry_eq]
        generalize (lg_sl asC ++ List.replicate (tb_ml k - (lg_sl asC).length) Slot.unset).toArray = ls at hl ⊢
        refine sd_one htb hlt hk (fun k2 as h o hk2 => ih f k2 as h o hk2) B.exec B.bytes hml B.returns hown B.notSynchronized hnm hout hts hxh hxa hg hw hmc hms f 0 _ [] h hs [] s.heap [] 0 0 ls [] (by rw [List.append_nil]; exact hw) va_S.rf ⟨by simp; omega, _, hl, fun i v hi hv => ?_⟩ trivial (by omega) (by omega)
        rw [List.append_nil]
        by_cases hlt2 : i < as.length
        · rw [List.getElem?_append_left hlt2] at hi
          obtain ⟨w, h1, h2⟩ := sd_args 0 has i v hi
          exact ⟨w, h1, by rw [Nat.zero_add] at h2; exact h2⟩
        · rw [List.getElem?_append_right (by omega)] at hi
          exact absurd (List.eq_of_mem_replicate (List.mem_of_getElem? hi)) hv
      obtain ⟨r, h2⟩ := o
      cases r with
      | inl v =>
        refine ⟨fun _ _ => Met.ofW (cc := tb_b k) (maxL := tb_ml k) (ret := tb_rt k) hpl rfl body, fun q hq => ?_⟩
        cases hq
      | inr q =>
        refine ⟨fun v hv => ?_, fun q2 hq => ?_⟩
        · cases hv
        · cases hq
          exact sx_ofW (cc := tb_b k) (maxL := tb_ml k) (ret := tb_rt k) hpl rfl body
    · cases hs
end MainC
