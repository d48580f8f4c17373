section StepA
theorem sd_def (ci N : Nat) : ∀ j, j < N → defaultValue (tb_ft ci j) = vp_V ((List.range N).map (fun k => defaultValue (tb_ft ci k))) j := by
  intro j hj
  unfold vp_V
  simp [List.getD_eq_getElem?_getD, hj]
theorem sd_fnew {ad : List Nat} {ci N : Nat} (hN : tb_nf ci = N) (h : ∀ k, k < N → ev_rr (tb_ft ci k) = true ∨ defaultValue (tb_ft ci k) = .int 0) : sd_f ad ci (fun _ => 0) (fun _ => none) ((List.range N).map (fun k => defaultValue (tb_ft ci k))) := by
  intro k hk
  rw [hN] at hk
  refine ⟨defaultValue (tb_ft ci k), by simp [hk], ?_⟩
  cases hr : ev_rr (tb_ft ci k) with
  | true =>
    refine Or.inl ⟨rfl, none, rfl, ?_⟩
    generalize tb_ft ci k = ty at hr
    cases ty <;> first | rfl | cases hr
  | false =>
    refine Or.inr ⟨rfl, ?_⟩
    rcases h k hk with h | h
    · rw [hr] at h; cases h
    · exact h
theorem sd_zwk (h : hp_T) (i : Nat) (f : Nat → Int32) : hp_c (hp_zw h i f) = hp_c h ∧ hp_s (hp_zw h i f) = hp_s h := ⟨rfl, rfl⟩
end StepA
section StepB
variable {p : Program} {l : Launch} {e : Env} {R : Room} {s : State} {m : MethodId} {args : Array Value} {below : List Frame} {meth : Method} {c : Code} {H : Heap} {locs : List Loc} {cells slots : Nat} {Q : State → Prop} {cc : ByteArray}
set_option maxHeartbeats 8000000 in
set_option maxRecDepth 100000 in
theorem sd_h (hcl : sd_cl) (hx : p.tables.exec = Jvm.exec) (hb : c.code = cc) {nL : Nat} (hml : c.maxLocals = nL) {own : String} {rs : Nat → ev_R} {Ts : List Jvm.Cond} (hown : s.vm.findClass own = some m.cls) (hts : ∀ w ∈ Ts, w.before args s = true)
    {D : va_G} {A : Nat → Prop} {ad : List Nat} {pc : Nat} {i : Instr} {L st st' : List Value} {h h' : hp_T} (hs : ev_h rs i st h = some (st', h')) (hd : decode cc pc = .ok (i, ev_len i)) (hok : sd_i Ts own rs args s meth.name i)
    (hw : sd_w D A ad h s H) (hSt : va_S A s.heap H locs) (hA : ∀ q, s.heap.size ≤ q → A q) {ls : Array Slot} {S : List Value} (hl : sd_s ad nL L ls) (hS : sd_l ad st S) (hRf : 1 ≤ R.frames) (hRl : 60 ≤ R.locals)
    {c0 s0 : Nat} (hc : cells + c0 = hp_c h) (hsl : slots + s0 = hp_s h) (hRc : hp_c h' ≤ R.cells + c0) (hRs : hp_s h' ≤ R.slots + s0)
    (kk : ∀ (z : List Nat) (H1 : Heap) (locs1 : List Loc) (S' : List Value) (cells' slots' : Nat), sd_w D A (ad ++ z) h' s H1 → va_S A s.heap H1 locs1 → sd_l (ad ++ z) st' S' → cells' + c0 = hp_c h' → slots' + s0 = hp_s h' → W p l e R s m args below meth c H1 locs1 cells' slots' Q (F0 m (pc + ev_len i) ls S')) :
    W p l e R s m args below meth c H locs cells slots Q (F0 m pc ls S) := by
  have hsz : ls.size = nL := by obtain ⟨-, lst, h9, -⟩ := hl; exact h9.1
  have kr : h' = h → ∀ S' : List Value, sd_l ad st' S' → W p l e R s m args below meth c H locs cells slots Q (F0 m (pc + ev_len i) ls S') := by
    intro e9 S' h9
    subst e9
    exact kk [] H locs S' cells slots (by rw [List.append_nil]; exact hw) hSt (by rw [List.append_nil]; exact h9) hc hsl
  have kw : hp_c h' = hp_c h → hp_s h' = hp_s h → ∀ (H1 : Heap) (locs1 : List Loc) (S' : List Value), sd_w D A ad h' s H1 → va_S A s.heap H1 locs1 → sd_l ad st' S' → W p l e R s m args below meth c H1 locs1 cells slots Q (F0 m (pc + ev_len i) ls S') := by
    intro e8 e9 H1 locs1 S' h7 h8 h9
    exact kk [] H1 locs1 S' cells slots (by rw [List.append_nil]; exact h7) h8 (by rw [List.append_nil]; exact h9) (by rw [e8]; exact hc) (by rw [e9]; exact hsl)
  cases i with
  | ldc x =>
    simp only [ev_h] at hs
    split at hs
    · rename_i hz
      simp only [Option.some.injEq, Prod.mk.injEq] at hs
      obtain ⟨rfl, rfl⟩ := hs
      exact lv_ldc hx hb hown (hok hz) hd (kr rfl _ ⟨rfl, hS⟩)
    · cases hs
  | ldc_w x =>
    simp only [ev_h] at hs
    split at hs
    · rename_i hz
      simp only [Option.some.injEq, Prod.mk.injEq] at hs
      obtain ⟨rfl, rfl⟩ := hs
      exact lv_ldcw hx hb hown (hok hz) hd (kr rfl _ ⟨rfl, hS⟩)
    · cases hs
  | getfield x =>
    simp only [ev_h] at hs
    split at hs
    · rename_i a r
      split at hs
      · rename_i hz
        obtain ⟨hz1, hz2⟩ := hz
        simp only [Option.some.injEq, Prod.mk.injEq] at hs
        obtain ⟨rfl, rfl⟩ := hs
        obtain ⟨C, T, N, ref, hc1, hk1, hin, hlink, hsame⟩ := hok hz1
        obtain ⟨h64, hN, hty, hnm, -⟩ := hcl _ _ _ _ hc1
        obtain ⟨ws, tys, hK, hP, hD, hlw, hla, hr⟩ := hw
        obtain ⟨q, E, hq, hws, hE⟩ := hr _ _ _ hz2
        obtain ⟨fs, rfl, hfs⟩ := sd_e_o hE h64
        obtain ⟨q2, K, hq2, rfl, hKS1⟩ := sd_l_r hS
        cases Option.some.inj (hq.symm.trans hq2)
        obtain ⟨w, hw1, hw2⟩ := hfs _ (by rw [hN]; exact hk1)
        have hv : sd_v ad (ev_fv h a (rs x).2.1 (rs x).2.2.1) w := by
          unfold ev_fv
          rcases hw2 with ⟨h1, y, h2, rfl⟩ | ⟨h1, rfl⟩
          · rw [if_pos h1]; exact sd_o_v h2
          · rw [if_neg (by rw [h1]; simp)]; exact rfl
        rcases hlink with hlink | ⟨host, hlink⟩
        · exact va_get (D := D) hx hb hts hin hown hK hP a hws hc1 _ hk1 hlink hsame hw1 hd (kr rfl _ ⟨hv, hKS1⟩)
        · exact va_getN (D := D) hx hb hts hin hown hK hP a hws hc1 _ hk1 hlink hsame hw1 hd (kr rfl _ ⟨hv, hKS1⟩)
      · cases hs
    · cases hs
  | putfield x =>
    simp only [ev_h] at hs
    split at hs
    · rename_i v a r
      split at hs
      · rename_i hz
        obtain ⟨hz1, hz2, hz3, hz4, hz5⟩ := hz
        simp only [Option.some.injEq, Prod.mk.injEq] at hs
        obtain ⟨rfl, rfl⟩ := hs
        obtain ⟨C, T, N, ref, hc1, hk1, hin, hlink, hsame⟩ := hok hz1
        obtain ⟨h64, hN, hty, hnm, -⟩ := hcl _ _ _ _ hc1
        obtain ⟨ws, tys, hK, hP, hD, hr9⟩ := hw
        obtain ⟨hlw, hla, hr⟩ := id hr9
        obtain ⟨q, E, hq, hws, hE⟩ := hr _ _ _ hz2
        obtain ⟨fs, rfl, hfs⟩ := sd_e_o hE h64
        obtain ⟨K, rfl, hKS2⟩ := sd_l_i hS
        obtain ⟨q2, K, hq2, rfl, hKS3⟩ := sd_l_r hKS2
        cases Option.some.inj (hq.symm.trans hq2)
        obtain ⟨w, hw1, hw2⟩ := hfs _ (by rw [hN]; exact hk1)
        have hlen := (List.getElem?_eq_some_iff.mp hw1).1
        have hnew : ∀ (H1 : Heap) (locs1 : List Loc), va_P D vwCl (ws.set a (q, .inr ((rs x).2.1, fs.set (rs x).2.2.1 (.int v)))) H1 → va_D A (ws.set a (q, .inr ((rs x).2.1, fs.set (rs x).2.2.1 (.int v)))) → va_S A s.heap H1 locs1 → W p l e R s m args below meth c H1 locs1 cells slots Q (F0 m (pc + 3) ls K) := by
          intro H1 locs1 hP1 hD1 hS1
          refine kw rfl rfl H1 locs1 K ⟨_, tys, hK, hP1, hD1, sd_r_set hr9 hz2 hq ?_ rfl (fun j hj => va_up_ne _ _ hj) (fun _ _ => rfl)⟩ hS1 hKS3
          refine Or.inl ⟨h64, _, rfl, ?_⟩
          have e1 : hp_z (hp_zw h a (upd (hp_z h a) (rs x).2.2.1 v)) a = upd (hp_z h a) (rs x).2.2.1 v := va_up_self _ _ _
          rw [e1]
          exact sd_f_zw hfs hz3 (by rw [hN]; exact hk1)
        rcases hlink with ⟨hfin, hlink | ⟨host, hlink⟩⟩ | ⟨hfin, hnm2, hdecl, hlink⟩
        · exact va_put (D := D) hx hb hts hin _ hty hnm hown hK hP hD hSt a hws hc1 _ hk1 hlink hsame hfin (hty _ hk1) hz4 hz5 hlen hd hnew
        · exact va_putN (D := D) hx hb hts hin _ hty hnm hown hK hP hD hSt a hws hc1 _ hk1 hlink hsame hfin (hty _ hk1) hz4 hz5 hlen hd hnew
        · exact va_putF (D := D) hx hb hts hin _ hty hnm hown hK hP hD hSt a hws hc1 _ hk1 hlink hsame hfin hnm2 hdecl (hty _ hk1) hz4 hz5 hlen hd hnew
      · cases hs
    · rename_i v a r
      split at hs
      · rename_i hz
        obtain ⟨hz1, hz2, hz3⟩ := hz
        simp only [Option.some.injEq, Prod.mk.injEq] at hs
        obtain ⟨rfl, rfl⟩ := hs
        obtain ⟨C, T, N, ref, hc1, hk1, hin, hlink, hsame⟩ := hok hz1
        obtain ⟨h64, hN, hty, hnm, -⟩ := hcl _ _ _ _ hc1
        obtain ⟨ws, tys, hK, hP, hD, hr9⟩ := hw
        obtain ⟨hlw, hla, hr⟩ := id hr9
        obtain ⟨q, E, hq, hws, hE⟩ := hr _ _ _ hz2
        obtain ⟨fs, rfl, hfs⟩ := sd_e_o hE h64
        obtain ⟨v2, K, hv2, rfl, hKS4⟩ := sd_l_r hS
        obtain ⟨q2, K, hq2, rfl, hKS5⟩ := sd_l_r hKS4
        cases Option.some.inj (hq.symm.trans hq2)
        obtain ⟨w, hw1, hw2⟩ := hfs _ (by rw [hN]; exact hk1)
        have hlen := (List.getElem?_eq_some_iff.mp hw1).1
        have hz4 : narrow (tb_ft (rs x).2.1 (rs x).2.2.1) (.ref v2) = .ref v2 := by
          generalize tb_ft (rs x).2.1 (rs x).2.2.1 = ty
          cases ty <;> rfl
        have hz5 : fits (tb_ft (rs x).2.1 (rs x).2.2.1) (.ref v2) = true := by
          generalize tb_ft (rs x).2.1 (rs x).2.2.1 = ty at hz3
          cases ty <;> first | rfl | cases hz3
        have hnew : ∀ (H1 : Heap) (locs1 : List Loc), va_P D vwCl (ws.set a (q, .inr ((rs x).2.1, fs.set (rs x).2.2.1 (.ref v2)))) H1 → va_D A (ws.set a (q, .inr ((rs x).2.1, fs.set (rs x).2.2.1 (.ref v2)))) → va_S A s.heap H1 locs1 → W p l e R s m args below meth c H1 locs1 cells slots Q (F0 m (pc + 3) ls K) := by
          intro H1 locs1 hP1 hD1 hS1
          refine kw rfl rfl H1 locs1 K ⟨_, tys, hK, hP1, hD1, sd_r_set hr9 hz2 hq ?_ rfl (fun _ _ => rfl) (fun j hj => va_up_ne _ _ hj)⟩ hS1 hKS5
          refine Or.inl ⟨h64, _, rfl, ?_⟩
          have e1 : hp_p (hp_pw h a (rs x).2.2.1 (some v)) a = va_up (hp_p h a) (rs x).2.2.1 (some v) := va_up_self _ _ _
          rw [e1]
          exact sd_f_pw hfs hz3 (by rw [hN]; exact hk1) hv2
        rcases hlink with ⟨hfin, hlink | ⟨host, hlink⟩⟩ | ⟨hfin, hnm2, hdecl, hlink⟩
        · exact va_put (D := D) hx hb hts hin _ hty hnm hown hK hP hD hSt a hws hc1 _ hk1 hlink hsame hfin (hty _ hk1) hz4 hz5 hlen hd hnew
        · exact va_putN (D := D) hx hb hts hin _ hty hnm hown hK hP hD hSt a hws hc1 _ hk1 hlink hsame hfin (hty _ hk1) hz4 hz5 hlen hd hnew
        · exact va_putF (D := D) hx hb hts hin _ hty hnm hown hK hP hD hSt a hws hc1 _ hk1 hlink hsame hfin hnm2 hdecl (hty _ hk1) hz4 hz5 hlen hd hnew
      · cases hs
    · cases hs
  | iaload =>
    simp only [ev_h] at hs
    split at hs
    · rename_i j a r
      split at hs
      · rename_i t n hz2
        split at hs
        · rename_i hz
          obtain ⟨rfl, hj⟩ := hz
          simp only [Option.some.injEq, Prod.mk.injEq] at hs
          obtain ⟨rfl, rfl⟩ := hs
          obtain ⟨ws, tys, hK, hP, hD, hlw, hla, hr⟩ := hw
          obtain ⟨q, E, hq, hws, hE⟩ := hr _ _ _ hz2
          obtain ⟨cA, rfl, hm, -⟩ := sd_e_a hE (by decide) (by decide)
          obtain ⟨t0, ht0⟩ := List.getElem?_of_mem hm
          obtain ⟨K, rfl, hKS6⟩ := sd_l_i hS
          obtain ⟨q2, K, hq2, rfl, hKS7⟩ := sd_l_r hKS6
          cases Option.some.inj (hq.symm.trans hq2)
          exact va_iald hx hb hK hP a t0 hws ht0 (ev_in_of hj) hd (kr rfl _ ⟨rfl, hKS7⟩)
        · cases hs
      · cases hs
    · cases hs
  | baload =>
    simp only [ev_h] at hs
    split at hs
    · rename_i j a r
      split at hs
      · rename_i t n hz2
        split at hs
        · rename_i hz
          obtain ⟨ht, hj⟩ := hz
          simp only [Option.some.injEq, Prod.mk.injEq] at hs
          obtain ⟨rfl, rfl⟩ := hs
          obtain ⟨ws, tys, hK, hP, hD, hlw, hla, hr⟩ := hw
          obtain ⟨q, E, hq, hws, hE⟩ := hr _ _ _ hz2
          obtain ⟨K, rfl, hKS8⟩ := sd_l_i hS
          obtain ⟨q2, K, hq2, rfl, hKS9⟩ := sd_l_r hKS8
          cases Option.some.inj (hq.symm.trans hq2)
          rcases ht with rfl | rfl
          · obtain ⟨cA, rfl, hm, -⟩ := sd_e_a hE (by decide) (by decide)
            obtain ⟨t0, ht0⟩ := List.getElem?_of_mem hm
            exact va_bald hx hb hK hP a t0 hws ht0 (ev_in_of hj) hd (kr rfl _ ⟨rfl, hKS9⟩)
          · obtain ⟨cA, rfl, hm, -⟩ := sd_e_a hE (by decide) (by decide)
            obtain ⟨t0, ht0⟩ := List.getElem?_of_mem hm
            exact va_zald hx hb hK hP a t0 hws ht0 (ev_in_of hj) hd (kr rfl _ ⟨rfl, hKS9⟩)
        · cases hs
      · cases hs
    · cases hs
  | aaload =>
    simp only [ev_h] at hs
    split at hs
    · rename_i j a r
      split at hs
      · rename_i t n hz2
        split at hs
        · rename_i hz
          obtain ⟨ht, hj⟩ := hz
          simp only [Option.some.injEq, Prod.mk.injEq] at hs
          obtain ⟨rfl, rfl⟩ := hs
          obtain ⟨ws, tys, hK, hP, hD, hlw, hla, hr⟩ := hw
          obtain ⟨q, E, hq, hws, hE⟩ := hr _ _ _ hz2
          obtain ⟨K, rfl, hKS10⟩ := sd_l_i hS
          obtain ⟨q2, K, hq2, rfl, hKS11⟩ := sd_l_r hKS10
          cases Option.some.inj (hq.symm.trans hq2)
          obtain ⟨cA, f, rfl, hm, hf⟩ := sd_e_q hE ht
          obtain ⟨t0, ht0⟩ := List.getElem?_of_mem hm
          exact va_aldq hx hb hK hP a t0 hws ht0 (ev_in_of hj) hd (kr rfl _ ⟨sd_o_v (hf _), hKS11⟩)
        · cases hs
      · cases hs
    · cases hs
  | iastore =>
    simp only [ev_h] at hs
    split at hs
    · rename_i v j a r
      split at hs
      · rename_i t n hz2
        split at hs
        · rename_i hz
          obtain ⟨rfl, hj⟩ := hz
          simp only [Option.some.injEq, Prod.mk.injEq] at hs
          obtain ⟨rfl, rfl⟩ := hs
          obtain ⟨ws, tys, hK, hP, hD, hr9⟩ := hw
          obtain ⟨hlw, hla, hr⟩ := id hr9
          obtain ⟨q, E, hq, hws, hE⟩ := hr _ _ _ hz2
          obtain ⟨cA, rfl, hm, hfit⟩ := sd_e_a hE (by decide) (by decide)
          obtain ⟨t0, ht0⟩ := List.getElem?_of_mem hm
          obtain ⟨K, rfl, hKS12⟩ := sd_l_i hS
          obtain ⟨K, rfl, hKS13⟩ := sd_l_i hKS12
          obtain ⟨q2, K, hq2, rfl, hKS14⟩ := sd_l_r hKS13
          cases Option.some.inj (hq.symm.trans hq2)
          refine va_iast hx hb hK hP hD hSt a t0 hws ht0 (ev_in_of hj) hd (fun H1 locs1 hP1 hD1 hS1 => ?_)
          refine kw rfl rfl H1 locs1 K ⟨_, tys, hK, hP1, hD1, sd_r_set hr9 hz2 hq ?_ rfl (fun j hj => va_up_ne _ _ hj) (fun _ _ => rfl)⟩ hS1 hKS14
          have e1 : hp_z (hp_zw h a (upd (hp_z h a) j.toNatClampNeg v)) a = upd (hp_z h a) j.toNatClampNeg v := va_up_self _ _ _
          rw [e1]
          exact Or.inr (Or.inl ⟨by decide, by decide, cA, rfl, hm, fun _ => rfl⟩)
        · cases hs
      · cases hs
    · cases hs
  | bastore =>
    simp only [ev_h] at hs
    split at hs
    · rename_i v j a r
      split at hs
      · rename_i t n hz2
        split at hs
        · rename_i hz
          obtain ⟨ht, hj⟩ := hz
          simp only [Option.some.injEq, Prod.mk.injEq] at hs
          obtain ⟨rfl, rfl⟩ := hs
          obtain ⟨ws, tys, hK, hP, hD, hr9⟩ := hw
          obtain ⟨hlw, hla, hr⟩ := id hr9
          obtain ⟨q, E, hq, hws, hE⟩ := hr _ _ _ hz2
          obtain ⟨K, rfl, hKS15⟩ := sd_l_i hS
          obtain ⟨K, rfl, hKS16⟩ := sd_l_i hKS15
          obtain ⟨q2, K, hq2, rfl, hKS17⟩ := sd_l_r hKS16
          cases Option.some.inj (hq.symm.trans hq2)
          have hnew : ∀ (cA : ClassId) (H1 : Heap) (locs1 : List Loc), (cA, ev_ty t) ∈ tys → (∀ k, fits (ev_ty t) (.int (hp_z h a k)) = true) → 64 ≤ t → t < 100 → va_P D vwCl (ws.set a (q, .inl (cA, n, .inl (upd (hp_z h a) j.toNatClampNeg (vp_nar (ev_ty t) v))))) H1 → va_D A (ws.set a (q, .inl (cA, n, .inl (upd (hp_z h a) j.toNatClampNeg (vp_nar (ev_ty t) v))))) → va_S A s.heap H1 locs1 → W p l e R s m args below meth c H1 locs1 cells slots Q (F0 m (pc + 1) ls K) := by
            intro cA H1 locs1 hm hfit h64 h100 hP1 hD1 hS1
            refine kw rfl rfl H1 locs1 K ⟨_, tys, hK, hP1, hD1, sd_r_set hr9 hz2 hq ?_ rfl (fun j hj => va_up_ne _ _ hj) (fun _ _ => rfl)⟩ hS1 hKS17
            have e1 : hp_z (hp_zw h a (upd (hp_z h a) j.toNatClampNeg (vp_nar (ev_ty t) v))) a = upd (hp_z h a) j.toNatClampNeg (vp_nar (ev_ty t) v) := va_up_self _ _ _
            rw [e1]
            refine Or.inr (Or.inl ⟨h64, h100, cA, rfl, hm, fun k9 => ?_⟩)
            by_cases e9 : k9 = j.toNatClampNeg
            · rw [e9, pk_us]; exact ev_fitN t v
            · rw [pk_un e9]; exact hfit k9
          rcases ht with rfl | rfl
          · obtain ⟨cA, rfl, hm, hfit⟩ := sd_e_a hE (by decide) (by decide)
            obtain ⟨t0, ht0⟩ := List.getElem?_of_mem hm
            exact va_bast hx hb hK hP hD hSt a t0 hws ht0 (ev_in_of hj) hd (fun H1 locs1 hP1 hD1 hS1 => hnew cA H1 locs1 hm hfit (by decide) (by decide) hP1 hD1 hS1)
          · obtain ⟨cA, rfl, hm, hfit⟩ := sd_e_a hE (by decide) (by decide)
            obtain ⟨t0, ht0⟩ := List.getElem?_of_mem hm
            exact va_zast hx hb hK hP hD hSt a t0 hws ht0 (ev_in_of hj) hd (fun H1 locs1 hP1 hD1 hS1 => hnew cA H1 locs1 hm hfit (by decide) (by decide) hP1 hD1 hS1)
        · cases hs
      · cases hs
    · cases hs
  | aastore =>
    simp only [ev_h] at hs
    split at hs
    · rename_i v j a r
      split at hs
      · rename_i t n hz2
        split at hs
        · rename_i hz
          obtain ⟨ht, hj, hv9, h64⟩ := hz
          simp only [Option.some.injEq, Prod.mk.injEq] at hs
          obtain ⟨rfl, rfl⟩ := hs
          obtain ⟨ws, tys, hK, hP, hD, hr9⟩ := hw
          obtain ⟨hlw, hla, hr⟩ := id hr9
          obtain ⟨q, E, hq, hws, hE⟩ := hr _ _ _ hz2
          obtain ⟨qv, Ev, hqv, hwsv, hEv⟩ := hr _ _ _ hv9
          obtain ⟨fs, rfl, hfs⟩ := sd_e_o hEv h64
          obtain ⟨v2, K, hv2, rfl, hKS18⟩ := sd_l_r hS
          cases Option.some.inj (hqv.symm.trans hv2)
          obtain ⟨K, rfl, hKS19⟩ := sd_l_i hKS18
          obtain ⟨q2, K, hq2, rfl, hKS20⟩ := sd_l_r hKS19
          cases Option.some.inj (hq.symm.trans hq2)
          obtain ⟨cA, f, rfl, hm, hf⟩ := sd_e_q hE ht
          obtain ⟨t0, ht0⟩ := List.getElem?_of_mem hm
          obtain ⟨r9, hr8, -⟩ := hP _ _ hwsv
          have hr8 : vwCl[t - 100]? = some r9 := hr8
          have en : ev_cn (t - 100) = r9.1 := by unfold ev_cn; rw [hr8]
          rw [en] at ht0
          refine va_astq hx hb hK hP hD hSt a t0 v (t - 100) hws ht0 hwsv hr8 (ev_in_of hj) hd (fun H1 locs1 hP1 hD1 hS1 => ?_)
          refine kw rfl rfl H1 locs1 K ⟨_, tys, hK, hP1, hD1, sd_r_set hr9 hz2 hq ?_ rfl (fun _ _ => rfl) (fun j hj => va_up_ne _ _ hj)⟩ hS1 hKS20
          have e1 : hp_p (hp_pw h a j.toNatClampNeg (some v)) a = va_up (hp_p h a) j.toNatClampNeg (some v) := va_up_self _ _ _
          rw [e1]
          refine Or.inr (Or.inr ⟨ht, cA, _, rfl, hm, fun k9 => ?_⟩)
          by_cases e9 : k9 = j.toNatClampNeg
          · rw [e9, va_up_self, va_up_self]; exact ⟨qv, hqv, rfl⟩
          · rw [va_up_ne _ _ e9, va_up_ne _ _ e9]; exact hf k9
        · cases hs
      · cases hs
    · cases hs
  | arraylength =>
    simp only [ev_h] at hs
    split at hs
    · rename_i a r
      split at hs
      · rename_i t n hz2
        split at hs
        · rename_i ht
          simp only [Option.some.injEq, Prod.mk.injEq] at hs
          obtain ⟨rfl, rfl⟩ := hs
          obtain ⟨ws, tys, hK, hP, hD, hlw, hla, hr⟩ := hw
          obtain ⟨q, E, hq, hws, hE⟩ := hr _ _ _ hz2
          obtain ⟨q2, K, hq2, rfl, hKS21⟩ := sd_l_r hS
          cases Option.some.inj (hq.symm.trans hq2)
          by_cases h100 : t < 100
          · obtain ⟨cA, rfl, hm, -⟩ := sd_e_a hE ht h100
            obtain ⟨t0, ht0⟩ := List.getElem?_of_mem hm
            exact va_alen hx hb hK hP a t0 hws ht0 rfl hd (kr rfl _ ⟨rfl, hKS21⟩)
          · obtain ⟨cA, f, rfl, hm, -⟩ := sd_e_q hE (by omega)
            obtain ⟨t0, ht0⟩ := List.getElem?_of_mem hm
            exact va_alen hx hb hK hP a t0 hws ht0 rfl hd (kr rfl _ ⟨rfl, hKS21⟩)
        · cases hs
      · cases hs
    · cases hs
  | newarray y =>
    simp only [ev_h] at hs
    split at hs
    · rename_i n r
      split at hs
      · rename_i hz
        obtain ⟨hz1, hz2, hz3⟩ := hz
        simp only [Option.some.injEq, Prod.mk.injEq] at hs
        obtain ⟨rfl, rfl⟩ := hs
        obtain ⟨ws, tys, hK, hP, hD, hr9⟩ := hw
        obtain ⟨K, rfl, hKS22⟩ := sd_l_i hS
        have hla : ad.length = h.1.length := hr9.2.1
        have hcc : cells + 1 + c0 = hp_c h + 1 := by omega
        have hss : slots + n.toNatClampNeg + s0 = hp_s h + n.toNatClampNeg := by omega
        have hRc2 : cells + 1 ≤ R.cells := by
          have h9 : hp_c h + 1 ≤ R.cells + c0 := hRc
          omega
        have hRs2 : slots + n.toNatClampNeg ≤ R.slots := by
          have h9 : hp_s h + n.toNatClampNeg ≤ R.slots + s0 := hRs
          omega
        have hnew : ∀ (ty : FieldType) (q : Nat) (cA : ClassId) (H1 : Heap), ev_ty (ev_at y) = ty → ev_at y < 100 → va_K D vwCl (tys ++ [(cA, ty)]) s → va_P D vwCl (ws ++ [(q, .inl (cA, n.toNatClampNeg, .inl (fun _ => 0)))]) H1 → va_D A (ws ++ [(q, .inl (cA, n.toNatClampNeg, .inl (fun _ => 0)))]) → va_S A s.heap H1 locs → W p l e R s m args below meth c H1 locs (cells + 1) (slots + n.toNatClampNeg) Q (F0 m (pc + 2) ls (.ref q :: K)) := by
          intro ty q cA H1 ety h100 hK1 hP1 hD1 hS1
          refine kk [q] H1 locs (.ref q :: K) _ _ ⟨_, _, hK1, hP1, hD1, sd_r_new hr9 ?_⟩ hS1 ⟨⟨q, by rw [← hla, List.getElem?_append_right (Nat.le_refl _)]; simp, rfl⟩, sd_l_mono hKS22⟩ hcc hss
          refine Or.inr (Or.inl ⟨hz3, h100, cA, rfl, ?_, fun _ => ev_fit0 _⟩)
          rw [ety]; exact List.mem_append_right _ List.mem_cons_self
        cases y with
        | int => exact va_newa hx hb hok rfl hK hP hD hSt hA (a0 := (n.toNatClampNeg, .inl (fun _ => 0))) (fun _ => rfl) hz1 rfl (by show n.toNatClampNeg * 4 ≤ 536870912; omega) hRc2 hRs2 hd (fun q cA H1 h1 h2 h3 h4 => hnew _ q cA H1 rfl (by decide) h1 h2 h3 h4)
        | byte => exact va_newa hx hb hok rfl hK hP hD hSt hA (a0 := (n.toNatClampNeg, .inl (fun _ => 0))) (fun _ => rfl) hz1 rfl (by show n.toNatClampNeg * 1 ≤ 536870912; omega) hRc2 hRs2 hd (fun q cA H1 h1 h2 h3 h4 => hnew _ q cA H1 rfl (by decide) h1 h2 h3 h4)
        | boolean => exact va_newa hx hb hok rfl hK hP hD hSt hA (a0 := (n.toNatClampNeg, .inl (fun _ => 0))) (fun _ => rfl) hz1 rfl (by show n.toNatClampNeg * 1 ≤ 536870912; omega) hRc2 hRs2 hd (fun q cA H1 h1 h2 h3 h4 => hnew _ q cA H1 rfl (by decide) h1 h2 h3 h4)
        | _ => exact absurd hz3 (by decide)
      · cases hs
    · cases hs
  | anewarray x =>
    simp only [ev_h] at hs
    split at hs
    · rename_i n r
      split at hs
      · rename_i hz
        obtain ⟨hz1, hz2, hz3⟩ := hz
        simp only [Option.some.injEq, Prod.mk.injEq] at hs
        obtain ⟨rfl, rfl⟩ := hs
        obtain ⟨C, T, N, hc1, hlk, hao⟩ := hok hz3
        obtain ⟨ws, tys, hK, hP, hD, hr9⟩ := hw
        obtain ⟨K, rfl, hKS23⟩ := sd_l_i hS
        have hla : ad.length = h.1.length := hr9.2.1
        have hcc : cells + 1 + c0 = hp_c h + 1 := by omega
        have hss : slots + n.toNatClampNeg + s0 = hp_s h + n.toNatClampNeg := by omega
        have hRc2 : cells + 1 ≤ R.cells := by
          have h9 : hp_c h + 1 ≤ R.cells + c0 := hRc
          omega
        have hRs2 : slots + n.toNatClampNeg ≤ R.slots := by
          have h9 : hp_s h + n.toNatClampNeg ≤ R.slots + s0 := hRs
          omega
        refine va_newq hx hb hown hlk hao hK hP hD hSt hA hz1 rfl (by omega) hRc2 hRs2 hd (fun q cA H1 hK1 hP1 hD1 hS1 => ?_)
        refine kk [q] H1 locs (.ref q :: K) _ _ ⟨_, _, hK1, hP1, hD1, sd_r_new hr9 ?_⟩ hS1 ⟨⟨q, by rw [← hla, List.getElem?_append_right (Nat.le_refl _)]; simp, rfl⟩, sd_l_mono hKS23⟩ hcc hss
        refine Or.inr (Or.inr ⟨by omega, cA, _, rfl, ?_, fun _ => rfl⟩)
        have en : ev_cn (100 + (rs x).2.1 - 100) = C := by
          rw [Nat.add_sub_cancel_left]
          unfold ev_cn
          rw [hc1]
        rw [en]; exact List.mem_append_right _ List.mem_cons_self
      · cases hs
    · cases hs
  | new x =>
    simp only [ev_h] at hs
    split at hs
    · rename_i hz
      obtain ⟨hz1, h64⟩ := hz
      simp only [Option.some.injEq, Prod.mk.injEq] at hs
      obtain ⟨rfl, rfl⟩ := hs
      obtain ⟨C, T, hc1, hin, hlk, hinst, hini⟩ := hok hz1
      obtain ⟨-, hN, hty, hnm, hdf⟩ := hcl _ _ _ _ hc1
      obtain ⟨ws, tys, hK, hP, hD, hr9⟩ := hw
      have hla : ad.length = h.1.length := hr9.2.1
      have hcc : cells + 1 + c0 = hp_c h + 1 := by omega
      have hss : slots + (rs x).2.2.1 + s0 = hp_s h + (rs x).2.2.1 := by omega
      have hRc2 : cells + 1 ≤ R.cells := by
        have h9 : hp_c h + 1 ≤ R.cells + c0 := hRc
        omega
      have hRs2 : slots + (rs x).2.2.1 ≤ R.slots := by
        have h9 : hp_s h + (rs x).2.2.1 ≤ R.slots + s0 := hRs
        omega
      refine va_new hx hb hts hin _ hty hown hlk hinst hini hK hP hD hSt hA hc1 (sd_def _ _) hRc2 hRs2 hd (fun q H1 hP1 hD1 hS1 => ?_)
      refine kk [q] H1 locs (.ref q :: S) _ _ ⟨_, tys ++ [], by rw [List.append_nil]; exact hK, hP1, hD1, sd_r_new hr9 (t2 := []) ?_⟩ hS1 ⟨⟨q, by rw [← hla, List.getElem?_append_right (Nat.le_refl _)]; simp, rfl⟩, sd_l_mono hS⟩ hcc hss
      exact Or.inl ⟨h64, _, rfl, sd_fnew hN hdf⟩
    · cases hs
  | invokespecial x =>
    simp only [ev_h] at hs
    split at hs
    · rename_i a r
      split at hs
      · rename_i hz
        obtain ⟨hz1, hz2⟩ := hz
        simp only [Option.some.injEq, Prod.mk.injEq] at hs
        obtain ⟨rfl, rfl⟩ := hs
        obtain ⟨h1, h2, h3⟩ := hok hz1
        obtain ⟨q2, K, hq2, rfl, hKS24⟩ := sd_l_r hS
        have hsum := sd_l_sum hKS24
        refine W.objInit hx hb hown h1 h2 h3 rfl (by rw [hml]; exact hsz) rfl hd hRf (Nat.le_trans (Nat.add_le_add_right (lv_room (by rw [hsum]; exact hz2)) 12) (by omega)) ?_
        exact kr rfl _ hKS24
      · cases hs
    · cases hs
  | invokestatic x =>
    simp only [ev_h] at hs
    split at hs
    · rename_i v w b u a r
      split at hs
      · rename_i hz
        obtain ⟨hz1, hz2⟩ := hz
        split at hs
        · rename_i t n t2 n2 hka hkb
          split at hs
          · rename_i hy
            obtain ⟨rfl, h64, h100, hu, hw9, hv, h4, h5⟩ := hy
            simp only [Option.some.injEq, Prod.mk.injEq] at hs
            obtain ⟨rfl, rfl⟩ := hs
            obtain ⟨y1, y2, y3, y4⟩ := hok.1 hz1
            obtain ⟨ws, tys, hK, hP, hD, hr9⟩ := hw
            obtain ⟨hlw, hla, hr⟩ := id hr9
            obtain ⟨qa, Ea, hqa, hwa, hEa⟩ := hr _ _ _ hka
            obtain ⟨qb, Eb, hqb, hwb, hEb⟩ := hr _ _ _ hkb
            obtain ⟨cA, rfl, hma, hfa⟩ := sd_e_a hEa h64 h100
            obtain ⟨cB, rfl, hmb, hfb⟩ := sd_e_a hEb h64 h100
            obtain ⟨ta, hta⟩ := List.getElem?_of_mem hma
            obtain ⟨tb, htb⟩ := List.getElem?_of_mem hmb
            obtain ⟨K, rfl, hKS25⟩ := sd_l_i hS
            obtain ⟨K, rfl, hKS26⟩ := sd_l_i hKS25
            obtain ⟨qb2, K, hqb2, rfl, hKS27⟩ := sd_l_r hKS26
            cases Option.some.inj (hqb.symm.trans hqb2)
            obtain ⟨K, rfl, hKS28⟩ := sd_l_i hKS27
            obtain ⟨qa2, K, hqa2, rfl, hKS29⟩ := sd_l_r hKS28
            cases Option.some.inj (hqa.symm.trans hqa2)
            have hsum := sd_l_sum hKS29
            have hprim : refKind (ev_ty t) = false := by
              unfold ev_ty
              split
              · rfl
              · split
                · rfl
                · rfl
            have hnw : nativeFrameWords "java/lang/System" "arraycopy" 5 + 11 ≤ 50 := by decide
            refine va_copyi hx hb (by rw [hml]; exact hsz.symm) hown y1 y2 y3 y4 hK hP hD hSt a b ta tb hwa hwb hta htb hprim hu hw9 hv h4 h5 (fun i9 _ => hfa _) hRf (by rw [hsum]; omega) hd (fun H1 locs1 hP1 hD1 hS1 => ?_)
            refine kw rfl rfl H1 locs1 K ⟨_, tys, hK, hP1, hD1, sd_r_set hr9 hkb hqb ?_ rfl (fun j hj => va_up_ne _ _ hj) (fun _ _ => rfl)⟩ hS1 hKS29
            have e1 : hp_z (hp_zw h b (va_cpy (hp_z h a) (hp_z h b) u.toNatClampNeg w.toNatClampNeg v.toNatClampNeg)) b = va_cpy (hp_z h a) (hp_z h b) u.toNatClampNeg w.toNatClampNeg v.toNatClampNeg := va_up_self _ _ _
            rw [e1]
            refine Or.inr (Or.inl ⟨h64, h100, cB, rfl, hmb, fun k9 => ?_⟩)
            unfold va_cpy
            split
            · exact hfa _
            · exact hfb _
          · cases hs
        · cases hs
      · cases hs
    · rename_i y w r hno
      split at hs
      · rename_i hz
        obtain ⟨hz1, hz2⟩ := hz
        simp only [Option.some.injEq, Prod.mk.injEq] at hs
        obtain ⟨rfl, rfl⟩ := hs
        obtain ⟨y1, y2, y3, y4⟩ := hok.2.1 hz1
        obtain ⟨K, rfl, hKS30⟩ := sd_l_i hS
        obtain ⟨K, rfl, hKS31⟩ := sd_l_i hKS30
        have hsum := sd_l_sum hKS31
        exact va_mmax hx hb (by rw [hml]; exact hsz.symm) hown y1 y2 y3 y4 hRf (by rw [hsum]; omega) (by omega) (by omega) hd (kr rfl _ ⟨rfl, hKS31⟩)
      · split at hs
        · rename_i hz
          obtain ⟨hz1, hz2⟩ := hz
          simp only [Option.some.injEq, Prod.mk.injEq] at hs
          obtain ⟨rfl, rfl⟩ := hs
          obtain ⟨y1, y2, y3, y4⟩ := hok.2.2 hz1
          obtain ⟨K, rfl, hKS32⟩ := sd_l_i hS
          obtain ⟨K, rfl, hKS33⟩ := sd_l_i hKS32
          have hsum := sd_l_sum hKS33
          exact va_mmin hx hb (by rw [hml]; exact hsz.symm) hown y1 y2 y3 y4 hRf (by rw [hsum]; omega) (by omega) (by omega) hd (kr rfl _ ⟨rfl, hKS33⟩)
        · cases hs
    · cases hs
  | _ => cases hs
end StepB
