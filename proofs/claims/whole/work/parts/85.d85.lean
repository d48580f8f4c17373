-- receive: the state behind it, both sides as a whole
section Recv85
variable {S T : St9} {z z' : Nat → Nat → Int32} {w : Nat → Option Nat} {f c s n m data p t : Nat} {P : Nat → Nat}
def tW (S T : St9) : Prop := wfn T 3 6 ∧ wfn T 4 (cn S 4 + 1) ∧ wfn T 9 4000 ∧ ow T
theorem tW_0 (hW : wE S) (h9 : wfn S 9 4000) : tW S S := ⟨hW.2.1, ⟨hW.2.2.1.1, by omega⟩, h9, hW.2.2.2⟩
theorem tW_er {q ty co re : Nat} (hW : wE S) (h9 : wfn S 9 4000) (hp : p < 8) (hq9 : q ≤ 8) (h2 : cn S 2 < 50) (h11 : cn S 11 ≤ 4800) : tW S (erS S p P q ty co re) := by
  obtain ⟨k1, k2, k3, ⟨t', ht', k4⟩, k5, -, -⟩ := erS_k (S := S) (p := p) (P := P) (q := q) (ty := ty) (co := co) (re := re) hW hp hq9 h2 h11
  have w3 := hW.2.1.2
  have w4 := hW.2.2.1
  refine ⟨?_, ?_, ?_, k3⟩
  · have : cn (erS S p P q ty co re) 3 = t' := by unfold cn; rw [k4, nI_clamp (by omega)]
    exact ⟨by rw [this]; exact k4, by omega⟩
  · rcases k5 with k5 | k5
    · exact ⟨by rw [cn_of k5, k5]; exact w4.1, by rw [cn_of k5]; omega⟩
    · have : cn (erS S p P q ty co re) 4 = cn S 4 + 1 := by
        show (erS S p P q ty co re 3 4).toNatClampNeg = _
        rw [k5, nI_clamp (by have := w4.2; omega)]
      exact ⟨by rw [this]; exact k5, by omega⟩
  · exact wfn_of h9 (k2 9 (by omega) (by omega) (by omega) (by omega))
theorem tW_ow (hW : wE S) (h9 : wfn S 9 4000) (hp : p < 8) (hd : data ≤ 4000) (h2 : cn S 2 = 0) (h11 : cn S 11 = 0) : tW S (owS S p P data).1 := by
  have w4 := hW.2.2.1
  unfold owS
  split
  · refine ⟨wfn_of hW.2.1 (dlv_3 (S := S) (P := P) (data := data) (k := 3) (by omega)), ?_, ?_, ?_⟩
    · have e := dlv_3 (S := S) (P := P) (data := data) (k := 4) (by omega)
      exact ⟨by show dlS S P data 3 4 = nI (cn (dlS S P data) 4); rw [cn_of e, e]; exact w4.1, by show cn (dlS S P data) 4 ≤ _; rw [cn_of e]; omega⟩
    · have : cn (dlS S P data) 9 = data := by
        show (dlS S P data 3 9).toNatClampNeg = _
        rw [dlv_9, nI_clamp (by omega)]
      exact ⟨by show dlS S P data 3 9 = nI (cn (dlS S P data) 9); rw [this, dlv_9], by show cn (dlS S P data) 9 ≤ _; omega⟩
    · have hW' : wE (dlS S P data) := by
        have h := hW
        unfold wE ow wfn at h ⊢
        rw [dlv_k (k := 1) (by omega) (by omega), dlv_k (k := 2) (by omega) (by omega), dlv_k (k := 9) (by omega) (by omega), dlv_k (k := 10) (by omega) (by omega), dlv_3 (k := 2) (by omega), dlv_3 (k := 3) (by omega), dlv_3 (k := 4) (by omega), dlv_3 (k := 11) (by omega), cn_of (dlv_3 (k := 2) (by omega)), cn_of (dlv_3 (k := 3) (by omega)), cn_of (dlv_3 (k := 4) (by omega)), cn_of (dlv_3 (k := 11) (by omega))]
        exact h
      exact hW'.2.2.2
  · split
    · exact tW_er hW h9 hp (by split <;> omega) (by omega) (by omega)
    · split
      · obtain ⟨k1, k2, k3, k5⟩ := anS_k (S := S) (p := p) (P := P) (data := data) hW hp hd h2 h11
        refine ⟨wfn_of hW.2.1 (k2 3 (by omega) (by omega) (by omega)), ?_, wfn_of h9 (k2 9 (by omega) (by omega) (by omega)), k3⟩
        rcases k5 with k5 | k5
        · exact ⟨by show anS S p P data 3 4 = nI (cn (anS S p P data) 4); rw [cn_of k5, k5]; exact w4.1, by show cn (anS S p P data) 4 ≤ _; rw [cn_of k5]; omega⟩
        · have : cn (anS S p P data) 4 = cn S 4 + 1 := by
            show (anS S p P data 3 4).toNatClampNeg = _
            rw [k5, nI_clamp (by have := w4.2; omega)]
          exact ⟨by show anS S p P data 3 4 = nI (cn (anS S p P data) 4); rw [this]; exact k5, by show cn (anS S p P data) 4 ≤ _; omega⟩
      · exact tW_0 hW h9
theorem tW_sn (hW : wE S) (h9 : wfn S 9 4000) (hRW : rtW S) (hp : p < 8) (h0 : 20 ≤ hl P) (hMq : hl P + data ≤ 2000) (h2 : cn S 2 = 0) (h11 : cn S 11 = 0) : tW S (snS S p P data).1 := by
  have q9 : q8N data ≤ 8 := by unfold q8N; split <;> omega
  have w4 := hW.2.2.1
  unfold snS
  split
  · exact tW_0 hW h9
  · split
    · exact tW_er hW h9 hp q9 (by omega) (by omega)
    · split
      · exact tW_er hW h9 hp q9 (by omega) (by omega)
      · rename_i h5
        split
        · exact tW_er hW h9 hp q9 (by omega) (by omega)
        · split
          · exact tW_er hW h9 hp q9 (by omega) (by omega)
          · have hk := sn_o (P := P) (data := data) hW hRW h0 hMq h2 h11 h5 (if S 7 (rtN S (nI (n4 P 16))) = 0 then nI (n4 P 16) else S 7 (rtN S (nI (n4 P 16))))
            exact ⟨wfn_of hW.2.1 (hk.2.1 3 (by omega) (by omega)), ⟨(wfn_of w4 (hk.2.1 4 (by omega) (by omega))).1, Nat.le_trans (by rw [cn_of (hk.2.1 4 (by omega) (by omega))]; exact Nat.le_refl _) (Nat.le_succ (cn S 4))⟩, wfn_of h9 (hk.2.1 9 (by omega) (by omega)), hk.2.2⟩
theorem jn_10 (h4 : cn S 10 ≤ 4) (h : S 3 10 = nI (cn S 10)) : (jnS S P p data t).1 3 10 = nI (cn (jnS S P p data t).1 10) := by
  have rm : ∀ (A : St9) (e : Nat), cn A 10 ≤ 4 → rmS A e 3 10 = nI (cn (rmS A e) 10) := fun A e hA => by rw [rmS_c hA, rmS_10]
  have j2 : ∀ (A : St9) (e : Nat), cn A 10 ≤ 4 → A 3 10 = nI (cn A 10) → (jn2 A e P p data).1 3 10 = nI (cn (jn2 A e P p data).1 10) := fun A e hA hB => by
    unfold jn2; split
    · exact rm _ _ (by rw [adS_c]; exact hA)
    · show adS A e P p data 3 10 = nI (cn (adS A e P p data) 10)
      rw [adS_c, adS_3]; exact hB
  unfold jnS
  split
  · split
    · exact rm _ _ h4
    · exact j2 _ _ h4 h
  · split
    · exact h
    · have hk4 := bg_c h4
      exact j2 _ _ (by rw [nwS_c hk4]; omega) (by rw [nwS_c hk4, nwS_10])
def rvA (S T : St9) : Prop := (∀ k, k ≠ 3 → k < 9 → T k = S k) ∧ T 3 0 = S 3 0 ∧ T 3 5 = S 3 5 ∧ T 3 10 = nI (cn T 10) ∧ wX T ∧ tW S T
theorem rv_all (hW : wE S) (h9 : wfn S 9 4000) (hRW : rtW S) (hX : wX S) (h10 : S 3 10 = nI (cn S 10)) (hP : ∀ i, P i < 256) (hm : m ≤ 2000) (h2 : cn S 2 = 0) (h11 : cn S 11 = 0) (ht : t ≤ 60000) (hp : p < 8) : rvA S (rvS S p P m t).1 := by
  have lv : ∀ T, lvS S T → tW S T → rvA S T := fun T hL hT => ⟨hL.1, hL.2.2.1, hL.2.2.2.2.1, by rw [hL.2.2.2.2.2, cn_of hL.2.2.2.2.2]; exact h10, wX_of hX hL.2.2.2.2.2 hL.2.1, hT⟩
  unfold rvS
  by_cases hh : hfN P m = 0
  case neg => rw [if_neg hh]; exact lv S ⟨fun _ _ _ => rfl, fun _ _ => rfl, rfl, rfl, rfl, rfl⟩ (tW_0 hW h9)
  rw [if_pos hh]
  have hx : ¬ m < 20 ∧ ¬ (hl P < 20 ∨ m < hl P) ∧ ¬ (n2 P 2 < hl P ∨ m < n2 P 2) := by
    unfold hfN at hh
    by_cases g1 : m < 20
    · rw [if_pos g1] at hh; omega
    rw [if_neg g1] at hh
    by_cases g2 : ¬ P 0 / 16 = 4
    · rw [if_pos g2] at hh; omega
    rw [if_neg g2] at hh
    by_cases g3 : hl P < 20 ∨ m < hl P
    · rw [if_pos g3] at hh; omega
    rw [if_neg g3] at hh
    by_cases g4 : n2 P 2 < hl P ∨ m < n2 P 2
    · rw [if_pos g4] at hh; omega
    exact ⟨g1, g3, g4⟩
  obtain ⟨g1, g3, g4⟩ := hx
  obtain ⟨data, ed⟩ : ∃ x, x = n2 P 2 - hl P := ⟨_, rfl⟩
  rw [← ed]
  have q9 : q8N data ≤ 8 := by unfold q8N; split <;> omega
  unfold sdT
  split
  · exact lv _ (lv_er hW hp q9 (by omega) (by omega)) (tW_er hW h9 hp q9 (by omega) (by omega))
  · split
    · split
      · exact lv _ (lv_ow hW hp (by omega) h2 h11) (tW_ow hW h9 hp (by omega) h2 h11)
      · rename_i hpc
        obtain ⟨b1', b2⟩ := jnS_b (S := S) (P := P) (p := p) (data := data) (t := t)
        have hW' : wE (jnS S P p data t).1 := wE_of hW b1' (fun k hk => b2 k (by omega))
        have hX' : wX (jnS S P p data t).1 := jnS_X hX hP hp (by omega) (by omega) hpc ht
        have h10' := jn_10 (P := P) (p := p) (data := data) (t := t) hX.1 h10
        have h9' : wfn (jnS S P p data t).1 9 4000 := wfn_of h9 (b2 9 (by omega))
        have c4 : cn (jnS S P p data t).1 4 = cn S 4 := cn_of (b2 4 (by omega))
        cases hj : (jnS S P p data t).2 with
        | none =>
          dsimp only
          exact ⟨fun k h3 hk => b1' k h3 (by omega), b2 0 (by omega), b2 5 (by omega), h10', hX', by
            have := tW_0 hW' h9'
            unfold tW at this ⊢
            rw [c4] at this; exact this⟩
        | some E =>
          dsimp only
          obtain ⟨hEW, hE7⟩ := jn_EW hX hP hp (by omega) (by omega) hpc ht hj
          have her := hEW.2.2.2.1.2
          have c2' : cn (jnS S P p data t).1 2 = 0 := by rw [cn_of (b2 2 (by omega))]; exact h2
          have c11' : cn (jnS S P p data t).1 11 = 0 := by rw [cn_of (b2 11 (by omega))]; exact h11
          have L := lv_ow (P := whB E) (data := er E) hW' hp her c2' c11'
          have TT := tW_ow (P := whB E) (data := er E) hW' h9' hp her c2' c11'
          exact ⟨fun k h3 hk => by rw [L.1 k h3 hk]; exact b1' k h3 (by omega), by rw [L.2.2.1]; exact b2 0 (by omega), by rw [L.2.2.2.2.1]; exact b2 5 (by omega), by rw [L.2.2.2.2.2, cn_of L.2.2.2.2.2]; exact h10', wX_of hX' L.2.2.2.2.2 L.2.1, by
            unfold tW at TT ⊢
            rw [c4] at TT; exact TT⟩
    · exact lv _ (lv_sn hW hRW hp (by omega) (by omega) h2 h11) (tW_sn hW h9 hRW hp (by omega) (by omega) h2 h11)
-- nothing goes out yet
def em0 (S : St9) : St9 := va_up S 3 (upd (upd (S 3) 2 0) 11 0)
theorem em0_k {k : Nat} (h : k ≠ 3) : em0 S k = S k := va_up_ne _ _ h
theorem em0_3 {k : Nat} (h2 : k ≠ 2) (h11 : k ≠ 11) : em0 S 3 k = S 3 k := by unfold em0; rw [va_up_self, pk_un h11, pk_un h2]
theorem em0_2 : em0 S 3 2 = 0 := by unfold em0; rw [va_up_self, pk_un (by omega), pk_us]
theorem em0_11 : em0 S 3 11 = 0 := by unfold em0; rw [va_up_self, pk_us]
theorem em0_c2 : cn (em0 S) 2 = 0 := by unfold cn; rw [em0_2]; rfl
theorem em0_c11 : cn (em0 S) 11 = 0 := by unfold cn; rw [em0_11]; rfl
theorem em0_ow : ow (em0 S) := by
  refine ⟨⟨by rw [em0_c2, em0_2]; rfl, by rw [em0_c2]; omega⟩, ⟨by rw [em0_c11, em0_11]; rfl, by rw [em0_c11]; omega⟩, fun _ => em0_c11, fun k hk => ?_, fun i hi => ?_⟩
  · rw [em0_c2] at hk; omega
  · rw [em0_c2] at hi; omega
theorem em0_W (hn : n < 512) (hwf : wf n S) : wE (em0 S) ∧ wfn (em0 S) 9 4000 ∧ rtW (em0 S) ∧ em0 S 3 10 = nI (cn (em0 S) 10) ∧ cn (em0 S) 10 ≤ 4 ∧ em0 S 3 5 = nI (cn S 5) ∧ cn S 5 ≤ 60000 := by
  obtain ⟨⟨w0, w1, w2', w3, w4, w5, w9, w10, w11⟩, wp, wr, wo'⟩ := hwf
  have e10 := em0_3 (S := S) (k := 10) (by omega) (by omega)
  refine ⟨⟨?_, wfn_of w3 (em0_3 (by omega) (by omega)), ?_, em0_ow⟩, wfn_of w9 (em0_3 (by omega) (by omega)), ⟨?_, ?_⟩, ?_, ?_, ?_, ?_⟩
  · rw [em0_k (by omega), em0_k (by omega)]; exact wp
  · have := wfn_of w4 (em0_3 (S := S) (k := 4) (by omega) (by omega))
    exact ⟨this.1, by have := this.2; omega⟩
  · rw [cn_of (em0_3 (by omega) (by omega))]; exact w0.2
  · rw [cn_of (em0_3 (by omega) (by omega)), em0_k (by omega)]; exact fun i hi => (wr i hi).2
  · rw [cn_of e10, e10]; exact w10.1
  · rw [cn_of e10]; exact w10.2
  · rw [em0_3 (by omega) (by omega)]; exact w5.1
  · have := w5.2; omega
theorem em0_X (h4 : cn S 10 ≤ 4) (hrm : rmd S z) : wX (em0 S) := by
  have e10 := em0_3 (S := S) (k := 10) (by omega) (by omega)
  refine ⟨by rw [cn_of e10]; exact h4, fun e he => ?_⟩
  rw [cn_of e10] at he
  rw [em0_k (by omega)]
  exact (hrm.2.2.2.2.2.2.2 e he).2
theorem wf_rv (hwf : wf n S) (h : rvA (em0 S) T) : wf (n + 1) (sT T 0) := by
  obtain ⟨⟨w0, w1, w2', w3, w4, w5, w9, w10, w11⟩, wp, wr, wo'⟩ := hwf
  obtain ⟨A1, A2, A3, A4, A5, ⟨T1, T2, T3, T4⟩⟩ := h
  have c4 : cn (em0 S) 4 = cn S 4 := cn_of (em0_3 (by omega) (by omega))
  have t3 : ∀ j, j ≠ 1 → sT T 0 3 j = T 3 j := fun j hj => sT_3 _ hj
  have ct : ∀ j, j ≠ 1 → cn (sT T 0) j = cn T j := fun j hj => cn_of (t3 j hj)
  have hA : ∀ k, k ≠ 3 → k < 9 → sT T 0 k = S k := fun k h3 hk => by rw [sT_n _ h3, A1 k h3 hk, em0_k h3]
  have e0 : T 3 0 = S 3 0 := by rw [A2, em0_3 (by omega) (by omega)]
  have e5 : T 3 5 = S 3 5 := by rw [A3, em0_3 (by omega) (by omega)]
  obtain ⟨o1, o2, -, -, o5⟩ := T4
  refine ⟨⟨?_, ?_, ?_, ?_, ?_, ?_, ?_, ?_, ?_⟩, ?_, ?_, ?_⟩
  · exact wfn_of (wfn_of w0 e0) (t3 0 (by omega))
  · have : cn (sT T 0) 1 = 0 := by unfold cn; rw [sT_1]; rfl
    exact ⟨by rw [this, sT_1]; rfl, by omega⟩
  · exact wfn_of o1 (t3 2 (by omega))
  · exact wfn_of T1 (t3 3 (by omega))
  · have := wfn_of T2 (t3 4 (by omega))
    rw [c4] at this
    exact ⟨this.1, Nat.le_trans this.2 (by have := w4.2; omega)⟩
  · have := wfn_of (wfn_of w5 e5) (t3 5 (by omega))
    exact ⟨this.1, Nat.le_trans this.2 (by omega)⟩
  · exact wfn_of T3 (t3 9 (by omega))
  · exact ⟨by rw [ct 10 (by omega), t3 10 (by omega)]; exact A4, by rw [ct 10 (by omega)]; exact A5.1⟩
  · exact wfn_of o2 (t3 11 (by omega))
  · rw [hA 1 (by omega) (by omega), hA 2 (by omega) (by omega)]; exact wp
  · rw [ct 0 (by omega), cn_of e0, hA 5 (by omega) (by omega), hA 6 (by omega) (by omega)]; exact wr
  · rw [ct 2 (by omega), ct 11 (by omega), sT_n _ (by omega), sT_n _ (by omega)]; exact o5
end Recv85
