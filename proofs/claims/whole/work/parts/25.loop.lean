theorem lq_15 (w : Int32) : ∃ j : Nat, j < 16 ∧ w &&& 15 = nI j := by
  refine ⟨(w &&& 15).toBitVec.toNat, ?_, ?_⟩
  · have h1 : (w &&& 15).toBitVec = w.toBitVec &&& 15#32 := rfl
    rw [h1, BitVec.toNat_and]
    have h2 := Nat.and_le_right (n := w.toBitVec.toNat) (m := (15#32).toNat)
    have h3 : (15#32).toNat = 15 := rfl
    omega
  · unfold nI
    apply Int32.toBitVec_inj.mp
    rw [Int32.toBitVec_ofNat', BitVec.ofNat_toNat, BitVec.setWidth_eq]
theorem lq_gt {i L : Nat} (hi : i < 100020) (hL : L < 100000) : nI L - nI 6 < nI i ↔ L < i + 6 := by
  rw [Int32.lt_iff_toInt_lt, pk_sub_toInt (by omega) (by omega), nI_toInt (by omega)]
  omega
section Loop
variable {p : Program} {l : Launch} {e : Env} {s : State} {m : MethodId} {args : Array Value} {below : List Frame} {meth : Method} {c : Code} {H : Heap} {locs : List Loc} {cells slots : Nat} {Q : State → Prop} {ls : Array Slot} {D : va_G} {A : Nat → Prop} {ad : List Nat} {h : hp_T} {b L i a0 a2 qo : Nat} {f : Nat → Int64} {xs : Nat → Int32} {J : hp_T → Prop}
theorem lq_next (C0 : lq_C p s m args c A b L xs) (S0 : lq_S D A ad h f b a0 a2 qo i s H locs ls cells slots)
    (kk : ∀ ls2, lq_S D A ad h f b a0 a2 qo (i + 6) s H locs ls2 cells slots → W p l e room_1 s m args below meth c H locs cells slots Q (F0 m 23 ls2 [])) : W p l e room_1 s m args below meth c H locs cells slots Q (F0 m 1063 ls []) := by
  obtain ⟨hx, hb, hml, hown, hall, hX, hbl, hbA, hA, hn, hLs⟩ := C0
  obtain ⟨hw, hc0, hSt, hR, hl, e1, e2⟩ := S0
  refine lv_iinc (k := 4) hx hb dl_1063 hl rfl (nI_add i 6) (by decide) rfl (fun ls2 hl2 => ?_)
  refine lv_goto (tgt := 23) hx hb dl_1066 (by decide) ?_
  exact kk ls2 ⟨hw, hc0, hSt, hR, lv_sub hl2 [1, 2, 3, 4, 0] rfl, e1, e2⟩

set_option maxHeartbeats 4000000 in
set_option maxRecDepth 100000 in
theorem lq_step (hlt : l.stackTraces = false) (C0 : lq_C p s m args c A b L xs) (hJ : lq_H J) (hk0 : hp_k h 0 = some (7, 0)) (hk5 : hp_k h 52 = some (8, 0)) (hq0 : ad[0]? = some a0) (hq5 : ad[52]? = some a2) (hi : i + 6 ≤ L) (hp : pu_step J h (xs i) (xs (i + 1)) (xs (i + 2)) (xs (i + 3)) (xs (i + 4)) (xs (i + 5))) (S0 : lq_S D A ad h f b a0 a2 qo i s H locs ls cells slots)
    (kk : ∀ (h2 : hp_T) (f2 : Nat → Int64) (H2 : Heap) (locs2 : List Loc) (ls2 : Array Slot) (c2 s2 : Nat), J h2 → lq_S D A ad h2 f2 b a0 a2 qo (i + 6) s H2 locs2 ls2 c2 s2 → W p l e room_1 s m args below meth c H2 locs2 c2 s2 Q (F0 m 23 ls2 [])) : W p l e room_1 s m args below meth c H locs cells slots Q (F0 m 33 ls []) := by
  have C1 := C0
  have S1 := S0
  obtain ⟨hx, hb, hml, hown, hall, hX, hbl, hbA, hA, hn, hLs⟩ := C1
  obtain ⟨hw, hc0, hSt, hR, hl, -, -⟩ := S1
  have kn : ∀ (h2 : hp_T) (f2 : Nat → Int64) (H2 : Heap) (locs2 : List Loc) (ls2 : Array Slot) (c2 s2 : Nat), J h2 → h2.1 = h.1 → lq_S D A ad h2 f2 b a0 a2 qo i s H2 locs2 ls2 c2 s2 → W p l e room_1 s m args below meth c H2 locs2 c2 s2 Q (F0 m 1063 ls2 []) := fun h2 f2 H2 locs2 ls2 c2 s2 hj _ S2 => lq_next C0 S2 (fun ls3 S3 => kk h2 f2 H2 locs2 ls3 c2 s2 hj S3)
  refine lv_aload_n hx hb dl_33 rfl (lv_at hl 0 rfl) ?_
  refine lv_iload hx hb dl_34 (lv_at hl 4 rfl) ?_
  refine va_sld hx hb hX hbl hbA hSt (vp_in_nI (by omega) (by omega)) dl_36 ?_
  rw [nI_clamp (by omega)]
  refine lv_bipush (v := 15) hx hb dl_37 (by decide) ?_
  refine lv_iand hx hb dl_39 ?_
  obtain ⟨j, hj, ej⟩ := lq_15 (xs i)
  rw [ej]
  obtain ⟨q0, q1, q2, q3, q4, q5, q6, q7, q8, q9, q10, q11, q12, q13, q14, q15⟩ := hp
  have hcases : j = 0 ∨ j = 1 ∨ j = 2 ∨ j = 3 ∨ j = 4 ∨ j = 5 ∨ j = 6 ∨ j = 7 ∨ j = 8 ∨ j = 9 ∨ j = 10 ∨ j = 11 ∨ j = 12 ∨ j = 13 ∨ j = 14 ∨ j = 15 := by omega
  rcases hcases with rfl | rfl | rfl | rfl | rfl | rfl | rfl | rfl | rfl | rfl | rfl | rfl | rfl | rfl | rfl | rfl
  · exact lv_tableIn (off := 76) (tgt := 116) hx hb dl_40 (by decide) (by decide) (by decide +kernel) (by decide) (lc_port hlt C0 hJ hk0 hk5 hq0 hq5 hi (q0 ej) S0 kn)
  · exact lv_tableIn (off := 136) (tgt := 176) hx hb dl_40 (by decide) (by decide) (by decide +kernel) (by decide) (lc_up hlt C0 hJ hk0 hk5 hq0 hq5 hi (q1 ej) S0 kn)
  · exact lv_tableIn (off := 227) (tgt := 267) hx hb dl_40 (by decide) (by decide) (by decide +kernel) (by decide) (lc_route hlt C0 hJ hk0 hk5 hq0 hq5 hi (q2 ej) S0 kn)
  · exact lv_tableIn (off := 319) (tgt := 359) hx hb dl_40 (by decide) (by decide) (by decide +kernel) (by decide) (lc_unroute hlt C0 hJ hk0 hk5 hq0 hq5 hi (q3 ej) S0 kn)
  · exact lv_tableIn (off := 394) (tgt := 434) hx hb dl_40 (by decide) (by decide) (by decide +kernel) (by decide) (lc_lookup hlt C0 hJ hk0 hk5 hq0 hq5 hi (q4 ej) S0 kn)
  · exact lv_tableIn (off := 462) (tgt := 502) hx hb dl_40 (by decide) (by decide) (by decide +kernel) (by decide) (lc_feed hlt C0 hJ hk0 hk5 hq0 hq5 hi (q5 ej) S0 kn)
  · exact lv_tableIn (off := 566) (tgt := 606) hx hb dl_40 (by decide) (by decide) (by decide +kernel) (by decide) (lc_end hlt C0 hJ hk0 hk5 hq0 hq5 hi (q6 ej) S0 kn)
  · exact lv_tableIn (off := 602) (tgt := 642) hx hb dl_40 (by decide) (by decide) (by decide +kernel) (by decide) (lc_sum hlt C0 hJ hk0 hk5 hq0 hq5 hi (q7 ej) S0 kn)
  · exact lv_tableIn (off := 638) (tgt := 678) hx hb dl_40 (by decide) (by decide) (by decide +kernel) (by decide) (lc_copy hlt C0 hJ hk0 hk5 hq0 hq5 hi (q8 ej) S0 kn)
  · exact lv_tableIn (off := 694) (tgt := 734) hx hb dl_40 (by decide) (by decide) (by decide +kernel) (by decide) (lc_receive hlt C0 hJ hk0 hk5 hq0 hq5 hi (q9 ej) S0 kn)
  · exact lv_tableIn (off := 750) (tgt := 790) hx hb dl_40 (by decide) (by decide) (by decide +kernel) (by decide) (lc_pass hlt C0 hJ hk0 hk5 hq0 hq5 hi (q10 ej) S0 kn)
  · exact lv_tableIn (off := 806) (tgt := 846) hx hb dl_40 (by decide) (by decide) (by decide +kernel) (by decide) (lc_sent hlt C0 hJ hk0 hk5 hq0 hq5 hi (q11 ej) S0 kn)
  · exact lv_tableIn (off := 874) (tgt := 914) hx hb dl_40 (by decide) (by decide) (by decide +kernel) (by decide) (lc_out hlt C0 hJ hk0 hk5 hq0 hq5 hi (q12 ej) S0 kn)
  · exact lv_tableIn (off := 942) (tgt := 982) hx hb dl_40 (by decide) (by decide) (by decide +kernel) (by decide) (lc_data hlt C0 hJ hk0 hk5 hq0 hq5 hi (q13 ej) S0 kn)
  · exact lv_tableIn (off := 967) (tgt := 1007) hx hb dl_40 (by decide) (by decide) (by decide +kernel) (by decide) (lc_about hlt C0 hJ hk0 hk5 hq0 hq5 hi (q14 ej) S0 kn)
  · exact lv_tableOut (tgt := 1063) hx hb dl_40 (by decide) (by decide) (kn h f H locs ls cells slots (q15 ej) rfl S0)
theorem lq_loop (hlt : l.stackTraces = false) (C0 : lq_C p s m args c A b L xs) {Jn : Nat → hp_T → Prop} (hJ : ∀ n, lq_H (Jn n)) (hk : ∀ n h, Jn n h → hp_k h 0 = some (7, 0) ∧ hp_k h 52 = some (8, 0)) (hq0 : ad[0]? = some a0) (hq5 : ad[52]? = some a2)
    (hst : ∀ n h, Jn n h → 6 * n + 6 ≤ L → pu_step (Jn (n + 1)) h (xs (6 * n)) (xs (6 * n + 1)) (xs (6 * n + 2)) (xs (6 * n + 3)) (xs (6 * n + 4)) (xs (6 * n + 5)))
    (kk : ∀ (n : Nat) (h : hp_T) (f : Nat → Int64) (H : Heap) (locs : List Loc) (ls : Array Slot) (cells slots : Nat), Jn n h → lq_S D A ad h f b a0 a2 qo (6 * n) s H locs ls cells slots → W p l e room_1 s m args below meth c H locs cells slots Q (F0 m 1069 ls [])) :
    ∀ (k n : Nat) (h : hp_T) (f : Nat → Int64) (H : Heap) (locs : List Loc) (ls : Array Slot) (cells slots : Nat), L < 6 * n + 6 + 6 * k → 6 * n < L + 6 → Jn n h → lq_S D A ad h f b a0 a2 qo (6 * n) s H locs ls cells slots → W p l e room_1 s m args below meth c H locs cells slots Q (F0 m 23 ls []) := by
  have C1 := C0
  obtain ⟨hx, hb, hml, hown, hall, hX, hbl, hbA, hA, hn, hLs⟩ := C1
  intro k
  induction k with
  | zero =>
    intro n h f H locs ls cells slots hL hU hj S0
    obtain ⟨hw, hc0, hSt, hR, hl, -, -⟩ := id S0
    refine lv_iload hx hb dl_23 (lv_at hl 4 rfl) ?_
    refine lv_aload_n hx hb dl_25 rfl (lv_at hl 0 rfl) ?_
    refine va_slen hx hb hX hbl hbA hSt dl_26 ?_
    refine lv_bipush (v := nI 6) hx hb dl_27 (by decide) ?_
    refine lv_isub hx hb dl_29 ?_
    exact lv_icmp_gt (tgt := 1069) hx hb dl_30 (by decide) (fun _ => kk n h f H locs ls cells slots hj S0) (fun h9 => absurd ((lq_gt (by omega) hLs).mpr (by omega)) h9)
  | succ k ih =>
    intro n h f H locs ls cells slots hL hU hj S0
    obtain ⟨hw, hc0, hSt, hR, hl, -, -⟩ := id S0
    refine lv_iload hx hb dl_23 (lv_at hl 4 rfl) ?_
    refine lv_aload_n hx hb dl_25 rfl (lv_at hl 0 rfl) ?_
    refine va_slen hx hb hX hbl hbA hSt dl_26 ?_
    refine lv_bipush (v := nI 6) hx hb dl_27 (by decide) ?_
    refine lv_isub hx hb dl_29 ?_
    refine lv_icmp_gt (tgt := 1069) hx hb dl_30 (by decide) (fun _ => kk n h f H locs ls cells slots hj S0) (fun h9 => ?_)
    have h8 : ¬ L < 6 * n + 6 := fun h7 => h9 ((lq_gt (by omega) hLs).mpr h7)
    exact lq_step hlt C0 (hJ (n + 1)) (hk n h hj).1 (hk n h hj).2 hq0 hq5 (by omega) (hst n h hj (by omega)) S0 (fun h2 f2 H2 locs2 ls2 c2 s2 hj2 S2 => ih (n + 1) h2 f2 H2 locs2 ls2 c2 s2 (by omega) (by omega) hj2 S2)
end Loop
