-- what is for the router itself
section Own71
def dlS (S : St9) (P : Nat → Nat) (data : Nat) : St9 := fun k => if k = 3 then upd (upd (upd (upd (S 3) 6 (S 3 6 + 1)) 7 (nI (n4 P 12))) 8 (nI (n4 P 16))) 9 (nI data) else if k = 14 then (fun i => nI (P (hl P + i))) else S k
theorem dlv_k {S : St9} {P : Nat → Nat} {data k : Nat} (h3 : k ≠ 3) (h : k ≠ 14) : dlS S P data k = S k := by unfold dlS; rw [if_neg h3, if_neg h]
theorem dlv_3 {S : St9} {P : Nat → Nat} {data k : Nat} (h : k < 6 ∨ 9 < k) : dlS S P data 3 k = S 3 k := by
  show upd (upd (upd (upd (S 3) 6 (S 3 6 + 1)) 7 (nI (n4 P 12))) 8 (nI (n4 P 16))) 9 (nI data) k = _
  rw [pk_un (by omega), pk_un (by omega), pk_un (by omega), pk_un (by omega)]
theorem dlv_6 {S : St9} {P : Nat → Nat} {data : Nat} : dlS S P data 3 6 = S 3 6 + 1 := by
  show upd (upd (upd (upd (S 3) 6 (S 3 6 + 1)) 7 (nI (n4 P 12))) 8 (nI (n4 P 16))) 9 (nI data) 6 = _
  rw [pk_un (by omega), pk_un (by omega), pk_un (by omega), pk_us]
theorem dlv_7 {S : St9} {P : Nat → Nat} {data : Nat} : dlS S P data 3 7 = nI (n4 P 12) := by
  show upd (upd (upd (upd (S 3) 6 (S 3 6 + 1)) 7 (nI (n4 P 12))) 8 (nI (n4 P 16))) 9 (nI data) 7 = _
  rw [pk_un (by omega), pk_un (by omega), pk_us]
theorem dlv_8 {S : St9} {P : Nat → Nat} {data : Nat} : dlS S P data 3 8 = nI (n4 P 16) := by
  show upd (upd (upd (upd (S 3) 6 (S 3 6 + 1)) 7 (nI (n4 P 12))) 8 (nI (n4 P 16))) 9 (nI data) 8 = _
  rw [pk_un (by omega), pk_us]
theorem dlv_9 {S : St9} {P : Nat → Nat} {data : Nat} : dlS S P data 3 9 = nI data := by
  show upd (upd (upd (upd (S 3) 6 (S 3 6 + 1)) 7 (nI (n4 P 12))) 8 (nI (n4 P 16))) 9 (nI data) 9 = _
  rw [pk_us]
theorem dlv_14 {S : St9} {P : Nat → Nat} {data i : Nat} : dlS S P data 14 i = nI (P (hl P + i)) := rfl
def owS (S : St9) (p : Nat) (P : Nat → Nat) (data : Nat) : St9 × Int32 := if P 9 = 17 then (dlS S P data, 13) else if ¬ P 9 = 1 then (erS S p P (if data < 8 then data else 8) 3 2 0, 14) else if isRq P data then (anS S p P data, 11) else (S, 12)
-- what was delivered
def dC (S : St9) (z : Nat → Nat → Int32) : Prop := z 50 1 = S 3 6 ∧ z 50 2 = S 3 7 ∧ z 50 3 = S 3 8 ∧ z 50 4 = S 3 9 ∧ (∀ j, j < cn S 9 → z 51 j &&& 255 = S 14 j) ∧ ∀ j, br (z 51 j)
def dM (S : St9) (z : Nat → Nat → Int32) : Prop := z 52 23 = S 3 6 ∧ z 52 24 = S 3 7 ∧ z 52 25 = S 3 8 ∧ z 52 26 = S 3 9 ∧ ∀ j, j < cn S 9 → z 68 j = S 14 j
theorem dC_of {S T : St9} {z z' : Nat → Nat → Int32} (h : dC S z) (h3 : ∀ k, 6 ≤ k → k ≤ 9 → T 3 k = S 3 k) (h14 : T 14 = S 14) (h50 : z' 50 = z 50) (h51 : z' 51 = z 51) : dC T z' := by
  unfold dC at *
  rw [h50, h51, h3 6 (by omega) (by omega), h3 7 (by omega) (by omega), h3 8 (by omega) (by omega), h3 9 (by omega) (by omega), cn_of (h3 9 (by omega) (by omega)), h14]
  exact h
theorem dM_of {S T : St9} {z z' : Nat → Nat → Int32} (h : dM S z) (h3 : ∀ k, 6 ≤ k → k ≤ 9 → T 3 k = S 3 k) (h14 : T 14 = S 14) (h52 : ∀ k, 23 ≤ k → k ≤ 26 → z' 52 k = z 52 k) (h68 : z' 68 = z 68) : dM T z' := by
  unfold dM at *
  rw [h52 23 (by omega) (by omega), h52 24 (by omega) (by omega), h52 25 (by omega) (by omega), h52 26 (by omega) (by omega), h68, h3 6 (by omega) (by omega), h3 7 (by omega) (by omega), h3 8 (by omega) (by omega), h3 9 (by omega) (by omega), cn_of (h3 9 (by omega) (by omega)), h14]
  exact h
-- what a reply leaves alone
theorem erS_k {S : St9} {p : Nat} {P : Nat → Nat} {q ty co re : Nat} (hW : wE S) (hp : p < 8) (hq9 : q ≤ 8) (h2 : cn S 2 < 50) (h11 : cn S 11 ≤ 4800) : (∀ k, k ≠ 3 → k < 9 ∨ 13 < k → erS S p P q ty co re k = S k) ∧ (∀ k, k ≠ 2 → k ≠ 3 → k ≠ 4 → k ≠ 11 → erS S p P q ty co re 3 k = S 3 k) ∧ ow (erS S p P q ty co re) ∧ (∃ t, t ≤ cn S 3 ∧ erS S p P q ty co re 3 3 = nI t) ∧ (erS S p P q ty co re 3 4 = S 3 4 ∨ erS S p P q ty co re 3 4 = nI (cn S 4 + 1)) ∧ cn (erS S p P q ty co re) 2 ≤ cn S 2 + 1 ∧ cn (erS S p P q ty co re) 11 ≤ cn S 11 + 96 := by
  have hl6 := hl_le P
  unfold erS
  by_cases h : S 2 p = 0 ∨ cn S 3 = 0 ∨ ¬ mayE P q
  · rw [if_pos h]
    exact ⟨fun _ _ _ => rfl, fun _ _ _ _ _ => rfl, hW.2.2.2, ⟨cn S 3, by omega, hW.2.1.1⟩, Or.inl rfl, by omega, by omega⟩
  · rw [if_neg h]
    have hmt := mtN_e hW hp
    have hlv : hl (rpB (vL (8 + (hl P + q))) (cn S 4) (adN S p) (n4 P 12) (8 + (hl P + q)) (erD P ty co re)) = 20 := rp_h (by unfold vL; omega) (by unfold vL; omega)
    have hlen : 8 + (hl P + q) ≤ 76 := by omega
    generalize rpB (vL (8 + (hl P + q))) (cn S 4) (adN S p) (n4 P 12) (8 + (hl P + q)) (erD P ty co re) = R at hlv
    generalize 8 + (hl P + q) = len at hlen
    have c2' : cn (rpS (tkS S)) 2 = cn S 2 := by rw [rpS_c (by omega), tkS_c (by omega)]
    have c11' : cn (rpS (tkS S)) 11 = cn S 11 := by rw [rpS_c (by omega), tkS_c (by omega)]
    have hcap : capS (cn (rpS (tkS S)) 2) (cn (rpS (tkS S)) 11) (hl R) ((mtN S p - hl R) / 8 * 8) len := by rw [hlv, c2', c11']; exact cap_e h2 (by omega) hmt.2.1 (by omega)
    obtain ⟨⟨g1, g2, -⟩, o1, o2, o3, o4⟩ := sdS_all (S := rpS (tkS S)) (P := R) (data := len) (m := mtN S p) (way := nI p) (next := 0) hcap (rpS_ow (tkS_ow hW.2.2.2)) (by omega) hmt.2.1 hmt.2.2
    have ep : ptN (hl R) 0 len (mtN S p) = len := by unfold ptN; rw [if_pos (by omega)]; omega
    have es : sdS (rpS (tkS S)) R len (mtN S p) (nI p) 0 = emS (rpS (tkS S)) (hl R + len) (nI p) 0 (pcB R R (hl R) 0 len (mtN S p)) := by
      unfold sdS sdL; rw [ep, if_pos (Nat.le_refl _)]
    rw [ep] at g2
    refine ⟨fun k h3 hk => ?_, fun k k2 k3 k4 k11 => ?_, o1, ⟨cn S 3 - 1, by omega, ?_⟩, Or.inr ?_, ?_, ?_⟩
    · rw [o3 k h3 hk, rpS_k h3, tkS_k h3]
    · rw [o4 k k2 k11, rpS_3 k4, tkS_3 k3]
    · rw [o4 3 (by omega) (by omega), rpS_3 (by omega), tkS_33]
    · rw [o4 4 (by omega) (by omega), rpS_4, tkS_c (by omega)]
    · rw [es, em_c2 g1, c2']; omega
    · rw [es, em_c11 g2, c11', hlv]; omega
theorem anS_k {S : St9} {p : Nat} {P : Nat → Nat} {data : Nat} (hW : wE S) (hp : p < 8) (hd : data ≤ 4000) (h2 : cn S 2 = 0) (h11 : cn S 11 = 0) : (∀ k, k ≠ 3 → k < 9 ∨ 13 < k → anS S p P data k = S k) ∧ (∀ k, k ≠ 2 → k ≠ 4 → k ≠ 11 → anS S p P data 3 k = S 3 k) ∧ ow (anS S p P data) ∧ (anS S p P data 3 4 = S 3 4 ∨ anS S p P data 3 4 = nI (cn S 4 + 1)) := by
  unfold anS
  by_cases h : S 2 p = 0
  · rw [if_pos h]
    exact ⟨fun _ _ _ => rfl, fun _ _ _ _ => rfl, hW.2.2.2, Or.inl rfl⟩
  · rw [if_neg h]
    have hmt := mtN_e hW hp
    have hlv : hl (rpB (vL data) (cn S 4) (n4 P 16) (n4 P 12) data (anD P)) = 20 := rp_h (by unfold vL; omega) (by unfold vL; omega)
    generalize rpB (vL data) (cn S 4) (n4 P 16) (n4 P 12) data (anD P) = R at hlv
    have hcap : capS (cn (rpS S) 2) (cn (rpS S) 11) (hl R) ((mtN S p - hl R) / 8 * 8) data := by rw [hlv, rpS_c (by omega), rpS_c (by omega), h2, h11]; exact cap_a hmt.2.1 hd
    obtain ⟨-, o1, o2, o3, o4⟩ := sdS_all (S := rpS S) (P := R) (data := data) (m := mtN S p) (way := nI p) (next := 0) hcap (rpS_ow hW.2.2.2) (by omega) hmt.2.1 hmt.2.2
    refine ⟨fun k h3 hk => by rw [o3 k h3 hk, rpS_k h3], fun k k2 k4 k11 => by rw [o4 k k2 k11, rpS_3 k4], o1, Or.inr (by rw [o4 4 (by omega) (by omega), rpS_4])⟩
variable {S : St9} {z : Nat → Nat → Int32} {w : Nat → Option Nat} {f c s p m a r N M data : Nat} {P : Nat → Nat}
theorem n1_ (hd : dC S z) (hp : pk a r N) (hP : cb z r M P) (hr : ∀ i, br (z r i)) (hM : M ≤ N) (hN : N < 10000) (hrr : r < 50) (h0 : 20 ≤ hl P) (hdt : n2 P 2 = hl P + data) (hMq : hl P + data ≤ M) (hd4 : data ≤ 4000) : ∃ z', F_1 f 50 a (hq z w c s) = some (.inl none, hq z' w c s) ∧ dC (dlS S P data) z' ∧ ∀ a, a ≠ 50 → a ≠ 51 → z' a = z a := by
  have hl6 := hl_le P
  obtain ⟨d1, d2, d3, d4, d5, d6⟩ := hd
  obtain ⟨z1, e1⟩ : ∃ x, x = va_up z 50 (upd (z 50) 1 (z 50 1 + 1)) := ⟨_, rfl⟩
  obtain ⟨z2, e2⟩ : ∃ x, x = va_up z1 50 (upd (z1 50) 2 (nI (n4 P 12))) := ⟨_, rfl⟩
  obtain ⟨z3, e3⟩ : ∃ x, x = va_up z2 50 (upd (z2 50) 3 (nI (n4 P 16))) := ⟨_, rfl⟩
  obtain ⟨z4, e4⟩ : ∃ x, x = va_up z3 50 (upd (z3 50) 4 (nI data)) := ⟨_, rfl⟩
  have n1 : ∀ a, a ≠ 50 → z1 a = z a := fun a ha => by rw [e1, va_up_ne _ _ ha]
  have n2' : ∀ a, a ≠ 50 → z2 a = z a := fun a ha => by rw [e2, va_up_ne _ _ ha, n1 a ha]
  have n3 : ∀ a, a ≠ 50 → z3 a = z a := fun a ha => by rw [e3, va_up_ne _ _ ha, n2' a ha]
  have n4' : ∀ a, a ≠ 50 → z4 a = z a := fun a ha => by rw [e4, va_up_ne _ _ ha, n3 a ha]
  have P1 : cb z1 r M P := ⟨hP.1, fun i hi => by rw [n1 r (by omega)]; exact hP.2 i hi⟩
  have P2 : cb z2 r M P := ⟨hP.1, fun i hi => by rw [n2' r (by omega)]; exact hP.2 i hi⟩
  have P3 : cb z3 r M P := ⟨hP.1, fun i hi => by rw [n3 r (by omega)]; exact hP.2 i hi⟩
  have P4 : cb z4 r M P := ⟨hP.1, fun i hi => by rw [n4' r (by omega)]; exact hP.2 i hi⟩
  have q18 := n18 (f := f) (w := w) (c := c) (s := s) hp P1 hM hN (by omega)
  have q19 := n19 (f := f) (w := w) (c := c) (s := s) hp P2 hM hN (by omega)
  have q10 := n10 (f := f) (w := w) (c := c) (s := s) hp P3 hM hN (by omega) (by omega)
  rw [show n2 P 2 - hl P = data by omega] at q10
  have q8 := n8 (f := f) (w := w) (c := c) (s := s) hp P4 hM hN (by omega)
  have g4 : z4 50 4 = nI data := by rw [e4, va_up_self, pk_us]
  obtain ⟨z5, e5⟩ : ∃ x, x = cpz z4 51 r (hl P) 0 data := ⟨_, rfl⟩
  have ca : acb 65 (hq z4 w c s) r (nI (hl P)) 51 0 (nI data) = true := acb_n (v := 0) (hp _ _ _ _).2.2 kq_51 (by omega) (by omega) (by omega) (by omega)
  have wa : wc (hq z4 w c s) r (nI (hl P)) 51 0 (nI data) = hq z5 w c s := by rw [e5]; exact hq_cp (v := 0) (by omega) (by omega) (by omega)
  have n5' : ∀ a, a ≠ 51 → z5 a = z4 a := fun a ha => by rw [e5, cpz_ne ha]
  have f1 : z1 50 1 = S 3 6 + 1 := by rw [e1, va_up_self, pk_us, d1]
  refine ⟨z5, ?_, ⟨?_, ?_, ?_, ?_, ?_, ?_⟩, fun a h50 h51 => by rw [n5' a h51, n4' a h50]⟩
  · simp only [F_1, ← e1, (hp _ _ _ _).1, (hp _ _ _ _).2.1, q18, ← e2, q19, ← e3, q10, ← e4, q8, g4, ca, wa, dg_1, db_1, db_0, dl_1, dp_1, dv_1, dv_x, di_1, di_x, dw_1, ec_eq, ec_ne, ec_lt, ec_ge, ec_gt, ec_le, hq_z, hq_wz, hq_thr, hq_p29, hq_pw, eq_self, decide_true, decide_false, not_true_eq_false, not_false_eq_true, kq_0, kq_1, kq_2, kq_3, kq_4, kq_5, kq_6, kq_7, kq_8, kq_9, kq_10, kq_11, kq_12, kq_13, kq_14, kq_15, kq_16, kq_17, kq_18, kq_19, kq_20, kq_21, kq_22, kq_23, kq_24, kq_25, kq_26, kq_27, kq_28, kq_29, kq_30, kq_31, kq_32, kq_33, kq_34, kq_35, kq_36, kq_37, kq_38, kq_39, kq_40, kq_41, kq_42, kq_43, kq_44, kq_45, kq_46, kq_47, kq_48, kq_49, kq_50, kq_51, kq_52, kq_53, kq_54, kq_55, kq_56, kq_57, kq_58, kq_59, kq_60, kq_61, kq_62, kq_63, kq_64, kq_65, kq_66, kq_67, kq_68, kq_69, kq_70, kq_71, kq_72, kq_73, kq_74, kq_75, kq_76, kq_77, kq_78, kq_79, kq_80, kq_81, pq_0_0, pq_0_1, pq_0_2, pq_0_3, pq_0_4, pq_0_5, pq_0_6, pq_0_7, pq_1_0, pq_1_1, pq_1_2, pq_1_3, pq_1_4, pq_1_5, pq_1_6, pq_1_7, pq_10_0, pq_10_1, pq_10_2, pq_10_3, pq_15_0, pq_17_0, pq_19_0, pq_21_0, pq_21_1, pq_21_2, pq_21_3, pq_21_4, pq_21_5, pq_28_0, pq_30_0, pq_30_1, pq_30_2, pq_31_0, pq_35_0, pq_35_1, pq_35_2, pq_36_0, pq_40_0, pq_40_1, pq_40_2, pq_41_0, pq_45_0, pq_45_1, pq_45_2, pq_46_0, pq_50_0, pq_52_0, pq_52_1, pq_52_2, pq_52_3, pq_52_4, pq_52_5, pq_52_6, pq_52_8, pq_52_10, pq_52_11, pq_52_14, pq_52_15, pq_52_16, pq_52_17, pq_52_18, pq_52_27, pq_52_29, pq_52_30, pq_52_31, pq_52_32, pq_52_33, pq_52_34, pq_52_35, pq_52_36, pq_52_37, pq_52_38, pq_52_39, pq_52_40, pq_52_41, aq_1, aq_11, aq_12, aq_13, aq_14, aq_16, aq_18, aq_20, aq_22, aq_23, aq_24, aq_25, aq_26, aq_27, aq_29, aq_32, aq_33, aq_34, aq_37, aq_38, aq_39, aq_42, aq_43, aq_44, aq_47, aq_48, aq_49, aq_51, aq_53, aq_54, aq_55, aq_56, aq_57, aq_58, aq_59, aq_60, aq_61, aq_62, aq_63, aq_64, aq_65, aq_66, aq_67, aq_68, aq_69, aq_70, aq_71, aq_72, aq_73, aq_74, aq_75, aq_76, aq_77, aq_78, aq_79, aq_80, aq_81]
  · rw [n5' 50 (by omega), e4, va_up_self, pk_un (by omega), e3, va_up_self, pk_un (by omega), e2, va_up_self, pk_un (by omega), f1, dlv_6]
  · rw [n5' 50 (by omega), e4, va_up_self, pk_un (by omega), e3, va_up_self, pk_un (by omega), e2, va_up_self, pk_us, dlv_7]
  · rw [n5' 50 (by omega), e4, va_up_self, pk_un (by omega), e3, va_up_self, pk_us, dlv_8]
  · rw [n5' 50 (by omega), g4, dlv_9]
  · intro j hj
    have : cn (dlS S P data) 9 = data := by
      show (dlS S P data 3 9).toNatClampNeg = _
      rw [dlv_9, nI_clamp (by omega)]
    rw [this] at hj
    rw [e5, cpz_at, if_pos (by omega), show hl P + (j - 0) = hl P + j by omega, dlv_14]
    exact P4.2 _ (by omega)
  · rw [e5]; exact br_cpz (by rw [n4' 51 (by omega)]; exact d6) (by rw [n4' r (by omega)]; exact hr)
theorem n67 (hE : cE S z) (hD : dC S z) (hW : wE S) (hpt : p < 8) (hp : pk a r N) (hP : cb z r M P) (hr : ∀ i, br (z r i)) (hM : M ≤ N) (hN : N < 10000) (hrr : 0 < r ∧ (r < 20 ∨ (27 < r ∧ r < 50))) (h0 : 20 ≤ hl P) (hdt : n2 P 2 = hl P + data) (hMq : hl P + data ≤ M) (hd4 : data ≤ 4000) (h2 : cn S 2 = 0) (h11 : cn S 11 = 0) (hf : 30000 < f) : ∃ z', B_67_46 f 0 (nI p) a (hq z w c s) = some (.inl (some (.int (owS S p P data).2)), hq z' w c s) ∧ cE (owS S p P data).1 z' ∧ dC (owS S p P data).1 z' ∧ (∀ a, a ≠ 0 → a < 20 ∨ 27 < a → a ≠ 50 → a ≠ 51 → z' a = z a) ∧ ∀ k, k ≠ 8 → k ≠ 9 → z' 0 k = z 0 k := by
  have hl6 := hl_le P
  have b9 := hP.1 9
  have q17 := n17 (f := f) (w := w) (c := c) (s := s) hp hP hM hN (by omega)
  unfold owS
  by_cases h1 : P 9 = 17
  · rw [if_pos h1]
    dsimp only
    have h1' : nI (P 9) = 17 := by rw [h1]; rfl
    obtain ⟨z1, g1, g2, g3⟩ := n1_ (f := f) (w := w) (c := c) (s := s) hD hp hP hr hM hN (by omega) h0 hdt hMq hd4
    obtain ⟨E1, E2, E3, E4, E5, E6⟩ := hE
    refine ⟨z1, ?_, ⟨fun i hi => ?_, ?_, ?_, ?_, ?_, ?_⟩, g2, fun a h3 h4 h5 h6 => g3 a h5 h6, fun k _ _ => by rw [g3 0 (by omega) (by omega)]⟩
    · simp only [B_67_46, (hp _ _ _ _).1, q17, h1', g1, dg_1, db_1, db_0, dl_1, dp_1, dv_1, dv_x, di_1, di_x, dw_1, ec_eq, ec_ne, ec_lt, ec_ge, ec_gt, ec_le, hq_z, hq_wz, hq_wc, hq_thr, hq_p29, hq_pw, eq_self, decide_true, decide_false, not_true_eq_false, not_false_eq_true, kq_0, kq_1, kq_2, kq_3, kq_4, kq_5, kq_6, kq_7, kq_8, kq_9, kq_10, kq_11, kq_12, kq_13, kq_14, kq_15, kq_16, kq_17, kq_18, kq_19, kq_20, kq_21, kq_22, kq_23, kq_24, kq_25, kq_26, kq_27, kq_28, kq_29, kq_30, kq_31, kq_32, kq_33, kq_34, kq_35, kq_36, kq_37, kq_38, kq_39, kq_40, kq_41, kq_42, kq_43, kq_44, kq_45, kq_46, kq_47, kq_48, kq_49, kq_50, kq_51, kq_52, kq_53, kq_54, kq_55, kq_56, kq_57, kq_58, kq_59, kq_60, kq_61, kq_62, kq_63, kq_64, kq_65, kq_66, kq_67, kq_68, kq_69, kq_70, kq_71, kq_72, kq_73, kq_74, kq_75, kq_76, kq_77, kq_78, kq_79, kq_80, kq_81, pq_0_0, pq_0_1, pq_0_2, pq_0_3, pq_0_4, pq_0_5, pq_0_6, pq_0_7, pq_1_0, pq_1_1, pq_1_2, pq_1_3, pq_1_4, pq_1_5, pq_1_6, pq_1_7, pq_10_0, pq_10_1, pq_10_2, pq_10_3, pq_15_0, pq_17_0, pq_19_0, pq_21_0, pq_21_1, pq_21_2, pq_21_3, pq_21_4, pq_21_5, pq_28_0, pq_30_0, pq_30_1, pq_30_2, pq_31_0, pq_35_0, pq_35_1, pq_35_2, pq_36_0, pq_40_0, pq_40_1, pq_40_2, pq_41_0, pq_45_0, pq_45_1, pq_45_2, pq_46_0, pq_50_0, pq_52_0, pq_52_1, pq_52_2, pq_52_3, pq_52_4, pq_52_5, pq_52_6, pq_52_8, pq_52_10, pq_52_11, pq_52_14, pq_52_15, pq_52_16, pq_52_17, pq_52_18, pq_52_27, pq_52_29, pq_52_30, pq_52_31, pq_52_32, pq_52_33, pq_52_34, pq_52_35, pq_52_36, pq_52_37, pq_52_38, pq_52_39, pq_52_40, pq_52_41, aq_1, aq_11, aq_12, aq_13, aq_14, aq_16, aq_18, aq_20, aq_22, aq_23, aq_24, aq_25, aq_26, aq_27, aq_29, aq_32, aq_33, aq_34, aq_37, aq_38, aq_39, aq_42, aq_43, aq_44, aq_47, aq_48, aq_49, aq_51, aq_53, aq_54, aq_55, aq_56, aq_57, aq_58, aq_59, aq_60, aq_61, aq_62, aq_63, aq_64, aq_65, aq_66, aq_67, aq_68, aq_69, aq_70, aq_71, aq_72, aq_73, aq_74, aq_75, aq_76, aq_77, aq_78, aq_79, aq_80, aq_81]
    · rw [g3 (2 + i) (by omega) (by omega), dlv_k (by omega) (by omega), dlv_k (by omega) (by omega), dlv_k (by omega) (by omega)]; exact E1 i hi
    · rw [g3 0 (by omega) (by omega), dlv_3 (by omega)]; exact E2
    · rw [g3 0 (by omega) (by omega), dlv_3 (by omega)]; exact E3
    · rw [show cn (dlS S P data) 2 = cn S 2 from cn_of (dlv_3 (by omega))]
      exact OB_S E4 (dlv_3 (by omega)) (dlv_3 (by omega)) (fun k h3 h4 => dlv_k (by omega) (by omega)) (fun a h3 h4 => g3 a (by omega) (by omega))
    · rw [g3 20 (by omega) (by omega)]; exact E5
    · rw [g3 27 (by omega) (by omega)]; exact E6
  have h1' : ¬ nI (P 9) = 17 := fun h => h1 ((nI_eq (b := 17) (by omega) (by omega)).mp h)
  rw [if_neg h1]
  by_cases h3 : P 9 = 1
  case neg =>
    rw [if_pos h3]
    have h3' : ¬ nI (P 9) = 1 := fun h => h3 ((nI_eq (b := 1) (by omega) (by omega)).mp h)
    obtain ⟨z1, g1, g2, g3, g4⟩ := n69 (f := f) (w := w) (c := c) (s := s) (q := if data < 8 then data else 8) (ty := 3) (co := 2) (re := 0) hE hW hpt hp hP hr hM hN (by omega) h0 (by omega) (by rw [show n2 P 2 - hl P = data by omega]) (by split <;> omega) (by omega) (by omega) (by omega) (by omega) (by omega) (by omega)
    have hk := erS_k (S := S) (p := p) (P := P) (q := if data < 8 then data else 8) (ty := 3) (co := 2) (re := 0) hW hpt (by split <;> omega) (by omega) (by omega)
    have g1' : F_69 f 0 a (nI p) 3 2 0 (hq z w c s) = some (.inl none, hq z1 w c s) := g1
    refine ⟨z1, ?_, g2, dC_of hD (fun k h5 h6 => hk.2.1 k (by omega) (by omega) (by omega) (by omega)) (hk.1 14 (by omega) (by omega)) (g3 50 (by omega) (by omega)) (g3 51 (by omega) (by omega)), fun a h5 h6 h7 h8 => g3 a h5 h6, g4⟩
    simp only [B_67_46, (hp _ _ _ _).1, q17, h1', h3', g1', dg_1, db_1, db_0, dl_1, dp_1, dv_1, dv_x, di_1, di_x, dw_1, ec_eq, ec_ne, ec_lt, ec_ge, ec_gt, ec_le, hq_z, hq_wz, hq_wc, hq_thr, hq_p29, hq_pw, eq_self, decide_true, decide_false, not_true_eq_false, not_false_eq_true, kq_0, kq_1, kq_2, kq_3, kq_4, kq_5, kq_6, kq_7, kq_8, kq_9, kq_10, kq_11, kq_12, kq_13, kq_14, kq_15, kq_16, kq_17, kq_18, kq_19, kq_20, kq_21, kq_22, kq_23, kq_24, kq_25, kq_26, kq_27, kq_28, kq_29, kq_30, kq_31, kq_32, kq_33, kq_34, kq_35, kq_36, kq_37, kq_38, kq_39, kq_40, kq_41, kq_42, kq_43, kq_44, kq_45, kq_46, kq_47, kq_48, kq_49, kq_50, kq_51, kq_52, kq_53, kq_54, kq_55, kq_56, kq_57, kq_58, kq_59, kq_60, kq_61, kq_62, kq_63, kq_64, kq_65, kq_66, kq_67, kq_68, kq_69, kq_70, kq_71, kq_72, kq_73, kq_74, kq_75, kq_76, kq_77, kq_78, kq_79, kq_80, kq_81, pq_0_0, pq_0_1, pq_0_2, pq_0_3, pq_0_4, pq_0_5, pq_0_6, pq_0_7, pq_1_0, pq_1_1, pq_1_2, pq_1_3, pq_1_4, pq_1_5, pq_1_6, pq_1_7, pq_10_0, pq_10_1, pq_10_2, pq_10_3, pq_15_0, pq_17_0, pq_19_0, pq_21_0, pq_21_1, pq_21_2, pq_21_3, pq_21_4, pq_21_5, pq_28_0, pq_30_0, pq_30_1, pq_30_2, pq_31_0, pq_35_0, pq_35_1, pq_35_2, pq_36_0, pq_40_0, pq_40_1, pq_40_2, pq_41_0, pq_45_0, pq_45_1, pq_45_2, pq_46_0, pq_50_0, pq_52_0, pq_52_1, pq_52_2, pq_52_3, pq_52_4, pq_52_5, pq_52_6, pq_52_8, pq_52_10, pq_52_11, pq_52_14, pq_52_15, pq_52_16, pq_52_17, pq_52_18, pq_52_27, pq_52_29, pq_52_30, pq_52_31, pq_52_32, pq_52_33, pq_52_34, pq_52_35, pq_52_36, pq_52_37, pq_52_38, pq_52_39, pq_52_40, pq_52_41, aq_1, aq_11, aq_12, aq_13, aq_14, aq_16, aq_18, aq_20, aq_22, aq_23, aq_24, aq_25, aq_26, aq_27, aq_29, aq_32, aq_33, aq_34, aq_37, aq_38, aq_39, aq_42, aq_43, aq_44, aq_47, aq_48, aq_49, aq_51, aq_53, aq_54, aq_55, aq_56, aq_57, aq_58, aq_59, aq_60, aq_61, aq_62, aq_63, aq_64, aq_65, aq_66, aq_67, aq_68, aq_69, aq_70, aq_71, aq_72, aq_73, aq_74, aq_75, aq_76, aq_77, aq_78, aq_79, aq_80, aq_81]
  rw [if_neg (fun h => h h3)]
  have h3' : nI (P 9) = 1 := by rw [h3]; rfl
  have q23 := n23 (f := f) (w := w) (c := c) (s := s) hp hP hr hM hN h0 hdt hMq (by omega)
  by_cases h4 : isRq P data
  · rw [if_pos h4] at q23 ⊢
    obtain ⟨z1, g1, g2, g3, g4⟩ := n70 (f := f) (w := w) (c := c) (s := s) hE hW hpt hp hP hr hM hN (by omega) h0 hdt hMq h4.1 hd4 h2 h11 (by omega)
    have hk := anS_k (S := S) (p := p) (P := P) (data := data) hW hpt hd4 h2 h11
    refine ⟨z1, ?_, g2, dC_of hD (fun k h5 h6 => hk.2.1 k (by omega) (by omega) (by omega)) (hk.1 14 (by omega) (by omega)) (g3 50 (by omega) (by omega)) (g3 51 (by omega) (by omega)), fun a h5 h6 h7 h8 => g3 a h5 h6, fun k h8 h9 => g4 k h9⟩
    simp only [B_67_46, (hp _ _ _ _).1, q17, h1', h3', q23, show ¬ (1 : Int32) = 0 by decide, show ¬ (1 : Int32) = 17 by decide, g1, dg_1, db_1, db_0, dl_1, dp_1, dv_1, dv_x, di_1, di_x, dw_1, ec_eq, ec_ne, ec_lt, ec_ge, ec_gt, ec_le, hq_z, hq_wz, hq_wc, hq_thr, hq_p29, hq_pw, eq_self, decide_true, decide_false, not_true_eq_false, not_false_eq_true, kq_0, kq_1, kq_2, kq_3, kq_4, kq_5, kq_6, kq_7, kq_8, kq_9, kq_10, kq_11, kq_12, kq_13, kq_14, kq_15, kq_16, kq_17, kq_18, kq_19, kq_20, kq_21, kq_22, kq_23, kq_24, kq_25, kq_26, kq_27, kq_28, kq_29, kq_30, kq_31, kq_32, kq_33, kq_34, kq_35, kq_36, kq_37, kq_38, kq_39, kq_40, kq_41, kq_42, kq_43, kq_44, kq_45, kq_46, kq_47, kq_48, kq_49, kq_50, kq_51, kq_52, kq_53, kq_54, kq_55, kq_56, kq_57, kq_58, kq_59, kq_60, kq_61, kq_62, kq_63, kq_64, kq_65, kq_66, kq_67, kq_68, kq_69, kq_70, kq_71, kq_72, kq_73, kq_74, kq_75, kq_76, kq_77, kq_78, kq_79, kq_80, kq_81, pq_0_0, pq_0_1, pq_0_2, pq_0_3, pq_0_4, pq_0_5, pq_0_6, pq_0_7, pq_1_0, pq_1_1, pq_1_2, pq_1_3, pq_1_4, pq_1_5, pq_1_6, pq_1_7, pq_10_0, pq_10_1, pq_10_2, pq_10_3, pq_15_0, pq_17_0, pq_19_0, pq_21_0, pq_21_1, pq_21_2, pq_21_3, pq_21_4, pq_21_5, pq_28_0, pq_30_0, pq_30_1, pq_30_2, pq_31_0, pq_35_0, pq_35_1, pq_35_2, pq_36_0, pq_40_0, pq_40_1, pq_40_2, pq_41_0, pq_45_0, pq_45_1, pq_45_2, pq_46_0, pq_50_0, pq_52_0, pq_52_1, pq_52_2, pq_52_3, pq_52_4, pq_52_5, pq_52_6, pq_52_8, pq_52_10, pq_52_11, pq_52_14, pq_52_15, pq_52_16, pq_52_17, pq_52_18, pq_52_27, pq_52_29, pq_52_30, pq_52_31, pq_52_32, pq_52_33, pq_52_34, pq_52_35, pq_52_36, pq_52_37, pq_52_38, pq_52_39, pq_52_40, pq_52_41, aq_1, aq_11, aq_12, aq_13, aq_14, aq_16, aq_18, aq_20, aq_22, aq_23, aq_24, aq_25, aq_26, aq_27, aq_29, aq_32, aq_33, aq_34, aq_37, aq_38, aq_39, aq_42, aq_43, aq_44, aq_47, aq_48, aq_49, aq_51, aq_53, aq_54, aq_55, aq_56, aq_57, aq_58, aq_59, aq_60, aq_61, aq_62, aq_63, aq_64, aq_65, aq_66, aq_67, aq_68, aq_69, aq_70, aq_71, aq_72, aq_73, aq_74, aq_75, aq_76, aq_77, aq_78, aq_79, aq_80, aq_81]
  · rw [if_neg h4] at q23 ⊢
    refine ⟨z, ?_, hE, hD, fun _ _ _ _ _ => rfl, fun _ _ _ => rfl⟩
    simp only [B_67_46, (hp _ _ _ _).1, q17, h1', h3', q23, show ¬ (1 : Int32) = 17 by decide, dg_1, db_1, db_0, dl_1, dp_1, dv_1, dv_x, di_1, di_x, dw_1, ec_eq, ec_ne, ec_lt, ec_ge, ec_gt, ec_le, hq_z, hq_wz, hq_wc, hq_thr, hq_p29, hq_pw, eq_self, decide_true, decide_false, not_true_eq_false, not_false_eq_true, kq_0, kq_1, kq_2, kq_3, kq_4, kq_5, kq_6, kq_7, kq_8, kq_9, kq_10, kq_11, kq_12, kq_13, kq_14, kq_15, kq_16, kq_17, kq_18, kq_19, kq_20, kq_21, kq_22, kq_23, kq_24, kq_25, kq_26, kq_27, kq_28, kq_29, kq_30, kq_31, kq_32, kq_33, kq_34, kq_35, kq_36, kq_37, kq_38, kq_39, kq_40, kq_41, kq_42, kq_43, kq_44, kq_45, kq_46, kq_47, kq_48, kq_49, kq_50, kq_51, kq_52, kq_53, kq_54, kq_55, kq_56, kq_57, kq_58, kq_59, kq_60, kq_61, kq_62, kq_63, kq_64, kq_65, kq_66, kq_67, kq_68, kq_69, kq_70, kq_71, kq_72, kq_73, kq_74, kq_75, kq_76, kq_77, kq_78, kq_79, kq_80, kq_81, pq_0_0, pq_0_1, pq_0_2, pq_0_3, pq_0_4, pq_0_5, pq_0_6, pq_0_7, pq_1_0, pq_1_1, pq_1_2, pq_1_3, pq_1_4, pq_1_5, pq_1_6, pq_1_7, pq_10_0, pq_10_1, pq_10_2, pq_10_3, pq_15_0, pq_17_0, pq_19_0, pq_21_0, pq_21_1, pq_21_2, pq_21_3, pq_21_4, pq_21_5, pq_28_0, pq_30_0, pq_30_1, pq_30_2, pq_31_0, pq_35_0, pq_35_1, pq_35_2, pq_36_0, pq_40_0, pq_40_1, pq_40_2, pq_41_0, pq_45_0, pq_45_1, pq_45_2, pq_46_0, pq_50_0, pq_52_0, pq_52_1, pq_52_2, pq_52_3, pq_52_4, pq_52_5, pq_52_6, pq_52_8, pq_52_10, pq_52_11, pq_52_14, pq_52_15, pq_52_16, pq_52_17, pq_52_18, pq_52_27, pq_52_29, pq_52_30, pq_52_31, pq_52_32, pq_52_33, pq_52_34, pq_52_35, pq_52_36, pq_52_37, pq_52_38, pq_52_39, pq_52_40, pq_52_41, aq_1, aq_11, aq_12, aq_13, aq_14, aq_16, aq_18, aq_20, aq_22, aq_23, aq_24, aq_25, aq_26, aq_27, aq_29, aq_32, aq_33, aq_34, aq_37, aq_38, aq_39, aq_42, aq_43, aq_44, aq_47, aq_48, aq_49, aq_51, aq_53, aq_54, aq_55, aq_56, aq_57, aq_58, aq_59, aq_60, aq_61, aq_62, aq_63, aq_64, aq_65, aq_66, aq_67, aq_68, aq_69, aq_70, aq_71, aq_72, aq_73, aq_74, aq_75, aq_76, aq_77, aq_78, aq_79, aq_80, aq_81]
theorem lp_109 {l2 l3 : Nat} (h1 : l2 + l3 ≤ 4100) (h2 : l3 ≤ 4000) : ∀ (q k g : Nat) (z : Nat → Nat → Int32), k + q ≤ l3 → B_109_167 f  (g + q) 52 (nI l2) (nI l3) (nI k) (hq z w c s) = B_109_167 f  g 52 (nI l2) (nI l3) (nI (k + q)) (hq (cpz z 68 61 (l2 + k) (0 + k) q) w c s) := by
  intro q
  induction q with
  | zero => intro k g z h; rw [cpz_0]; rfl
  | succ q ih =>
    intro k g z h
    have e1 := ih (k + 1) g (va_up z 68 (upd (z 68) (0 + k) (z 61 (l2 + k)))) (by omega)
    rw [show l2 + (k + 1) = l2 + k + 1 from rfl, show 0 + (k + 1) = 0 + k + 1 from rfl, cpz_s (Or.inl (by decide)), show k + 1 + q = k + (q + 1) by omega] at e1
    rw [← e1, show g + (q + 1) = (g + q) + 1 from rfl]
    have y0 : ¬ nI (l3) ≤ nI k := nI_ge (by omega) (by omega)
    have y1 : ev_in (nI (l2 + k)) 4100 = true := ev_in_nI (by omega) (by omega)
    have y2 : ev_in (nI (0 + k)) 4000 = true := ev_in_nI (by omega) (by omega)
    have y3 : (nI (l2 + k)).toNatClampNeg = l2 + k := nI_clamp (by omega)
    have y4 : (nI (0 + k)).toNatClampNeg = 0 + k := nI_clamp (by omega)
    rw [show (0 : Nat) + k = k by omega] at y2 y4 ⊢
    simp only [B_109_167, y0, y1, y2, y3, y4, nI_add, nI_1, dg_1, db_1, db_0, dl_1, dp_1, dv_1, dv_x, di_1, di_x, dw_1, ec_eq, ec_ne, ec_lt, ec_ge, ec_gt, ec_le, hq_z, hq_wz, hq_wc, hq_thr, hq_p29, hq_pw, eq_self, decide_true, decide_false, not_true_eq_false, not_false_eq_true, kq_0, kq_1, kq_2, kq_3, kq_4, kq_5, kq_6, kq_7, kq_8, kq_9, kq_10, kq_11, kq_12, kq_13, kq_14, kq_15, kq_16, kq_17, kq_18, kq_19, kq_20, kq_21, kq_22, kq_23, kq_24, kq_25, kq_26, kq_27, kq_28, kq_29, kq_30, kq_31, kq_32, kq_33, kq_34, kq_35, kq_36, kq_37, kq_38, kq_39, kq_40, kq_41, kq_42, kq_43, kq_44, kq_45, kq_46, kq_47, kq_48, kq_49, kq_50, kq_51, kq_52, kq_53, kq_54, kq_55, kq_56, kq_57, kq_58, kq_59, kq_60, kq_61, kq_62, kq_63, kq_64, kq_65, kq_66, kq_67, kq_68, kq_69, kq_70, kq_71, kq_72, kq_73, kq_74, kq_75, kq_76, kq_77, kq_78, kq_79, kq_80, kq_81, pq_0_0, pq_0_1, pq_0_2, pq_0_3, pq_0_4, pq_0_5, pq_0_6, pq_0_7, pq_1_0, pq_1_1, pq_1_2, pq_1_3, pq_1_4, pq_1_5, pq_1_6, pq_1_7, pq_10_0, pq_10_1, pq_10_2, pq_10_3, pq_15_0, pq_17_0, pq_19_0, pq_21_0, pq_21_1, pq_21_2, pq_21_3, pq_21_4, pq_21_5, pq_28_0, pq_30_0, pq_30_1, pq_30_2, pq_31_0, pq_35_0, pq_35_1, pq_35_2, pq_36_0, pq_40_0, pq_40_1, pq_40_2, pq_41_0, pq_45_0, pq_45_1, pq_45_2, pq_46_0, pq_50_0, pq_52_0, pq_52_1, pq_52_2, pq_52_3, pq_52_4, pq_52_5, pq_52_6, pq_52_8, pq_52_10, pq_52_11, pq_52_14, pq_52_15, pq_52_16, pq_52_17, pq_52_18, pq_52_27, pq_52_29, pq_52_30, pq_52_31, pq_52_32, pq_52_33, pq_52_34, pq_52_35, pq_52_36, pq_52_37, pq_52_38, pq_52_39, pq_52_40, pq_52_41, aq_1, aq_11, aq_12, aq_13, aq_14, aq_16, aq_18, aq_20, aq_22, aq_23, aq_24, aq_25, aq_26, aq_27, aq_29, aq_32, aq_33, aq_34, aq_37, aq_38, aq_39, aq_42, aq_43, aq_44, aq_47, aq_48, aq_49, aq_51, aq_53, aq_54, aq_55, aq_56, aq_57, aq_58, aq_59, aq_60, aq_61, aq_62, aq_63, aq_64, aq_65, aq_66, aq_67, aq_68, aq_69, aq_70, aq_71, aq_72, aq_73, aq_74, aq_75, aq_76, aq_77, aq_78, aq_79, aq_80, aq_81]
theorem m109 {sz : Nat} (hE : mE S z) (hD : dM S z) (hW : wE S) (hpt : p < 8) (hP : mb z 61 M P) (hM : M ≤ 4100) (h0 : 20 ≤ hl P) (h12 : z 52 12 = nI sz) (hsz : sz = hl P + data) (hMq : hl P + data ≤ M) (hd4 : data ≤ 4000) (h2 : cn S 2 = 0) (h11 : cn S 11 = 0) (hf : 40000 < f) : ∃ z', F_109 f 52 (nI p) (hq z w c s) = some (.inl (some (.int (owS S p P data).2)), hq z' w c s) ∧ mE (owS S p P data).1 z' ∧ dM (owS S p P data).1 z' ∧ (∀ a, a ≠ 52 → a < 61 ∨ 68 < a → z' a = z a) ∧ ∀ k, k ≠ 12 → k ≠ 13 → k < 19 ∨ 26 < k ∨ k = 22 → z' 52 k = z 52 k := by
  have hl6 := hl_le P
  have b0 := hP.1 0
  have b9 := hP.1 9
  have v0 := hP.2 0 (by omega)
  have v9 := hP.2 9 (by omega)
  have e15 := (nI_mask (a := P 0) (by omega)).1
  have hm4 := hl_m (B := P)
  have i0 : ev_in 0 4100 = true := by decide
  have i9 : ev_in 9 4100 = true := by decide
  have c0 : Int32.toNatClampNeg 0 = 0 := rfl
  have c9 : Int32.toNatClampNeg 9 = 9 := rfl
  have y4 : nI sz - nI (hl P) = nI data := by rw [nI_subN (by omega)]; exact congrArg nI (by omega)
  unfold owS
  by_cases h1 : P 9 = 17
  · rw [if_pos h1]
    dsimp only
    have h1' : nI (P 9) = 17 := by rw [h1]; rfl
    obtain ⟨z1, e1⟩ : ∃ x, x = va_up z 52 (upd (z 52) 23 (z 52 23 + 1)) := ⟨_, rfl⟩
    obtain ⟨z2, e2⟩ : ∃ x, x = va_up z1 52 (upd (z1 52) 24 (nI (n4 P 12))) := ⟨_, rfl⟩
    obtain ⟨z3, e3⟩ : ∃ x, x = va_up z2 52 (upd (z2 52) 25 (nI (n4 P 16))) := ⟨_, rfl⟩
    obtain ⟨z4, e4⟩ : ∃ x, x = va_up z3 52 (upd (z3 52) 26 (nI data)) := ⟨_, rfl⟩
    have n1 : ∀ a, a ≠ 52 → z1 a = z a := fun a ha => by rw [e1, va_up_ne _ _ ha]
    have n2' : ∀ a, a ≠ 52 → z2 a = z a := fun a ha => by rw [e2, va_up_ne _ _ ha, n1 a ha]
    have n4' : ∀ a, a ≠ 52 → z4 a = z a := fun a ha => by rw [e4, va_up_ne _ _ ha, e3, va_up_ne _ _ ha, n2' a ha]
    have m4 : ∀ k, k < 23 ∨ 26 < k → z4 52 k = z 52 k := fun k hk => by rw [e4, va_up_self, pk_un (by omega), e3, va_up_self, pk_un (by omega), e2, va_up_self, pk_un (by omega), e1, va_up_self, pk_un (by omega)]
    have q90a : F_90 f 61 12 (hq z1 w c s) = some (.inl (some (.int (nI (n4 P 12)))), hq z1 w c s) := n90 (t := 12) kq_61 ⟨hP.1, fun i hi => by rw [n1 61 (by omega)]; exact hP.2 i hi⟩ hM (by omega) (by omega)
    have q90b : F_90 f 61 16 (hq z2 w c s) = some (.inl (some (.int (nI (n4 P 16)))), hq z2 w c s) := n90 (t := 16) kq_61 ⟨hP.1, fun i hi => by rw [n2' 61 (by omega)]; exact hP.2 i hi⟩ hM (by omega) (by omega)
    have s2 := lp_109 (f := f) (w := w) (c := c) (s := s) (l2 := hl P) (l3 := data) (by omega) hd4 data 0 (f - data) z4 (by omega)
    rw [show f - data + data = f by omega] at s2
    obtain ⟨z5, e5⟩ : ∃ x, x = cpz z4 68 61 (hl P + 0) (0 + 0) data := ⟨_, rfl⟩
    rw [← e5] at s2
    have n5' : ∀ a, a ≠ 68 → z5 a = z4 a := fun a ha => by rw [e5, cpz_ne ha]
    obtain ⟨g, hg⟩ : ∃ g, f - data = g + 1 := ⟨f - data - 1, by omega⟩
    rw [hg] at s2
    have y0 : nI data ≤ nI (0 + data) := nI_le (by omega) (by omega)
    have s3 : B_109_167 f f 52 (nI (hl P)) (nI data) 0 (hq z4 w c s) = some (.inl (some (.int 13)), hq z5 w c s) := by
      refine Eq.trans s2 ?_
      simp only [B_109_167, y0, dg_1, db_1, db_0, dl_1, dp_1, dv_1, dv_x, di_1, di_x, dw_1, ec_eq, ec_ne, ec_lt, ec_ge, ec_gt, ec_le, hq_z, hq_wz, hq_wc, hq_thr, hq_p29, hq_pw, eq_self, decide_true, decide_false, not_true_eq_false, not_false_eq_true, kq_0, kq_1, kq_2, kq_3, kq_4, kq_5, kq_6, kq_7, kq_8, kq_9, kq_10, kq_11, kq_12, kq_13, kq_14, kq_15, kq_16, kq_17, kq_18, kq_19, kq_20, kq_21, kq_22, kq_23, kq_24, kq_25, kq_26, kq_27, kq_28, kq_29, kq_30, kq_31, kq_32, kq_33, kq_34, kq_35, kq_36, kq_37, kq_38, kq_39, kq_40, kq_41, kq_42, kq_43, kq_44, kq_45, kq_46, kq_47, kq_48, kq_49, kq_50, kq_51, kq_52, kq_53, kq_54, kq_55, kq_56, kq_57, kq_58, kq_59, kq_60, kq_61, kq_62, kq_63, kq_64, kq_65, kq_66, kq_67, kq_68, kq_69, kq_70, kq_71, kq_72, kq_73, kq_74, kq_75, kq_76, kq_77, kq_78, kq_79, kq_80, kq_81, pq_0_0, pq_0_1, pq_0_2, pq_0_3, pq_0_4, pq_0_5, pq_0_6, pq_0_7, pq_1_0, pq_1_1, pq_1_2, pq_1_3, pq_1_4, pq_1_5, pq_1_6, pq_1_7, pq_10_0, pq_10_1, pq_10_2, pq_10_3, pq_15_0, pq_17_0, pq_19_0, pq_21_0, pq_21_1, pq_21_2, pq_21_3, pq_21_4, pq_21_5, pq_28_0, pq_30_0, pq_30_1, pq_30_2, pq_31_0, pq_35_0, pq_35_1, pq_35_2, pq_36_0, pq_40_0, pq_40_1, pq_40_2, pq_41_0, pq_45_0, pq_45_1, pq_45_2, pq_46_0, pq_50_0, pq_52_0, pq_52_1, pq_52_2, pq_52_3, pq_52_4, pq_52_5, pq_52_6, pq_52_8, pq_52_10, pq_52_11, pq_52_14, pq_52_15, pq_52_16, pq_52_17, pq_52_18, pq_52_27, pq_52_29, pq_52_30, pq_52_31, pq_52_32, pq_52_33, pq_52_34, pq_52_35, pq_52_36, pq_52_37, pq_52_38, pq_52_39, pq_52_40, pq_52_41, aq_1, aq_11, aq_12, aq_13, aq_14, aq_16, aq_18, aq_20, aq_22, aq_23, aq_24, aq_25, aq_26, aq_27, aq_29, aq_32, aq_33, aq_34, aq_37, aq_38, aq_39, aq_42, aq_43, aq_44, aq_47, aq_48, aq_49, aq_51, aq_53, aq_54, aq_55, aq_56, aq_57, aq_58, aq_59, aq_60, aq_61, aq_62, aq_63, aq_64, aq_65, aq_66, aq_67, aq_68, aq_69, aq_70, aq_71, aq_72, aq_73, aq_74, aq_75, aq_76, aq_77, aq_78, aq_79, aq_80, aq_81]
    obtain ⟨E1, E2, E3, E4⟩ := hE
    obtain ⟨d1, d2, d3, d4, d5⟩ := hD
    refine ⟨z5, ?_, ⟨fun i hi => ?_, ?_, ?_, ?_⟩, ⟨?_, ?_, ?_, ?_, ?_⟩, fun a h52 ha => by rw [n5' a (by omega), n4' a h52], fun k h12 h13 hk => by rw [n5' 52 (by omega), m4 k (by omega)]⟩
    · simp only [F_109, i0, i9, c0, c9, v0, v9, e15, hm4, h1', show ¬ (17 : Int32) = 1 by decide, ← e1, q90a, ← e2, q90b, ← e3, h12, y4, ← e4, s3, dg_1, db_1, db_0, dl_1, dp_1, dv_1, dv_x, di_1, di_x, dw_1, ec_eq, ec_ne, ec_lt, ec_ge, ec_gt, ec_le, hq_z, hq_wz, hq_wc, hq_thr, hq_p29, hq_pw, eq_self, decide_true, decide_false, not_true_eq_false, not_false_eq_true, kq_0, kq_1, kq_2, kq_3, kq_4, kq_5, kq_6, kq_7, kq_8, kq_9, kq_10, kq_11, kq_12, kq_13, kq_14, kq_15, kq_16, kq_17, kq_18, kq_19, kq_20, kq_21, kq_22, kq_23, kq_24, kq_25, kq_26, kq_27, kq_28, kq_29, kq_30, kq_31, kq_32, kq_33, kq_34, kq_35, kq_36, kq_37, kq_38, kq_39, kq_40, kq_41, kq_42, kq_43, kq_44, kq_45, kq_46, kq_47, kq_48, kq_49, kq_50, kq_51, kq_52, kq_53, kq_54, kq_55, kq_56, kq_57, kq_58, kq_59, kq_60, kq_61, kq_62, kq_63, kq_64, kq_65, kq_66, kq_67, kq_68, kq_69, kq_70, kq_71, kq_72, kq_73, kq_74, kq_75, kq_76, kq_77, kq_78, kq_79, kq_80, kq_81, pq_0_0, pq_0_1, pq_0_2, pq_0_3, pq_0_4, pq_0_5, pq_0_6, pq_0_7, pq_1_0, pq_1_1, pq_1_2, pq_1_3, pq_1_4, pq_1_5, pq_1_6, pq_1_7, pq_10_0, pq_10_1, pq_10_2, pq_10_3, pq_15_0, pq_17_0, pq_19_0, pq_21_0, pq_21_1, pq_21_2, pq_21_3, pq_21_4, pq_21_5, pq_28_0, pq_30_0, pq_30_1, pq_30_2, pq_31_0, pq_35_0, pq_35_1, pq_35_2, pq_36_0, pq_40_0, pq_40_1, pq_40_2, pq_41_0, pq_45_0, pq_45_1, pq_45_2, pq_46_0, pq_50_0, pq_52_0, pq_52_1, pq_52_2, pq_52_3, pq_52_4, pq_52_5, pq_52_6, pq_52_8, pq_52_10, pq_52_11, pq_52_14, pq_52_15, pq_52_16, pq_52_17, pq_52_18, pq_52_27, pq_52_29, pq_52_30, pq_52_31, pq_52_32, pq_52_33, pq_52_34, pq_52_35, pq_52_36, pq_52_37, pq_52_38, pq_52_39, pq_52_40, pq_52_41, aq_1, aq_11, aq_12, aq_13, aq_14, aq_16, aq_18, aq_20, aq_22, aq_23, aq_24, aq_25, aq_26, aq_27, aq_29, aq_32, aq_33, aq_34, aq_37, aq_38, aq_39, aq_42, aq_43, aq_44, aq_47, aq_48, aq_49, aq_51, aq_53, aq_54, aq_55, aq_56, aq_57, aq_58, aq_59, aq_60, aq_61, aq_62, aq_63, aq_64, aq_65, aq_66, aq_67, aq_68, aq_69, aq_70, aq_71, aq_72, aq_73, aq_74, aq_75, aq_76, aq_77, aq_78, aq_79, aq_80, aq_81]
    · rw [n5' 53 (by omega), n5' 54 (by omega), n5' 55 (by omega), n4' 53 (by omega), n4' 54 (by omega), n4' 55 (by omega), dlv_k (by omega) (by omega), dlv_k (by omega) (by omega), dlv_k (by omega) (by omega)]; exact E1 i hi
    · rw [n5' 52 (by omega), m4 20 (by omega), dlv_3 (by omega)]; exact E2
    · rw [n5' 52 (by omega), m4 21 (by omega), dlv_3 (by omega)]; exact E3
    · exact OM_S E4 (dlv_3 (by omega)) (dlv_3 (by omega)) (fun k h3 h4 => dlv_k (by omega) (by omega)) (fun a h3 h4 => by rw [n5' a (by omega), n4' a (by omega)]) (by rw [n5' 52 (by omega), m4 19 (by omega)])
    · rw [n5' 52 (by omega), e4, va_up_self, pk_un (by omega), e3, va_up_self, pk_un (by omega), e2, va_up_self, pk_un (by omega), e1, va_up_self, pk_us, d1, dlv_6]
    · rw [n5' 52 (by omega), e4, va_up_self, pk_un (by omega), e3, va_up_self, pk_un (by omega), e2, va_up_self, pk_us, dlv_7]
    · rw [n5' 52 (by omega), e4, va_up_self, pk_un (by omega), e3, va_up_self, pk_us, dlv_8]
    · rw [n5' 52 (by omega), e4, va_up_self, pk_us, dlv_9]
    · intro j hj
      have : cn (dlS S P data) 9 = data := by
        show (dlS S P data 3 9).toNatClampNeg = _
        rw [dlv_9, nI_clamp (by omega)]
      rw [this] at hj
      rw [e5, cpz_at, if_pos (by omega), show hl P + 0 + (j - (0 + 0)) = hl P + j by omega, dlv_14, n4' 61 (by omega)]
      exact hP.2 _ (by omega)
  have h1' : ¬ nI (P 9) = 17 := fun h => h1 ((nI_eq (b := 17) (by omega) (by omega)).mp h)
  rw [if_neg h1]
  by_cases h3 : P 9 = 1
  case neg =>
    rw [if_pos h3]
    have h3' : ¬ nI (P 9) = 1 := fun h => h3 ((nI_eq (b := 1) (by omega) (by omega)).mp h)
    obtain ⟨z1, g1, g2, g3, g4⟩ := m98 (f := f) (w := w) (c := c) (s := s) (q := if data < 8 then data else 8) (ty := 3) (co := 2) (re := 0) hE hW hpt hP hM h0 h12 (by omega) (by omega) (by rw [show sz - hl P = data by omega]) (by split <;> omega) (by omega) (by omega) (by omega) (by omega) (by omega) (by omega)
    have hk := erS_k (S := S) (p := p) (P := P) (q := if data < 8 then data else 8) (ty := 3) (co := 2) (re := 0) hW hpt (by split <;> omega) (by omega) (by omega)
    have g1' : F_98 f 52 (nI p) 3 2 0 (hq z w c s) = some (.inl none, hq z1 w c s) := g1
    refine ⟨z1, ?_, g2, dM_of hD (fun k h5 h6 => hk.2.1 k (by omega) (by omega) (by omega) (by omega)) (hk.1 14 (by omega) (by omega)) (fun k h5 h6 => g4 k (by omega) (by omega) (by omega) (by omega)) (g3 68 (by omega) (by omega)), fun a h5 h6 => g3 a h5 (by omega), fun k h12 h13 hk => g4 k (by omega) (by omega) (by omega) (by omega)⟩
    simp only [F_109, i0, i9, c0, c9, v9, h1', h3', g1', dg_1, db_1, db_0, dl_1, dp_1, dv_1, dv_x, di_1, di_x, dw_1, ec_eq, ec_ne, ec_lt, ec_ge, ec_gt, ec_le, hq_z, hq_wz, hq_wc, hq_thr, hq_p29, hq_pw, eq_self, decide_true, decide_false, not_true_eq_false, not_false_eq_true, kq_0, kq_1, kq_2, kq_3, kq_4, kq_5, kq_6, kq_7, kq_8, kq_9, kq_10, kq_11, kq_12, kq_13, kq_14, kq_15, kq_16, kq_17, kq_18, kq_19, kq_20, kq_21, kq_22, kq_23, kq_24, kq_25, kq_26, kq_27, kq_28, kq_29, kq_30, kq_31, kq_32, kq_33, kq_34, kq_35, kq_36, kq_37, kq_38, kq_39, kq_40, kq_41, kq_42, kq_43, kq_44, kq_45, kq_46, kq_47, kq_48, kq_49, kq_50, kq_51, kq_52, kq_53, kq_54, kq_55, kq_56, kq_57, kq_58, kq_59, kq_60, kq_61, kq_62, kq_63, kq_64, kq_65, kq_66, kq_67, kq_68, kq_69, kq_70, kq_71, kq_72, kq_73, kq_74, kq_75, kq_76, kq_77, kq_78, kq_79, kq_80, kq_81, pq_0_0, pq_0_1, pq_0_2, pq_0_3, pq_0_4, pq_0_5, pq_0_6, pq_0_7, pq_1_0, pq_1_1, pq_1_2, pq_1_3, pq_1_4, pq_1_5, pq_1_6, pq_1_7, pq_10_0, pq_10_1, pq_10_2, pq_10_3, pq_15_0, pq_17_0, pq_19_0, pq_21_0, pq_21_1, pq_21_2, pq_21_3, pq_21_4, pq_21_5, pq_28_0, pq_30_0, pq_30_1, pq_30_2, pq_31_0, pq_35_0, pq_35_1, pq_35_2, pq_36_0, pq_40_0, pq_40_1, pq_40_2, pq_41_0, pq_45_0, pq_45_1, pq_45_2, pq_46_0, pq_50_0, pq_52_0, pq_52_1, pq_52_2, pq_52_3, pq_52_4, pq_52_5, pq_52_6, pq_52_8, pq_52_10, pq_52_11, pq_52_14, pq_52_15, pq_52_16, pq_52_17, pq_52_18, pq_52_27, pq_52_29, pq_52_30, pq_52_31, pq_52_32, pq_52_33, pq_52_34, pq_52_35, pq_52_36, pq_52_37, pq_52_38, pq_52_39, pq_52_40, pq_52_41, aq_1, aq_11, aq_12, aq_13, aq_14, aq_16, aq_18, aq_20, aq_22, aq_23, aq_24, aq_25, aq_26, aq_27, aq_29, aq_32, aq_33, aq_34, aq_37, aq_38, aq_39, aq_42, aq_43, aq_44, aq_47, aq_48, aq_49, aq_51, aq_53, aq_54, aq_55, aq_56, aq_57, aq_58, aq_59, aq_60, aq_61, aq_62, aq_63, aq_64, aq_65, aq_66, aq_67, aq_68, aq_69, aq_70, aq_71, aq_72, aq_73, aq_74, aq_75, aq_76, aq_77, aq_78, aq_79, aq_80, aq_81]
  rw [if_neg (fun h => h h3)]
  have h3' : nI (P 9) = 1 := by rw [h3]; rfl
  have k61 : ∀ z, hp_k (hq z w c s) 61 = some (64, 4100) := fun z => kq_61
  by_cases h4 : isRq P data
  · rw [if_pos h4]
    have h8' : ¬ nI data < 8 := nI_nlt (b := 8) h4.1 (by omega)
    have ih : ev_in (nI (hl P)) 4100 = true := ev_in_nI (by omega) (by omega)
    have ch : (nI (hl P)).toNatClampNeg = hl P := nI_clamp (by omega)
    have vh : z 61 (hl P) = 8 := by rw [hP.2 (hl P) (by have := h4.1; omega), h4.2.1]; rfl
    have q87 : F_87 f 61 (nI (hl P)) (nI data) 2 (hq z w c s) = some (.inl (some (.int (nI (ck (sN P (hl P) 2 data))))), hq z w c s) := t87 (at_ := hl P) (sk := 2) (N := 4100) k61 (by omega) (by omega) (by omega) hP.1 (fun i _ h _ _ => hP.2 i (by omega)) (by omega)
    have q89 : F_89 f 61 (nI (hl P + 2)) (hq z w c s) = some (.inl (some (.int (nI (n2 P (hl P + 2))))), hq z w c s) := n89 kq_61 hP hM (by omega) (by have := h4.1; omega)
    rw [h4.2.2] at q87
    obtain ⟨z1, g1, g2, g3, g4⟩ := m99 (f := f) (w := w) (c := c) (s := s) hE hW hpt hP hM h0 h12 hsz hMq h4.1 hd4 h2 h11 (by omega)
    have hk := anS_k (S := S) (p := p) (P := P) (data := data) hW hpt hd4 h2 h11
    refine ⟨z1, ?_, g2, dM_of hD (fun k h5 h6 => hk.2.1 k (by omega) (by omega) (by omega)) (hk.1 14 (by omega) (by omega)) (fun k h5 h6 => g4 k (by omega) (by omega) (by omega) (by omega)) (g3 68 (by omega) (by omega)), fun a h5 h6 => g3 a h5 (by omega), fun k h12 h13 hk => g4 k (by omega) (by omega) (by omega) (by omega)⟩
    simp only [F_109, B_109_75, B_109_87, B_109_99, i0, i9, c0, c9, v0, v9, e15, hm4, h3', h12, y4, h8', ih, ch, vh, q87, nI_k2, q89, show ¬ (1 : Int32) = 0 by decide, g1, dg_1, db_1, db_0, dl_1, dp_1, dv_1, dv_x, di_1, di_x, dw_1, ec_eq, ec_ne, ec_lt, ec_ge, ec_gt, ec_le, hq_z, hq_wz, hq_wc, hq_thr, hq_p29, hq_pw, eq_self, decide_true, decide_false, not_true_eq_false, not_false_eq_true, kq_0, kq_1, kq_2, kq_3, kq_4, kq_5, kq_6, kq_7, kq_8, kq_9, kq_10, kq_11, kq_12, kq_13, kq_14, kq_15, kq_16, kq_17, kq_18, kq_19, kq_20, kq_21, kq_22, kq_23, kq_24, kq_25, kq_26, kq_27, kq_28, kq_29, kq_30, kq_31, kq_32, kq_33, kq_34, kq_35, kq_36, kq_37, kq_38, kq_39, kq_40, kq_41, kq_42, kq_43, kq_44, kq_45, kq_46, kq_47, kq_48, kq_49, kq_50, kq_51, kq_52, kq_53, kq_54, kq_55, kq_56, kq_57, kq_58, kq_59, kq_60, kq_61, kq_62, kq_63, kq_64, kq_65, kq_66, kq_67, kq_68, kq_69, kq_70, kq_71, kq_72, kq_73, kq_74, kq_75, kq_76, kq_77, kq_78, kq_79, kq_80, kq_81, pq_0_0, pq_0_1, pq_0_2, pq_0_3, pq_0_4, pq_0_5, pq_0_6, pq_0_7, pq_1_0, pq_1_1, pq_1_2, pq_1_3, pq_1_4, pq_1_5, pq_1_6, pq_1_7, pq_10_0, pq_10_1, pq_10_2, pq_10_3, pq_15_0, pq_17_0, pq_19_0, pq_21_0, pq_21_1, pq_21_2, pq_21_3, pq_21_4, pq_21_5, pq_28_0, pq_30_0, pq_30_1, pq_30_2, pq_31_0, pq_35_0, pq_35_1, pq_35_2, pq_36_0, pq_40_0, pq_40_1, pq_40_2, pq_41_0, pq_45_0, pq_45_1, pq_45_2, pq_46_0, pq_50_0, pq_52_0, pq_52_1, pq_52_2, pq_52_3, pq_52_4, pq_52_5, pq_52_6, pq_52_8, pq_52_10, pq_52_11, pq_52_14, pq_52_15, pq_52_16, pq_52_17, pq_52_18, pq_52_27, pq_52_29, pq_52_30, pq_52_31, pq_52_32, pq_52_33, pq_52_34, pq_52_35, pq_52_36, pq_52_37, pq_52_38, pq_52_39, pq_52_40, pq_52_41, aq_1, aq_11, aq_12, aq_13, aq_14, aq_16, aq_18, aq_20, aq_22, aq_23, aq_24, aq_25, aq_26, aq_27, aq_29, aq_32, aq_33, aq_34, aq_37, aq_38, aq_39, aq_42, aq_43, aq_44, aq_47, aq_48, aq_49, aq_51, aq_53, aq_54, aq_55, aq_56, aq_57, aq_58, aq_59, aq_60, aq_61, aq_62, aq_63, aq_64, aq_65, aq_66, aq_67, aq_68, aq_69, aq_70, aq_71, aq_72, aq_73, aq_74, aq_75, aq_76, aq_77, aq_78, aq_79, aq_80, aq_81]
  · rw [if_neg h4]
    refine ⟨z, ?_, hE, hD, fun _ _ _ => rfl, fun _ _ _ _ => rfl⟩
    by_cases h8 : 8 ≤ data
    case neg =>
      have h8' : nI data < 8 := nI_lt (b := 8) (by omega) (by omega)
      simp only [F_109, B_109_74, B_109_75, B_109_87, B_109_99, i0, i9, c0, c9, v0, v9, e15, hm4, h3', h12, y4, h8', dg_1, db_1, db_0, dl_1, dp_1, dv_1, dv_x, di_1, di_x, dw_1, ec_eq, ec_ne, ec_lt, ec_ge, ec_gt, ec_le, hq_z, hq_wz, hq_wc, hq_thr, hq_p29, hq_pw, eq_self, decide_true, decide_false, not_true_eq_false, not_false_eq_true, kq_0, kq_1, kq_2, kq_3, kq_4, kq_5, kq_6, kq_7, kq_8, kq_9, kq_10, kq_11, kq_12, kq_13, kq_14, kq_15, kq_16, kq_17, kq_18, kq_19, kq_20, kq_21, kq_22, kq_23, kq_24, kq_25, kq_26, kq_27, kq_28, kq_29, kq_30, kq_31, kq_32, kq_33, kq_34, kq_35, kq_36, kq_37, kq_38, kq_39, kq_40, kq_41, kq_42, kq_43, kq_44, kq_45, kq_46, kq_47, kq_48, kq_49, kq_50, kq_51, kq_52, kq_53, kq_54, kq_55, kq_56, kq_57, kq_58, kq_59, kq_60, kq_61, kq_62, kq_63, kq_64, kq_65, kq_66, kq_67, kq_68, kq_69, kq_70, kq_71, kq_72, kq_73, kq_74, kq_75, kq_76, kq_77, kq_78, kq_79, kq_80, kq_81, pq_0_0, pq_0_1, pq_0_2, pq_0_3, pq_0_4, pq_0_5, pq_0_6, pq_0_7, pq_1_0, pq_1_1, pq_1_2, pq_1_3, pq_1_4, pq_1_5, pq_1_6, pq_1_7, pq_10_0, pq_10_1, pq_10_2, pq_10_3, pq_15_0, pq_17_0, pq_19_0, pq_21_0, pq_21_1, pq_21_2, pq_21_3, pq_21_4, pq_21_5, pq_28_0, pq_30_0, pq_30_1, pq_30_2, pq_31_0, pq_35_0, pq_35_1, pq_35_2, pq_36_0, pq_40_0, pq_40_1, pq_40_2, pq_41_0, pq_45_0, pq_45_1, pq_45_2, pq_46_0, pq_50_0, pq_52_0, pq_52_1, pq_52_2, pq_52_3, pq_52_4, pq_52_5, pq_52_6, pq_52_8, pq_52_10, pq_52_11, pq_52_14, pq_52_15, pq_52_16, pq_52_17, pq_52_18, pq_52_27, pq_52_29, pq_52_30, pq_52_31, pq_52_32, pq_52_33, pq_52_34, pq_52_35, pq_52_36, pq_52_37, pq_52_38, pq_52_39, pq_52_40, pq_52_41, aq_1, aq_11, aq_12, aq_13, aq_14, aq_16, aq_18, aq_20, aq_22, aq_23, aq_24, aq_25, aq_26, aq_27, aq_29, aq_32, aq_33, aq_34, aq_37, aq_38, aq_39, aq_42, aq_43, aq_44, aq_47, aq_48, aq_49, aq_51, aq_53, aq_54, aq_55, aq_56, aq_57, aq_58, aq_59, aq_60, aq_61, aq_62, aq_63, aq_64, aq_65, aq_66, aq_67, aq_68, aq_69, aq_70, aq_71, aq_72, aq_73, aq_74, aq_75, aq_76, aq_77, aq_78, aq_79, aq_80, aq_81]
    have h8' : ¬ nI data < 8 := nI_nlt (b := 8) h8 (by omega)
    have ih : ev_in (nI (hl P)) 4100 = true := ev_in_nI (by omega) (by omega)
    have ch : (nI (hl P)).toNatClampNeg = hl P := nI_clamp (by omega)
    have vh := hP.2 (hl P) (by omega)
    have bh := hP.1 (hl P)
    by_cases h5 : P (hl P) = 8
    case neg =>
      have h5' : ¬ nI (P (hl P)) = 8 := fun h => h5 ((nI_eq (b := 8) (by omega) (by omega)).mp h)
      simp only [F_109, B_109_74, B_109_75, B_109_87, B_109_99, i0, i9, c0, c9, v0, v9, e15, hm4, h3', h12, y4, h8', ih, ch, vh, h5', dg_1, db_1, db_0, dl_1, dp_1, dv_1, dv_x, di_1, di_x, dw_1, ec_eq, ec_ne, ec_lt, ec_ge, ec_gt, ec_le, hq_z, hq_wz, hq_wc, hq_thr, hq_p29, hq_pw, eq_self, decide_true, decide_false, not_true_eq_false, not_false_eq_true, kq_0, kq_1, kq_2, kq_3, kq_4, kq_5, kq_6, kq_7, kq_8, kq_9, kq_10, kq_11, kq_12, kq_13, kq_14, kq_15, kq_16, kq_17, kq_18, kq_19, kq_20, kq_21, kq_22, kq_23, kq_24, kq_25, kq_26, kq_27, kq_28, kq_29, kq_30, kq_31, kq_32, kq_33, kq_34, kq_35, kq_36, kq_37, kq_38, kq_39, kq_40, kq_41, kq_42, kq_43, kq_44, kq_45, kq_46, kq_47, kq_48, kq_49, kq_50, kq_51, kq_52, kq_53, kq_54, kq_55, kq_56, kq_57, kq_58, kq_59, kq_60, kq_61, kq_62, kq_63, kq_64, kq_65, kq_66, kq_67, kq_68, kq_69, kq_70, kq_71, kq_72, kq_73, kq_74, kq_75, kq_76, kq_77, kq_78, kq_79, kq_80, kq_81, pq_0_0, pq_0_1, pq_0_2, pq_0_3, pq_0_4, pq_0_5, pq_0_6, pq_0_7, pq_1_0, pq_1_1, pq_1_2, pq_1_3, pq_1_4, pq_1_5, pq_1_6, pq_1_7, pq_10_0, pq_10_1, pq_10_2, pq_10_3, pq_15_0, pq_17_0, pq_19_0, pq_21_0, pq_21_1, pq_21_2, pq_21_3, pq_21_4, pq_21_5, pq_28_0, pq_30_0, pq_30_1, pq_30_2, pq_31_0, pq_35_0, pq_35_1, pq_35_2, pq_36_0, pq_40_0, pq_40_1, pq_40_2, pq_41_0, pq_45_0, pq_45_1, pq_45_2, pq_46_0, pq_50_0, pq_52_0, pq_52_1, pq_52_2, pq_52_3, pq_52_4, pq_52_5, pq_52_6, pq_52_8, pq_52_10, pq_52_11, pq_52_14, pq_52_15, pq_52_16, pq_52_17, pq_52_18, pq_52_27, pq_52_29, pq_52_30, pq_52_31, pq_52_32, pq_52_33, pq_52_34, pq_52_35, pq_52_36, pq_52_37, pq_52_38, pq_52_39, pq_52_40, pq_52_41, aq_1, aq_11, aq_12, aq_13, aq_14, aq_16, aq_18, aq_20, aq_22, aq_23, aq_24, aq_25, aq_26, aq_27, aq_29, aq_32, aq_33, aq_34, aq_37, aq_38, aq_39, aq_42, aq_43, aq_44, aq_47, aq_48, aq_49, aq_51, aq_53, aq_54, aq_55, aq_56, aq_57, aq_58, aq_59, aq_60, aq_61, aq_62, aq_63, aq_64, aq_65, aq_66, aq_67, aq_68, aq_69, aq_70, aq_71, aq_72, aq_73, aq_74, aq_75, aq_76, aq_77, aq_78, aq_79, aq_80, aq_81]
    have h5' : nI (P (hl P)) = 8 := by rw [h5]; rfl
    have q87 : F_87 f 61 (nI (hl P)) (nI data) 2 (hq z w c s) = some (.inl (some (.int (nI (ck (sN P (hl P) 2 data))))), hq z w c s) := t87 (at_ := hl P) (sk := 2) (N := 4100) k61 (by omega) (by omega) (by omega) hP.1 (fun i _ h _ _ => hP.2 i (by omega)) (by omega)
    have q89 : F_89 f 61 (nI (hl P + 2)) (hq z w c s) = some (.inl (some (.int (nI (n2 P (hl P + 2))))), hq z w c s) := n89 kq_61 hP hM (by omega) (by omega)
    have l1 := ck_lt (sN P (hl P) 2 data)
    have l2 := n2_lt hP.1 (hl P + 2)
    have h6 : ¬ ck (sN P (hl P) 2 data) = n2 P (hl P + 2) := fun h => h4 ⟨h8, h5, h⟩
    have h6' : ¬ nI (ck (sN P (hl P) 2 data)) = nI (n2 P (hl P + 2)) := fun h => h6 ((nI_eq (by omega) (by omega)).mp h)
    simp only [F_109, B_109_74, B_109_75, B_109_87, B_109_99, i0, i9, c0, c9, v0, v9, e15, hm4, h3', h12, y4, h8', ih, ch, vh, h5', q87, nI_k2, q89, h6', dg_1, db_1, db_0, dl_1, dp_1, dv_1, dv_x, di_1, di_x, dw_1, ec_eq, ec_ne, ec_lt, ec_ge, ec_gt, ec_le, hq_z, hq_wz, hq_wc, hq_thr, hq_p29, hq_pw, eq_self, decide_true, decide_false, not_true_eq_false, not_false_eq_true, kq_0, kq_1, kq_2, kq_3, kq_4, kq_5, kq_6, kq_7, kq_8, kq_9, kq_10, kq_11, kq_12, kq_13, kq_14, kq_15, kq_16, kq_17, kq_18, kq_19, kq_20, kq_21, kq_22, kq_23, kq_24, kq_25, kq_26, kq_27, kq_28, kq_29, kq_30, kq_31, kq_32, kq_33, kq_34, kq_35, kq_36, kq_37, kq_38, kq_39, kq_40, kq_41, kq_42, kq_43, kq_44, kq_45, kq_46, kq_47, kq_48, kq_49, kq_50, kq_51, kq_52, kq_53, kq_54, kq_55, kq_56, kq_57, kq_58, kq_59, kq_60, kq_61, kq_62, kq_63, kq_64, kq_65, kq_66, kq_67, kq_68, kq_69, kq_70, kq_71, kq_72, kq_73, kq_74, kq_75, kq_76, kq_77, kq_78, kq_79, kq_80, kq_81, pq_0_0, pq_0_1, pq_0_2, pq_0_3, pq_0_4, pq_0_5, pq_0_6, pq_0_7, pq_1_0, pq_1_1, pq_1_2, pq_1_3, pq_1_4, pq_1_5, pq_1_6, pq_1_7, pq_10_0, pq_10_1, pq_10_2, pq_10_3, pq_15_0, pq_17_0, pq_19_0, pq_21_0, pq_21_1, pq_21_2, pq_21_3, pq_21_4, pq_21_5, pq_28_0, pq_30_0, pq_30_1, pq_30_2, pq_31_0, pq_35_0, pq_35_1, pq_35_2, pq_36_0, pq_40_0, pq_40_1, pq_40_2, pq_41_0, pq_45_0, pq_45_1, pq_45_2, pq_46_0, pq_50_0, pq_52_0, pq_52_1, pq_52_2, pq_52_3, pq_52_4, pq_52_5, pq_52_6, pq_52_8, pq_52_10, pq_52_11, pq_52_14, pq_52_15, pq_52_16, pq_52_17, pq_52_18, pq_52_27, pq_52_29, pq_52_30, pq_52_31, pq_52_32, pq_52_33, pq_52_34, pq_52_35, pq_52_36, pq_52_37, pq_52_38, pq_52_39, pq_52_40, pq_52_41, aq_1, aq_11, aq_12, aq_13, aq_14, aq_16, aq_18, aq_20, aq_22, aq_23, aq_24, aq_25, aq_26, aq_27, aq_29, aq_32, aq_33, aq_34, aq_37, aq_38, aq_39, aq_42, aq_43, aq_44, aq_47, aq_48, aq_49, aq_51, aq_53, aq_54, aq_55, aq_56, aq_57, aq_58, aq_59, aq_60, aq_61, aq_62, aq_63, aq_64, aq_65, aq_66, aq_67, aq_68, aq_69, aq_70, aq_71, aq_72, aq_73, aq_74, aq_75, aq_76, aq_77, aq_78, aq_79, aq_80, aq_81]
end Own71
