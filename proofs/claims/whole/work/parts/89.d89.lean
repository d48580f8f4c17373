-- pass: both sides
section Pass89
variable {S T : St9} {z z' : Nat → Nat → Int32} {w : Nat → Option Nat} {f c s n p t r : Nat} {P : Nat → Nat} {E : Nat → Int32}
abbrev odS (S : St9) (t : Nat) : Prop := 0 < cn S 10 ∧ (S 15 4).toNatClampNeg + 30 ≤ t
def exS (S : St9) : St9 := rmS (if S 15 7 = 1 then erS S (S 15 8).toNatClampNeg (fq (S 15)) 8 11 1 0 else S) 0
def exF : Nat → St9 → Nat → St9
  | 0, S, _ => S
  | g + 1, S, t => if odS S t then exF g (exS S) t else S
def tmS (S : St9) (t : Nat) : St9 := va_up S 3 (upd (upd (S 3) 5 (nI (t + 1))) 3 (if (t + 1) % 10 = 0 ∧ cn S 3 < 6 then nI (cn S 3 + 1) else S 3 3))
def psF : Nat → St9 → Nat → St9
  | 0, S, _ => S
  | g + 1, S, t => psF g (exF 4 (tmS S t) (t + 1)) (t + 1)
-- what holds in between
def PI (S : St9) (t r : Nat) : Prop := wE S ∧ wX S ∧ S 3 10 = nI (cn S 10) ∧ S 3 5 = nI t ∧ cn S 4 + cn S 10 ≤ r ∧ cn S 2 + cn S 10 ≤ 4 ∧ cn S 11 + 96 * cn S 10 ≤ 400 ∧ wfn S 9 4000
-- what stays: ports' and routes' rows, the tape, what was delivered
def pvS (S T : St9) : Prop := (∀ k, k ≠ 3 → k < 9 → T k = S k) ∧ T 14 = S 14 ∧ T 3 0 = S 3 0 ∧ T 3 1 = S 3 1 ∧ ∀ k, 6 ≤ k → k ≤ 9 → T 3 k = S 3 k
theorem pv_0 : pvS S S := ⟨fun _ _ _ => rfl, rfl, rfl, rfl, fun _ _ _ => rfl⟩
theorem pv_t {U : St9} (h : pvS S T) (h2 : pvS T U) : pvS S U := ⟨fun k h3 hk => (h2.1 k h3 hk).trans (h.1 k h3 hk), h2.2.1.trans h.2.1, h2.2.2.1.trans h.2.2.1, h2.2.2.2.1.trans h.2.2.2.1, fun k h6 h9 => (h2.2.2.2.2 k h6 h9).trans (h.2.2.2.2 k h6 h9)⟩
theorem pv_rm {e : Nat} : pvS S (rmS S e) := ⟨fun k h3 hk => rmS_k h3 (by omega), rmS_k (by omega) (by omega), rmS_3 (by omega), rmS_3 (by omega), fun k h6 h9 => rmS_3 (by omega)⟩
theorem wE_rm {e : Nat} (h : wE S) : wE (rmS S e) := wE_of h (rmS_b).1 (fun k hk => (rmS_b).2 k (by omega))
theorem ex_mid (hI : PI S t r) (hr : r ≤ 3000) (hpos : 0 < cn S 10) : (S 15 7 = 1 → ∃ p, p < 8 ∧ S 15 8 = nI p ∧ (S 15 8).toNatClampNeg = p ∧ 20 ≤ hl (fq (S 15)) ∧ hl (fq (S 15)) + 8 ≤ n2 (fq (S 15)) 2 ∧ ∀ i, i < hl (fq (S 15)) + 8 → S 15 (100 + i) = nI (fq (S 15) i)) ∧ ∀ U, (U = if S 15 7 = 1 then erS S (S 15 8).toNatClampNeg (fq (S 15)) 8 11 1 0 else S) → (wE U ∧ lvS S U ∧ wfn U 9 4000 ∧ cn U 4 ≤ cn S 4 + 1 ∧ cn U 2 ≤ cn S 2 + 1 ∧ cn U 11 ≤ cn S 11 + 96 ∧ U 14 = S 14 ∧ ∀ k, 6 ≤ k → k ≤ 9 → U 3 k = S 3 k) := by
  obtain ⟨I1, I2, I3, I4, I5, I6, I7, I8⟩ := hI
  have hE := I2.2 0 hpos
  have h1 : S 15 7 = 1 → ∃ p, p < 8 ∧ S 15 8 = nI p ∧ (S 15 8).toNatClampNeg = p ∧ 20 ≤ hl (fq (S 15)) ∧ hl (fq (S 15)) + 8 ≤ n2 (fq (S 15)) 2 ∧ ∀ i, i < hl (fq (S 15)) + 8 → S 15 (100 + i) = nI (fq (S 15) i) := fun h7 => by
    obtain ⟨⟨p, hp, h8⟩, v1, v2, v3⟩ := hE.2.2.2.2.2.2.2.2.2.1 h7
    exact ⟨p, hp, h8, by rw [h8, nI_clamp (by omega)], v1, v2, v3⟩
  refine ⟨h1, fun U hU => ?_⟩
  by_cases h7 : S 15 7 = 1
  · rw [if_pos h7] at hU
    obtain ⟨p, hp, h8, hc8, v1, v2, v3⟩ := h1 h7
    rw [hc8] at hU
    subst hU
    have hk := erS_k (S := S) (p := p) (P := fq (S 15)) (q := 8) (ty := 11) (co := 1) (re := 0) I1 hp (by omega) (by omega) (by omega)
    have tw := tW_er (P := fq (S 15)) (q := 8) (ty := 11) (co := 1) (re := 0) I1 I8 hp (by omega) (by omega) (by omega)
    refine ⟨⟨?_, tw.1, ⟨tw.2.1.1, by have := tw.2.1.2; omega⟩, tw.2.2.2⟩, lv_er I1 hp (by omega) (by omega) (by omega), tw.2.2.1, tw.2.1.2, hk.2.2.2.2.2.1, hk.2.2.2.2.2.2, hk.1 14 (by omega) (by omega), fun k h6 h9 => hk.2.1 k (by omega) (by omega) (by omega) (by omega)⟩
    rw [hk.1 1 (by omega) (by omega), hk.1 2 (by omega) (by omega)]; exact I1.1
  · rw [if_neg h7] at hU
    subst hU
    exact ⟨I1, ⟨fun _ _ _ => rfl, fun _ _ => rfl, rfl, rfl, rfl, rfl⟩, I8, by omega, by omega, by omega, rfl, fun _ _ _ => rfl⟩
theorem ex_PI (hI : PI S t r) (hr : r ≤ 3000) (hpos : 0 < cn S 10) : PI (exS S) t r ∧ pvS S (exS S) ∧ cn (exS S) 10 = cn S 10 - 1 := by
  have hm := (ex_mid hI hr hpos).2 _ rfl
  unfold exS
  generalize (if S 15 7 = 1 then erS S (S 15 8).toNatClampNeg (fq (S 15)) 8 11 1 0 else S) = U at hm ⊢
  obtain ⟨I1, I2, I3, I4, I5, I6, I7, I8⟩ := hI
  obtain ⟨U1, ⟨L1, L2, L3, L4, L5, L6⟩, U3, U4, U5, U6, U7, U8⟩ := hm
  have c10 : cn U 10 = cn S 10 := cn_of L6
  have hX : wX U := wX_of I2 L6 L2
  have cr : ∀ k, k ≠ 10 → cn (rmS U 0) k = cn U k := fun k hk => cn_of (rmS_3 hk)
  have c10' : cn (rmS U 0) 10 = cn S 10 - 1 := by rw [rmS_c hX.1, c10]
  refine ⟨⟨wE_rm U1, wX_rm hX, by rw [rmS_c hX.1, rmS_10], by rw [rmS_3 (by omega), L5]; exact I4, ?_, ?_, ?_, wfn_of U3 (rmS_3 (by omega))⟩, ⟨fun k h3 hk => by rw [rmS_k h3 (by omega), L1 k h3 hk], by rw [rmS_k (by omega) (by omega)]; exact U7, by rw [rmS_3 (by omega)]; exact L3, by rw [rmS_3 (by omega)]; exact L4, fun k h6 h9 => by rw [rmS_3 (by omega)]; exact U8 k h6 h9⟩, c10'⟩
  · rw [cr 4 (by omega), c10']; omega
  · rw [cr 2 (by omega), c10']; omega
  · rw [cr 11 (by omega), c10']; omega
theorem exF_PI (hr : r ≤ 3000) : ∀ (g : Nat) (S : St9), PI S t r → PI (exF g S t) t r ∧ pvS S (exF g S t) := by
  intro g
  induction g with
  | zero => intro S hI; exact ⟨hI, pv_0⟩
  | succ g ih =>
    intro S hI
    unfold exF
    by_cases h : odS S t
    · rw [if_pos h]
      obtain ⟨k1, k2, -⟩ := ex_PI hI hr h.1
      have := ih _ k1
      exact ⟨this.1, pv_t k2 this.2⟩
    · rw [if_neg h]; exact ⟨hI, pv_0⟩
-- overdue
theorem sub_30 {x : Nat} (ht : t ≤ 100000) (hx : x ≤ 100000) : nI t - nI x < 30 ↔ t < x + 30 := by
  rw [Int32.lt_iff_toInt_lt, Int32.toInt_sub, nI_toInt (by omega), nI_toInt (by omega), show (30 : Int32).toInt = 30 from rfl, Int.bmod_eq_of_le (by omega) (by omega)]
  omega
theorem n41 (hC : wC S z w) (hX : wX S) (ht : t ≤ 60000) : F_41 f 28 (nI t) (hq z w c s) = some (.inl (some (.int (if odS S t then 1 else 0))), hq z w c s) := by
  obtain ⟨⟨⟨pp, hpp, hinj⟩, hE⟩, C2, -, -⟩ := hC
  obtain ⟨X1, X2⟩ := hX
  have d0 : dzb 0 = true := rfl
  have d1 : dzb 1 = true := rfl
  by_cases h0 : cn S 10 = 0
  · have h0' : nI (cn S 10) ≤ 0 := by rw [h0]; decide
    rw [if_neg (fun h => by have := h.1; omega)]
    simp only [F_41, B_41_27, B_41_28, C2, h0', d0, dg_1, db_1, db_0, dl_1, dp_1, dv_1, dv_x, di_1, di_x, dw_1, ec_eq, ec_ne, ec_lt, ec_ge, ec_gt, ec_le, hq_z, hq_wz, hq_wc, hq_thr, hq_p29, hq_pw, eq_self, decide_true, decide_false, not_true_eq_false, not_false_eq_true, kq_0, kq_1, kq_2, kq_3, kq_4, kq_5, kq_6, kq_7, kq_8, kq_9, kq_10, kq_11, kq_12, kq_13, kq_14, kq_15, kq_16, kq_17, kq_18, kq_19, kq_20, kq_21, kq_22, kq_23, kq_24, kq_25, kq_26, kq_27, kq_28, kq_29, kq_30, kq_31, kq_32, kq_33, kq_34, kq_35, kq_36, kq_37, kq_38, kq_39, kq_40, kq_41, kq_42, kq_43, kq_44, kq_45, kq_46, kq_47, kq_48, kq_49, kq_50, kq_51, kq_52, kq_53, kq_54, kq_55, kq_56, kq_57, kq_58, kq_59, kq_60, kq_61, kq_62, kq_63, kq_64, kq_65, kq_66, kq_67, kq_68, kq_69, kq_70, kq_71, kq_72, kq_73, kq_74, kq_75, kq_76, kq_77, kq_78, kq_79, kq_80, kq_81, pq_0_0, pq_0_1, pq_0_2, pq_0_3, pq_0_4, pq_0_5, pq_0_6, pq_0_7, pq_1_0, pq_1_1, pq_1_2, pq_1_3, pq_1_4, pq_1_5, pq_1_6, pq_1_7, pq_10_0, pq_10_1, pq_10_2, pq_10_3, pq_15_0, pq_17_0, pq_19_0, pq_21_0, pq_21_1, pq_21_2, pq_21_3, pq_21_4, pq_21_5, pq_28_0, pq_30_0, pq_30_1, pq_30_2, pq_31_0, pq_35_0, pq_35_1, pq_35_2, pq_36_0, pq_40_0, pq_40_1, pq_40_2, pq_41_0, pq_45_0, pq_45_1, pq_45_2, pq_46_0, pq_50_0, pq_52_0, pq_52_1, pq_52_2, pq_52_3, pq_52_4, pq_52_5, pq_52_6, pq_52_8, pq_52_10, pq_52_11, pq_52_14, pq_52_15, pq_52_16, pq_52_17, pq_52_18, pq_52_27, pq_52_29, pq_52_30, pq_52_31, pq_52_32, pq_52_33, pq_52_34, pq_52_35, pq_52_36, pq_52_37, pq_52_38, pq_52_39, pq_52_40, pq_52_41, aq_1, aq_11, aq_12, aq_13, aq_14, aq_16, aq_18, aq_20, aq_22, aq_23, aq_24, aq_25, aq_26, aq_27, aq_29, aq_32, aq_33, aq_34, aq_37, aq_38, aq_39, aq_42, aq_43, aq_44, aq_47, aq_48, aq_49, aq_51, aq_53, aq_54, aq_55, aq_56, aq_57, aq_58, aq_59, aq_60, aq_61, aq_62, aq_63, aq_64, aq_65, aq_66, aq_67, aq_68, aq_69, aq_70, aq_71, aq_72, aq_73, aq_74, aq_75, aq_76, aq_77, aq_78, aq_79, aq_80, aq_81]
  have h0' : ¬ nI (cn S 10) ≤ 0 := nI_nle (by omega) (by omega)
  obtain ⟨p1, p2⟩ := hpp 0 (by omega)
  have hc9 := (hE 0 _ (by omega) (by omega) p2).1.2.2.2.2.1
  obtain ⟨x, hx, ex⟩ := (X2 0 (by omega)).2.2.1
  rw [show S (15 + 0) 4 = nI x from ex] at hc9
  have hx4 : (S 15 4).toNatClampNeg = x := by rw [show S 15 4 = nI x from ex, nI_clamp (by omega)]
  have kk := (wk (z := z) (w := w) (c := c) (s := s) p1).1
  have i0 : ev_in 0 4 = true := by decide
  have c0 : Int32.toNatClampNeg 0 = 0 := rfl
  have hs := sub_30 (t := t) (x := x) (by omega) (by omega)
  by_cases h1 : x + 30 ≤ t
  · rw [if_pos ⟨by omega, by rw [hx4]; exact h1⟩]
    have h1' : ¬ nI t - nI x < 30 := fun h => by have := hs.mp h; omega
    simp only [F_41, B_41_27, B_41_28, C2, h0', i0, c0, p2, kk, hc9, h1', d1, dg_1, db_1, db_0, dl_1, dp_1, dv_1, dv_x, di_1, di_x, dw_1, ec_eq, ec_ne, ec_lt, ec_ge, ec_gt, ec_le, hq_z, hq_wz, hq_wc, hq_thr, hq_p29, hq_pw, eq_self, decide_true, decide_false, not_true_eq_false, not_false_eq_true, kq_0, kq_1, kq_2, kq_3, kq_4, kq_5, kq_6, kq_7, kq_8, kq_9, kq_10, kq_11, kq_12, kq_13, kq_14, kq_15, kq_16, kq_17, kq_18, kq_19, kq_20, kq_21, kq_22, kq_23, kq_24, kq_25, kq_26, kq_27, kq_28, kq_29, kq_30, kq_31, kq_32, kq_33, kq_34, kq_35, kq_36, kq_37, kq_38, kq_39, kq_40, kq_41, kq_42, kq_43, kq_44, kq_45, kq_46, kq_47, kq_48, kq_49, kq_50, kq_51, kq_52, kq_53, kq_54, kq_55, kq_56, kq_57, kq_58, kq_59, kq_60, kq_61, kq_62, kq_63, kq_64, kq_65, kq_66, kq_67, kq_68, kq_69, kq_70, kq_71, kq_72, kq_73, kq_74, kq_75, kq_76, kq_77, kq_78, kq_79, kq_80, kq_81, pq_0_0, pq_0_1, pq_0_2, pq_0_3, pq_0_4, pq_0_5, pq_0_6, pq_0_7, pq_1_0, pq_1_1, pq_1_2, pq_1_3, pq_1_4, pq_1_5, pq_1_6, pq_1_7, pq_10_0, pq_10_1, pq_10_2, pq_10_3, pq_15_0, pq_17_0, pq_19_0, pq_21_0, pq_21_1, pq_21_2, pq_21_3, pq_21_4, pq_21_5, pq_28_0, pq_30_0, pq_30_1, pq_30_2, pq_31_0, pq_35_0, pq_35_1, pq_35_2, pq_36_0, pq_40_0, pq_40_1, pq_40_2, pq_41_0, pq_45_0, pq_45_1, pq_45_2, pq_46_0, pq_50_0, pq_52_0, pq_52_1, pq_52_2, pq_52_3, pq_52_4, pq_52_5, pq_52_6, pq_52_8, pq_52_10, pq_52_11, pq_52_14, pq_52_15, pq_52_16, pq_52_17, pq_52_18, pq_52_27, pq_52_29, pq_52_30, pq_52_31, pq_52_32, pq_52_33, pq_52_34, pq_52_35, pq_52_36, pq_52_37, pq_52_38, pq_52_39, pq_52_40, pq_52_41, aq_1, aq_11, aq_12, aq_13, aq_14, aq_16, aq_18, aq_20, aq_22, aq_23, aq_24, aq_25, aq_26, aq_27, aq_29, aq_32, aq_33, aq_34, aq_37, aq_38, aq_39, aq_42, aq_43, aq_44, aq_47, aq_48, aq_49, aq_51, aq_53, aq_54, aq_55, aq_56, aq_57, aq_58, aq_59, aq_60, aq_61, aq_62, aq_63, aq_64, aq_65, aq_66, aq_67, aq_68, aq_69, aq_70, aq_71, aq_72, aq_73, aq_74, aq_75, aq_76, aq_77, aq_78, aq_79, aq_80, aq_81]
  · rw [if_neg (fun h => by have := h.2; rw [hx4] at this; omega)]
    have h1' : nI t - nI x < 30 := hs.mpr (by omega)
    simp only [F_41, B_41_27, B_41_28, C2, h0', i0, c0, p2, kk, hc9, h1', d0, dg_1, db_1, db_0, dl_1, dp_1, dv_1, dv_x, di_1, di_x, dw_1, ec_eq, ec_ne, ec_lt, ec_ge, ec_gt, ec_le, hq_z, hq_wz, hq_wc, hq_thr, hq_p29, hq_pw, eq_self, decide_true, decide_false, not_true_eq_false, not_false_eq_true, kq_0, kq_1, kq_2, kq_3, kq_4, kq_5, kq_6, kq_7, kq_8, kq_9, kq_10, kq_11, kq_12, kq_13, kq_14, kq_15, kq_16, kq_17, kq_18, kq_19, kq_20, kq_21, kq_22, kq_23, kq_24, kq_25, kq_26, kq_27, kq_28, kq_29, kq_30, kq_31, kq_32, kq_33, kq_34, kq_35, kq_36, kq_37, kq_38, kq_39, kq_40, kq_41, kq_42, kq_43, kq_44, kq_45, kq_46, kq_47, kq_48, kq_49, kq_50, kq_51, kq_52, kq_53, kq_54, kq_55, kq_56, kq_57, kq_58, kq_59, kq_60, kq_61, kq_62, kq_63, kq_64, kq_65, kq_66, kq_67, kq_68, kq_69, kq_70, kq_71, kq_72, kq_73, kq_74, kq_75, kq_76, kq_77, kq_78, kq_79, kq_80, kq_81, pq_0_0, pq_0_1, pq_0_2, pq_0_3, pq_0_4, pq_0_5, pq_0_6, pq_0_7, pq_1_0, pq_1_1, pq_1_2, pq_1_3, pq_1_4, pq_1_5, pq_1_6, pq_1_7, pq_10_0, pq_10_1, pq_10_2, pq_10_3, pq_15_0, pq_17_0, pq_19_0, pq_21_0, pq_21_1, pq_21_2, pq_21_3, pq_21_4, pq_21_5, pq_28_0, pq_30_0, pq_30_1, pq_30_2, pq_31_0, pq_35_0, pq_35_1, pq_35_2, pq_36_0, pq_40_0, pq_40_1, pq_40_2, pq_41_0, pq_45_0, pq_45_1, pq_45_2, pq_46_0, pq_50_0, pq_52_0, pq_52_1, pq_52_2, pq_52_3, pq_52_4, pq_52_5, pq_52_6, pq_52_8, pq_52_10, pq_52_11, pq_52_14, pq_52_15, pq_52_16, pq_52_17, pq_52_18, pq_52_27, pq_52_29, pq_52_30, pq_52_31, pq_52_32, pq_52_33, pq_52_34, pq_52_35, pq_52_36, pq_52_37, pq_52_38, pq_52_39, pq_52_40, pq_52_41, aq_1, aq_11, aq_12, aq_13, aq_14, aq_16, aq_18, aq_20, aq_22, aq_23, aq_24, aq_25, aq_26, aq_27, aq_29, aq_32, aq_33, aq_34, aq_37, aq_38, aq_39, aq_42, aq_43, aq_44, aq_47, aq_48, aq_49, aq_51, aq_53, aq_54, aq_55, aq_56, aq_57, aq_58, aq_59, aq_60, aq_61, aq_62, aq_63, aq_64, aq_65, aq_66, aq_67, aq_68, aq_69, aq_70, aq_71, aq_72, aq_73, aq_74, aq_75, aq_76, aq_77, aq_78, aq_79, aq_80, aq_81]
theorem n_ex {C : Nat → Int32 → hp_T → Option ev_O} {i : Int32} (hK : kC S z w) (hI : PI S t r) (hr : r ≤ 3000) (ht : t ≤ 60000) (hod : odS S t) (hi : ¬ (4 : Int32) ≤ i) (hf : 30000 < f) : ∃ z' w', (∀ (g : Nat), B_72_41 f g = C → B_72_41 f (g + 1) 0 i (hq z w c s) = C 0 (i + 1) (hq z' w' c s)) ∧ kC (exS S) z' w' ∧ (∀ a, 51 < a → z' a = z a) ∧ z' 15 = z 15 ∧ z' 16 = z 16 := by
  have hm := ex_mid hI hr hod.1
  obtain ⟨K1, K2, K3, K4, K5, K6⟩ := id hK
  obtain ⟨I1, I2, I3, I4, I5, I6, I7, I8⟩ := id hI
  have q41 := n41 (f := f) (c := c) (s := s) (t := t) K3 I2 ht
  rw [if_pos hod] at q41
  obtain ⟨⟨⟨pp, hpp, hinj⟩, hE⟩, C2, C3, C4⟩ := id K3
  obtain ⟨p1, p2⟩ := hpp 0 (by omega)
  have hCe := hE 0 _ hod.1 (by omega) p2
  have c3' : z (30 + 5 * pp 0) 3 = S 15 7 := hCe.1.2.2.2.2.2.2.2.1
  have kk : ∀ z, hp_k (hq z w c s) (30 + 5 * pp 0) = some (5, 0) := fun z => (wk p1).1
  have i0 : ev_in 0 4 = true := by decide
  have c0 : Int32.toNatClampNeg 0 = 0 := rfl
  have h10 : z 0 10 = nI t := K5.trans I4
  have hmid : ∃ z1, (∀ (g : Nat), B_72_41 f g = C → B_72_41 f (g + 1) 0 i (hq z w c s) = B_72_93 f C 0 i (hq z1 w c s)) ∧ kC (if S 15 7 = 1 then erS S (S 15 8).toNatClampNeg (fq (S 15)) 8 11 1 0 else S) z1 w ∧ (∀ a, 51 < a → z1 a = z a) ∧ z1 15 = z 15 ∧ z1 16 = z 16 := by
    by_cases h7 : S 15 7 = 1
    · rw [if_pos h7]
      obtain ⟨p, hp, h8, hc8, v1, v2, v3⟩ := hm.1 h7
      have hl6 := hl_le (fq (S 15))
      have hF := hCe.2.1 h7
      have g4 : z (30 + 5 * pp 0) 4 = nI p := by rw [hF.1]; exact h8
      have hcb : cb z (32 + 5 * pp 0) (hl (fq (S 15)) + 8) (fq (S 15)) := ⟨fq_lt _, fun j hj => by
        have := hF.2 j hj
        rw [show 30 + 5 * pp 0 + 2 = 32 + 5 * pp 0 by omega] at this
        rw [this]; exact v3 j hj⟩
      rw [hc8]
      obtain ⟨z1, k1, k2, k3, k4⟩ := n69 (f := f) (w := w) (c := c) (s := s) (q := 8) (ty := 11) (co := 1) (re := 0) K1 I1 hp (pk_f p1) hcb (C3 _ p1).1 (by omega) (by omega) (by omega) v1 (by omega) (by rw [if_neg (by omega)]) (by omega) (by omega) (by omega) (by omega) (by omega) (by omega) (by omega)
      have k1' : F_69 f 0 (31 + 5 * pp 0) (nI p) 11 1 0 (hq z w c s) = some (.inl none, hq z1 w c s) := k1
      have hk := erS_k (S := S) (p := p) (P := fq (S 15)) (q := 8) (ty := 11) (co := 1) (re := 0) I1 hp (by omega) (by omega) (by omega)
      obtain ⟨L1, L2, L3, L4, L5, L6⟩ := lv_er (S := S) (p := p) (P := fq (S 15)) (q := 8) (ty := 11) (co := 1) (re := 0) I1 hp (by omega) (by omega) (by omega)
      refine ⟨z1, fun g hg => ?_, ⟨k2, dC_of K2 (fun k h1 h2 => hk.2.1 k (by omega) (by omega) (by omega) (by omega)) (hk.1 14 (by omega) (by omega)) (k3 50 (by omega) (by omega)) (k3 51 (by omega) (by omega)), wC_of K3 L6 L2 (fun a ha => k3 a (by omega) (by omega)), rtC_of K4 L3 (fun k h1 h2 => L1 k (by omega) (by omega)) (fun a h1 h2 => k3 a (by omega) (by omega)), by rw [k4 10 (by omega) (by omega), L5]; exact K5, by rw [k3 16 (by omega) (by omega)]; exact K6⟩, fun a ha => k3 a (by omega) (by omega), k3 15 (by omega) (by omega), k3 16 (by omega) (by omega)⟩
      rw [h7] at c3'
      simp only [B_72_41, hg, hi, h10, q41, show ¬ (1 : Int32) = 0 by decide, i0, c0, p2, kk, c3', (wk p1).2.1, g4, k1', dg_1, db_1, db_0, dl_1, dp_1, dv_1, dv_x, di_1, di_x, dw_1, ec_eq, ec_ne, ec_lt, ec_ge, ec_gt, ec_le, hq_z, hq_wz, hq_wc, hq_thr, hq_p29, hq_pw, eq_self, decide_true, decide_false, not_true_eq_false, not_false_eq_true, kq_0, kq_1, kq_2, kq_3, kq_4, kq_5, kq_6, kq_7, kq_8, kq_9, kq_10, kq_11, kq_12, kq_13, kq_14, kq_15, kq_16, kq_17, kq_18, kq_19, kq_20, kq_21, kq_22, kq_23, kq_24, kq_25, kq_26, kq_27, kq_28, kq_29, kq_30, kq_31, kq_32, kq_33, kq_34, kq_35, kq_36, kq_37, kq_38, kq_39, kq_40, kq_41, kq_42, kq_43, kq_44, kq_45, kq_46, kq_47, kq_48, kq_49, kq_50, kq_51, kq_52, kq_53, kq_54, kq_55, kq_56, kq_57, kq_58, kq_59, kq_60, kq_61, kq_62, kq_63, kq_64, kq_65, kq_66, kq_67, kq_68, kq_69, kq_70, kq_71, kq_72, kq_73, kq_74, kq_75, kq_76, kq_77, kq_78, kq_79, kq_80, kq_81, pq_0_0, pq_0_1, pq_0_2, pq_0_3, pq_0_4, pq_0_5, pq_0_6, pq_0_7, pq_1_0, pq_1_1, pq_1_2, pq_1_3, pq_1_4, pq_1_5, pq_1_6, pq_1_7, pq_10_0, pq_10_1, pq_10_2, pq_10_3, pq_15_0, pq_17_0, pq_19_0, pq_21_0, pq_21_1, pq_21_2, pq_21_3, pq_21_4, pq_21_5, pq_28_0, pq_30_0, pq_30_1, pq_30_2, pq_31_0, pq_35_0, pq_35_1, pq_35_2, pq_36_0, pq_40_0, pq_40_1, pq_40_2, pq_41_0, pq_45_0, pq_45_1, pq_45_2, pq_46_0, pq_50_0, pq_52_0, pq_52_1, pq_52_2, pq_52_3, pq_52_4, pq_52_5, pq_52_6, pq_52_8, pq_52_10, pq_52_11, pq_52_14, pq_52_15, pq_52_16, pq_52_17, pq_52_18, pq_52_27, pq_52_29, pq_52_30, pq_52_31, pq_52_32, pq_52_33, pq_52_34, pq_52_35, pq_52_36, pq_52_37, pq_52_38, pq_52_39, pq_52_40, pq_52_41, aq_1, aq_11, aq_12, aq_13, aq_14, aq_16, aq_18, aq_20, aq_22, aq_23, aq_24, aq_25, aq_26, aq_27, aq_29, aq_32, aq_33, aq_34, aq_37, aq_38, aq_39, aq_42, aq_43, aq_44, aq_47, aq_48, aq_49, aq_51, aq_53, aq_54, aq_55, aq_56, aq_57, aq_58, aq_59, aq_60, aq_61, aq_62, aq_63, aq_64, aq_65, aq_66, aq_67, aq_68, aq_69, aq_70, aq_71, aq_72, aq_73, aq_74, aq_75, aq_76, aq_77, aq_78, aq_79, aq_80, aq_81]
    · rw [if_neg h7]
      have h70 : S 15 7 = 0 := ((I2.2 0 hod.1).2.2.2.2.2.1).resolve_right h7
      rw [h70] at c3'
      refine ⟨z, fun g hg => ?_, hK, fun _ _ => rfl, rfl, rfl⟩
      simp only [B_72_41, hg, hi, h10, q41, show ¬ (1 : Int32) = 0 by decide, i0, c0, p2, kk, c3', dg_1, db_1, db_0, dl_1, dp_1, dv_1, dv_x, di_1, di_x, dw_1, ec_eq, ec_ne, ec_lt, ec_ge, ec_gt, ec_le, hq_z, hq_wz, hq_wc, hq_thr, hq_p29, hq_pw, eq_self, decide_true, decide_false, not_true_eq_false, not_false_eq_true, kq_0, kq_1, kq_2, kq_3, kq_4, kq_5, kq_6, kq_7, kq_8, kq_9, kq_10, kq_11, kq_12, kq_13, kq_14, kq_15, kq_16, kq_17, kq_18, kq_19, kq_20, kq_21, kq_22, kq_23, kq_24, kq_25, kq_26, kq_27, kq_28, kq_29, kq_30, kq_31, kq_32, kq_33, kq_34, kq_35, kq_36, kq_37, kq_38, kq_39, kq_40, kq_41, kq_42, kq_43, kq_44, kq_45, kq_46, kq_47, kq_48, kq_49, kq_50, kq_51, kq_52, kq_53, kq_54, kq_55, kq_56, kq_57, kq_58, kq_59, kq_60, kq_61, kq_62, kq_63, kq_64, kq_65, kq_66, kq_67, kq_68, kq_69, kq_70, kq_71, kq_72, kq_73, kq_74, kq_75, kq_76, kq_77, kq_78, kq_79, kq_80, kq_81, pq_0_0, pq_0_1, pq_0_2, pq_0_3, pq_0_4, pq_0_5, pq_0_6, pq_0_7, pq_1_0, pq_1_1, pq_1_2, pq_1_3, pq_1_4, pq_1_5, pq_1_6, pq_1_7, pq_10_0, pq_10_1, pq_10_2, pq_10_3, pq_15_0, pq_17_0, pq_19_0, pq_21_0, pq_21_1, pq_21_2, pq_21_3, pq_21_4, pq_21_5, pq_28_0, pq_30_0, pq_30_1, pq_30_2, pq_31_0, pq_35_0, pq_35_1, pq_35_2, pq_36_0, pq_40_0, pq_40_1, pq_40_2, pq_41_0, pq_45_0, pq_45_1, pq_45_2, pq_46_0, pq_50_0, pq_52_0, pq_52_1, pq_52_2, pq_52_3, pq_52_4, pq_52_5, pq_52_6, pq_52_8, pq_52_10, pq_52_11, pq_52_14, pq_52_15, pq_52_16, pq_52_17, pq_52_18, pq_52_27, pq_52_29, pq_52_30, pq_52_31, pq_52_32, pq_52_33, pq_52_34, pq_52_35, pq_52_36, pq_52_37, pq_52_38, pq_52_39, pq_52_40, pq_52_41, aq_1, aq_11, aq_12, aq_13, aq_14, aq_16, aq_18, aq_20, aq_22, aq_23, aq_24, aq_25, aq_26, aq_27, aq_29, aq_32, aq_33, aq_34, aq_37, aq_38, aq_39, aq_42, aq_43, aq_44, aq_47, aq_48, aq_49, aq_51, aq_53, aq_54, aq_55, aq_56, aq_57, aq_58, aq_59, aq_60, aq_61, aq_62, aq_63, aq_64, aq_65, aq_66, aq_67, aq_68, aq_69, aq_70, aq_71, aq_72, aq_73, aq_74, aq_75, aq_76, aq_77, aq_78, aq_79, aq_80, aq_81]
  obtain ⟨z1, s1, hK1, n1, e15, e16⟩ := hmid
  have hm2 := hm.2 _ rfl
  unfold exS
  generalize (if S 15 7 = 1 then erS S (S 15 8).toNatClampNeg (fq (S 15)) 8 11 1 0 else S) = U at hm2 hK1 ⊢
  obtain ⟨U1, ⟨L1, L2, L3, L4, L5, L6⟩, U3, U4, U5, U6, U7, U8⟩ := hm2
  obtain ⟨N1, N2, N3, N4, N5, N6⟩ := hK1
  have hXU : wX U := wX_of I2 L6 L2
  obtain ⟨z2, w2', k1, k2, k3⟩ := wC_rm (f := f) (c := c) (s := s) (e := 0) N3 hXU (by rw [cn_of L6]; exact hod.1) (by omega)
  have k1' : F_42 f 28 0 (hq z1 w c s) = some (.inl none, hq z2 w2' c s) := k1
  refine ⟨z2, w2', fun g hg => ?_, ⟨cE_of N1 (rmS_b).1 (fun k hk => (rmS_b).2 k (by omega)) (fun a ha => k3 a (by omega)), dC_of N2 (fun k h1 h2 => rmS_3 (by omega)) (rmS_k (by omega) (by omega)) (k3 50 (by omega)) (k3 51 (by omega)), k2, rtC_of N4 (rmS_3 (by omega)) (fun k h1 h2 => rmS_k (by omega) (by omega)) (fun a h1 h2 => k3 a (by omega)), by rw [k3 0 (by omega), rmS_3 (by omega)]; exact N5, by rw [k3 16 (by omega)]; exact N6⟩, fun a ha => by rw [k3 a (by omega), n1 a ha], by rw [k3 15 (by omega), e15], by rw [k3 16 (by omega), e16]⟩
  rw [s1 g hg]
  simp only [B_72_93, k1', dg_1, db_1, db_0, dl_1, dp_1, dv_1, dv_x, di_1, di_x, dw_1, ec_eq, ec_ne, ec_lt, ec_ge, ec_gt, ec_le, hq_z, hq_wz, hq_wc, hq_thr, hq_p29, hq_pw, eq_self, decide_true, decide_false, not_true_eq_false, not_false_eq_true, kq_0, kq_1, kq_2, kq_3, kq_4, kq_5, kq_6, kq_7, kq_8, kq_9, kq_10, kq_11, kq_12, kq_13, kq_14, kq_15, kq_16, kq_17, kq_18, kq_19, kq_20, kq_21, kq_22, kq_23, kq_24, kq_25, kq_26, kq_27, kq_28, kq_29, kq_30, kq_31, kq_32, kq_33, kq_34, kq_35, kq_36, kq_37, kq_38, kq_39, kq_40, kq_41, kq_42, kq_43, kq_44, kq_45, kq_46, kq_47, kq_48, kq_49, kq_50, kq_51, kq_52, kq_53, kq_54, kq_55, kq_56, kq_57, kq_58, kq_59, kq_60, kq_61, kq_62, kq_63, kq_64, kq_65, kq_66, kq_67, kq_68, kq_69, kq_70, kq_71, kq_72, kq_73, kq_74, kq_75, kq_76, kq_77, kq_78, kq_79, kq_80, kq_81, pq_0_0, pq_0_1, pq_0_2, pq_0_3, pq_0_4, pq_0_5, pq_0_6, pq_0_7, pq_1_0, pq_1_1, pq_1_2, pq_1_3, pq_1_4, pq_1_5, pq_1_6, pq_1_7, pq_10_0, pq_10_1, pq_10_2, pq_10_3, pq_15_0, pq_17_0, pq_19_0, pq_21_0, pq_21_1, pq_21_2, pq_21_3, pq_21_4, pq_21_5, pq_28_0, pq_30_0, pq_30_1, pq_30_2, pq_31_0, pq_35_0, pq_35_1, pq_35_2, pq_36_0, pq_40_0, pq_40_1, pq_40_2, pq_41_0, pq_45_0, pq_45_1, pq_45_2, pq_46_0, pq_50_0, pq_52_0, pq_52_1, pq_52_2, pq_52_3, pq_52_4, pq_52_5, pq_52_6, pq_52_8, pq_52_10, pq_52_11, pq_52_14, pq_52_15, pq_52_16, pq_52_17, pq_52_18, pq_52_27, pq_52_29, pq_52_30, pq_52_31, pq_52_32, pq_52_33, pq_52_34, pq_52_35, pq_52_36, pq_52_37, pq_52_38, pq_52_39, pq_52_40, pq_52_41, aq_1, aq_11, aq_12, aq_13, aq_14, aq_16, aq_18, aq_20, aq_22, aq_23, aq_24, aq_25, aq_26, aq_27, aq_29, aq_32, aq_33, aq_34, aq_37, aq_38, aq_39, aq_42, aq_43, aq_44, aq_47, aq_48, aq_49, aq_51, aq_53, aq_54, aq_55, aq_56, aq_57, aq_58, aq_59, aq_60, aq_61, aq_62, aq_63, aq_64, aq_65, aq_66, aq_67, aq_68, aq_69, aq_70, aq_71, aq_72, aq_73, aq_74, aq_75, aq_76, aq_77, aq_78, aq_79, aq_80, aq_81]
theorem n72_l (hr : r ≤ 3000) (ht : t ≤ 60000) (hf : 30000 < f) : ∀ (g : Nat) (S : St9) (z : Nat → Nat → Int32) (w : Nat → Option Nat) (i gC : Nat), cn S 10 ≤ g → i + cn S 10 ≤ 4 → g < gC → PI S t r → kC S z w → ∃ z' w', B_72_41 f gC 0 (nI i) (hq z w c s) = some (.inl none, hq z' w' c s) ∧ kC (exF g S t) z' w' ∧ (∀ a, 51 < a → z' a = z a) ∧ z' 15 = z 15 ∧ z' 16 = z 16 := by
  intro g
  induction g with
  | zero =>
    intro S z w i gC h1 h2 h3 hI hK
    obtain ⟨gC, rfl⟩ : ∃ g', gC = g' + 1 := ⟨gC - 1, by omega⟩
    have q41 := n41 (f := f) (c := c) (s := s) (t := t) hK.2.2.1 hI.2.1 ht
    rw [if_neg (fun h => by have := h.1; omega)] at q41
    have h10 : z 0 10 = nI t := hK.2.2.2.2.1.trans hI.2.2.2.1
    refine ⟨z, w, ?_, hK, fun _ _ => rfl, rfl, rfl⟩
    by_cases h4 : 4 ≤ i
    · have h4' : (4 : Int32) ≤ nI i := nI_le (a := 4) h4 (by omega)
      simp only [B_72_41, B_72_107, h4', dg_1, db_1, db_0, dl_1, dp_1, dv_1, dv_x, di_1, di_x, dw_1, ec_eq, ec_ne, ec_lt, ec_ge, ec_gt, ec_le, hq_z, hq_wz, hq_wc, hq_thr, hq_p29, hq_pw, eq_self, decide_true, decide_false, not_true_eq_false, not_false_eq_true, kq_0, kq_1, kq_2, kq_3, kq_4, kq_5, kq_6, kq_7, kq_8, kq_9, kq_10, kq_11, kq_12, kq_13, kq_14, kq_15, kq_16, kq_17, kq_18, kq_19, kq_20, kq_21, kq_22, kq_23, kq_24, kq_25, kq_26, kq_27, kq_28, kq_29, kq_30, kq_31, kq_32, kq_33, kq_34, kq_35, kq_36, kq_37, kq_38, kq_39, kq_40, kq_41, kq_42, kq_43, kq_44, kq_45, kq_46, kq_47, kq_48, kq_49, kq_50, kq_51, kq_52, kq_53, kq_54, kq_55, kq_56, kq_57, kq_58, kq_59, kq_60, kq_61, kq_62, kq_63, kq_64, kq_65, kq_66, kq_67, kq_68, kq_69, kq_70, kq_71, kq_72, kq_73, kq_74, kq_75, kq_76, kq_77, kq_78, kq_79, kq_80, kq_81, pq_0_0, pq_0_1, pq_0_2, pq_0_3, pq_0_4, pq_0_5, pq_0_6, pq_0_7, pq_1_0, pq_1_1, pq_1_2, pq_1_3, pq_1_4, pq_1_5, pq_1_6, pq_1_7, pq_10_0, pq_10_1, pq_10_2, pq_10_3, pq_15_0, pq_17_0, pq_19_0, pq_21_0, pq_21_1, pq_21_2, pq_21_3, pq_21_4, pq_21_5, pq_28_0, pq_30_0, pq_30_1, pq_30_2, pq_31_0, pq_35_0, pq_35_1, pq_35_2, pq_36_0, pq_40_0, pq_40_1, pq_40_2, pq_41_0, pq_45_0, pq_45_1, pq_45_2, pq_46_0, pq_50_0, pq_52_0, pq_52_1, pq_52_2, pq_52_3, pq_52_4, pq_52_5, pq_52_6, pq_52_8, pq_52_10, pq_52_11, pq_52_14, pq_52_15, pq_52_16, pq_52_17, pq_52_18, pq_52_27, pq_52_29, pq_52_30, pq_52_31, pq_52_32, pq_52_33, pq_52_34, pq_52_35, pq_52_36, pq_52_37, pq_52_38, pq_52_39, pq_52_40, pq_52_41, aq_1, aq_11, aq_12, aq_13, aq_14, aq_16, aq_18, aq_20, aq_22, aq_23, aq_24, aq_25, aq_26, aq_27, aq_29, aq_32, aq_33, aq_34, aq_37, aq_38, aq_39, aq_42, aq_43, aq_44, aq_47, aq_48, aq_49, aq_51, aq_53, aq_54, aq_55, aq_56, aq_57, aq_58, aq_59, aq_60, aq_61, aq_62, aq_63, aq_64, aq_65, aq_66, aq_67, aq_68, aq_69, aq_70, aq_71, aq_72, aq_73, aq_74, aq_75, aq_76, aq_77, aq_78, aq_79, aq_80, aq_81]
    · have h4' : ¬ (4 : Int32) ≤ nI i := nI_ge (b := 4) (by omega) (by omega)
      simp only [B_72_41, B_72_107, h4', h10, q41, dg_1, db_1, db_0, dl_1, dp_1, dv_1, dv_x, di_1, di_x, dw_1, ec_eq, ec_ne, ec_lt, ec_ge, ec_gt, ec_le, hq_z, hq_wz, hq_wc, hq_thr, hq_p29, hq_pw, eq_self, decide_true, decide_false, not_true_eq_false, not_false_eq_true, kq_0, kq_1, kq_2, kq_3, kq_4, kq_5, kq_6, kq_7, kq_8, kq_9, kq_10, kq_11, kq_12, kq_13, kq_14, kq_15, kq_16, kq_17, kq_18, kq_19, kq_20, kq_21, kq_22, kq_23, kq_24, kq_25, kq_26, kq_27, kq_28, kq_29, kq_30, kq_31, kq_32, kq_33, kq_34, kq_35, kq_36, kq_37, kq_38, kq_39, kq_40, kq_41, kq_42, kq_43, kq_44, kq_45, kq_46, kq_47, kq_48, kq_49, kq_50, kq_51, kq_52, kq_53, kq_54, kq_55, kq_56, kq_57, kq_58, kq_59, kq_60, kq_61, kq_62, kq_63, kq_64, kq_65, kq_66, kq_67, kq_68, kq_69, kq_70, kq_71, kq_72, kq_73, kq_74, kq_75, kq_76, kq_77, kq_78, kq_79, kq_80, kq_81, pq_0_0, pq_0_1, pq_0_2, pq_0_3, pq_0_4, pq_0_5, pq_0_6, pq_0_7, pq_1_0, pq_1_1, pq_1_2, pq_1_3, pq_1_4, pq_1_5, pq_1_6, pq_1_7, pq_10_0, pq_10_1, pq_10_2, pq_10_3, pq_15_0, pq_17_0, pq_19_0, pq_21_0, pq_21_1, pq_21_2, pq_21_3, pq_21_4, pq_21_5, pq_28_0, pq_30_0, pq_30_1, pq_30_2, pq_31_0, pq_35_0, pq_35_1, pq_35_2, pq_36_0, pq_40_0, pq_40_1, pq_40_2, pq_41_0, pq_45_0, pq_45_1, pq_45_2, pq_46_0, pq_50_0, pq_52_0, pq_52_1, pq_52_2, pq_52_3, pq_52_4, pq_52_5, pq_52_6, pq_52_8, pq_52_10, pq_52_11, pq_52_14, pq_52_15, pq_52_16, pq_52_17, pq_52_18, pq_52_27, pq_52_29, pq_52_30, pq_52_31, pq_52_32, pq_52_33, pq_52_34, pq_52_35, pq_52_36, pq_52_37, pq_52_38, pq_52_39, pq_52_40, pq_52_41, aq_1, aq_11, aq_12, aq_13, aq_14, aq_16, aq_18, aq_20, aq_22, aq_23, aq_24, aq_25, aq_26, aq_27, aq_29, aq_32, aq_33, aq_34, aq_37, aq_38, aq_39, aq_42, aq_43, aq_44, aq_47, aq_48, aq_49, aq_51, aq_53, aq_54, aq_55, aq_56, aq_57, aq_58, aq_59, aq_60, aq_61, aq_62, aq_63, aq_64, aq_65, aq_66, aq_67, aq_68, aq_69, aq_70, aq_71, aq_72, aq_73, aq_74, aq_75, aq_76, aq_77, aq_78, aq_79, aq_80, aq_81]
  | succ g ih =>
    intro S z w i gC h1 h2 h3 hI hK
    obtain ⟨gC, rfl⟩ : ∃ g', gC = g' + 1 := ⟨gC - 1, by omega⟩
    unfold exF
    by_cases hod : odS S t
    · rw [if_pos hod]
      have h4' : ¬ (4 : Int32) ≤ nI i := nI_ge (b := 4) (by have := hod.1; omega) (by omega)
      obtain ⟨z1, w1, s1, hK1, n1, e15, e16⟩ := n_ex (f := f) (c := c) (s := s) (C := B_72_41 f gC) (i := nI i) hK hI hr ht hod h4' hf
      obtain ⟨hI1, -, hc1⟩ := ex_PI hI hr hod.1
      obtain ⟨z2, w2', k1, k2, k3, k4, k5⟩ := ih (exS S) z1 w1 (i + 1) gC (by omega) (by have := hod.1; omega) (by omega) hI1 hK1
      refine ⟨z2, w2', ?_, k2, fun a ha => by rw [k3 a ha, n1 a ha], by rw [k4, e15], by rw [k5, e16]⟩
      rw [s1 gC rfl, nI_1]; exact k1
    · rw [if_neg hod]
      have q41 := n41 (f := f) (c := c) (s := s) (t := t) hK.2.2.1 hI.2.1 ht
      rw [if_neg hod] at q41
      have h10 : z 0 10 = nI t := hK.2.2.2.2.1.trans hI.2.2.2.1
      refine ⟨z, w, ?_, hK, fun _ _ => rfl, rfl, rfl⟩
      by_cases h4 : 4 ≤ i
      · have h4' : (4 : Int32) ≤ nI i := nI_le (a := 4) h4 (by omega)
        simp only [B_72_41, B_72_107, h4', dg_1, db_1, db_0, dl_1, dp_1, dv_1, dv_x, di_1, di_x, dw_1, ec_eq, ec_ne, ec_lt, ec_ge, ec_gt, ec_le, hq_z, hq_wz, hq_wc, hq_thr, hq_p29, hq_pw, eq_self, decide_true, decide_false, not_true_eq_false, not_false_eq_true, kq_0, kq_1, kq_2, kq_3, kq_4, kq_5, kq_6, kq_7, kq_8, kq_9, kq_10, kq_11, kq_12, kq_13, kq_14, kq_15, kq_16, kq_17, kq_18, kq_19, kq_20, kq_21, kq_22, kq_23, kq_24, kq_25, kq_26, kq_27, kq_28, kq_29, kq_30, kq_31, kq_32, kq_33, kq_34, kq_35, kq_36, kq_37, kq_38, kq_39, kq_40, kq_41, kq_42, kq_43, kq_44, kq_45, kq_46, kq_47, kq_48, kq_49, kq_50, kq_51, kq_52, kq_53, kq_54, kq_55, kq_56, kq_57, kq_58, kq_59, kq_60, kq_61, kq_62, kq_63, kq_64, kq_65, kq_66, kq_67, kq_68, kq_69, kq_70, kq_71, kq_72, kq_73, kq_74, kq_75, kq_76, kq_77, kq_78, kq_79, kq_80, kq_81, pq_0_0, pq_0_1, pq_0_2, pq_0_3, pq_0_4, pq_0_5, pq_0_6, pq_0_7, pq_1_0, pq_1_1, pq_1_2, pq_1_3, pq_1_4, pq_1_5, pq_1_6, pq_1_7, pq_10_0, pq_10_1, pq_10_2, pq_10_3, pq_15_0, pq_17_0, pq_19_0, pq_21_0, pq_21_1, pq_21_2, pq_21_3, pq_21_4, pq_21_5, pq_28_0, pq_30_0, pq_30_1, pq_30_2, pq_31_0, pq_35_0, pq_35_1, pq_35_2, pq_36_0, pq_40_0, pq_40_1, pq_40_2, pq_41_0, pq_45_0, pq_45_1, pq_45_2, pq_46_0, pq_50_0, pq_52_0, pq_52_1, pq_52_2, pq_52_3, pq_52_4, pq_52_5, pq_52_6, pq_52_8, pq_52_10, pq_52_11, pq_52_14, pq_52_15, pq_52_16, pq_52_17, pq_52_18, pq_52_27, pq_52_29, pq_52_30, pq_52_31, pq_52_32, pq_52_33, pq_52_34, pq_52_35, pq_52_36, pq_52_37, pq_52_38, pq_52_39, pq_52_40, pq_52_41, aq_1, aq_11, aq_12, aq_13, aq_14, aq_16, aq_18, aq_20, aq_22, aq_23, aq_24, aq_25, aq_26, aq_27, aq_29, aq_32, aq_33, aq_34, aq_37, aq_38, aq_39, aq_42, aq_43, aq_44, aq_47, aq_48, aq_49, aq_51, aq_53, aq_54, aq_55, aq_56, aq_57, aq_58, aq_59, aq_60, aq_61, aq_62, aq_63, aq_64, aq_65, aq_66, aq_67, aq_68, aq_69, aq_70, aq_71, aq_72, aq_73, aq_74, aq_75, aq_76, aq_77, aq_78, aq_79, aq_80, aq_81]
      · have h4' : ¬ (4 : Int32) ≤ nI i := nI_ge (b := 4) (by omega) (by omega)
        simp only [B_72_41, B_72_107, h4', h10, q41, dg_1, db_1, db_0, dl_1, dp_1, dv_1, dv_x, di_1, di_x, dw_1, ec_eq, ec_ne, ec_lt, ec_ge, ec_gt, ec_le, hq_z, hq_wz, hq_wc, hq_thr, hq_p29, hq_pw, eq_self, decide_true, decide_false, not_true_eq_false, not_false_eq_true, kq_0, kq_1, kq_2, kq_3, kq_4, kq_5, kq_6, kq_7, kq_8, kq_9, kq_10, kq_11, kq_12, kq_13, kq_14, kq_15, kq_16, kq_17, kq_18, kq_19, kq_20, kq_21, kq_22, kq_23, kq_24, kq_25, kq_26, kq_27, kq_28, kq_29, kq_30, kq_31, kq_32, kq_33, kq_34, kq_35, kq_36, kq_37, kq_38, kq_39, kq_40, kq_41, kq_42, kq_43, kq_44, kq_45, kq_46, kq_47, kq_48, kq_49, kq_50, kq_51, kq_52, kq_53, kq_54, kq_55, kq_56, kq_57, kq_58, kq_59, kq_60, kq_61, kq_62, kq_63, kq_64, kq_65, kq_66, kq_67, kq_68, kq_69, kq_70, kq_71, kq_72, kq_73, kq_74, kq_75, kq_76, kq_77, kq_78, kq_79, kq_80, kq_81, pq_0_0, pq_0_1, pq_0_2, pq_0_3, pq_0_4, pq_0_5, pq_0_6, pq_0_7, pq_1_0, pq_1_1, pq_1_2, pq_1_3, pq_1_4, pq_1_5, pq_1_6, pq_1_7, pq_10_0, pq_10_1, pq_10_2, pq_10_3, pq_15_0, pq_17_0, pq_19_0, pq_21_0, pq_21_1, pq_21_2, pq_21_3, pq_21_4, pq_21_5, pq_28_0, pq_30_0, pq_30_1, pq_30_2, pq_31_0, pq_35_0, pq_35_1, pq_35_2, pq_36_0, pq_40_0, pq_40_1, pq_40_2, pq_41_0, pq_45_0, pq_45_1, pq_45_2, pq_46_0, pq_50_0, pq_52_0, pq_52_1, pq_52_2, pq_52_3, pq_52_4, pq_52_5, pq_52_6, pq_52_8, pq_52_10, pq_52_11, pq_52_14, pq_52_15, pq_52_16, pq_52_17, pq_52_18, pq_52_27, pq_52_29, pq_52_30, pq_52_31, pq_52_32, pq_52_33, pq_52_34, pq_52_35, pq_52_36, pq_52_37, pq_52_38, pq_52_39, pq_52_40, pq_52_41, aq_1, aq_11, aq_12, aq_13, aq_14, aq_16, aq_18, aq_20, aq_22, aq_23, aq_24, aq_25, aq_26, aq_27, aq_29, aq_32, aq_33, aq_34, aq_37, aq_38, aq_39, aq_42, aq_43, aq_44, aq_47, aq_48, aq_49, aq_51, aq_53, aq_54, aq_55, aq_56, aq_57, aq_58, aq_59, aq_60, aq_61, aq_62, aq_63, aq_64, aq_65, aq_66, aq_67, aq_68, aq_69, aq_70, aq_71, aq_72, aq_73, aq_74, aq_75, aq_76, aq_77, aq_78, aq_79, aq_80, aq_81]
-- the time goes on
theorem tm_k {k : Nat} (h : k ≠ 3) : tmS S t k = S k := va_up_ne _ _ h
theorem tm_3 {k : Nat} (h3 : k ≠ 3) (h5 : k ≠ 5) : tmS S t 3 k = S 3 k := by unfold tmS; rw [va_up_self, pk_un h3, pk_un h5]
theorem tm_5 : tmS S t 3 5 = nI (t + 1) := by unfold tmS; rw [va_up_self, pk_un (by omega), pk_us]
theorem tm_33 : tmS S t 3 3 = if (t + 1) % 10 = 0 ∧ cn S 3 < 6 then nI (cn S 3 + 1) else S 3 3 := by unfold tmS; rw [va_up_self, pk_us]
theorem tm_PI (hI : PI S t r) : PI (tmS S t) (t + 1) r ∧ pvS S (tmS S t) := by
  obtain ⟨⟨A1, A2, A3, A4⟩, I2, I3, I4, I5, I6, I7, I8⟩ := hI
  have c3 : ∀ k, k ≠ 3 → k ≠ 5 → cn (tmS S t) k = cn S k := fun k h3 h5 => cn_of (tm_3 h3 h5)
  refine ⟨⟨⟨?_, ?_, wfn_of A3 (tm_3 (by omega) (by omega)), ?_⟩, wX_of I2 (tm_3 (by omega) (by omega)) (fun k hk => tm_k (by omega)), by rw [c3 10 (by omega) (by omega), tm_3 (by omega) (by omega)]; exact I3, tm_5, by rw [c3 4 (by omega) (by omega), c3 10 (by omega) (by omega)]; exact I5, by rw [c3 2 (by omega) (by omega), c3 10 (by omega) (by omega)]; exact I6, by rw [c3 11 (by omega) (by omega), c3 10 (by omega) (by omega)]; exact I7, wfn_of I8 (tm_3 (by omega) (by omega))⟩, fun k h3 hk => tm_k h3, tm_k (by omega), tm_3 (by omega) (by omega), tm_3 (by omega) (by omega), fun k h6 h9 => tm_3 (by omega) (by omega)⟩
  · rw [tm_k (by omega), tm_k (by omega)]; exact A1
  · by_cases h : (t + 1) % 10 = 0 ∧ cn S 3 < 6
    · have e := tm_33 (S := S) (t := t)
      rw [if_pos h] at e
      have : cn (tmS S t) 3 = cn S 3 + 1 := by
        show (tmS S t 3 3).toNatClampNeg = _
        rw [e, nI_clamp (by omega)]
      exact ⟨by rw [this]; exact e, by omega⟩
    · have e := tm_33 (S := S) (t := t)
      rw [if_neg h] at e
      exact wfn_of A2 e
  · unfold ow wfn at *
    rw [c3 2 (by omega) (by omega), c3 11 (by omega) (by omega), tm_3 (k := 2) (by omega) (by omega), tm_3 (k := 11) (by omega) (by omega), tm_k (k := 9) (by omega), tm_k (k := 10) (by omega)]
    exact A4
theorem n72 (hK : kC S z w) (hI : PI S t r) (hr : r ≤ 3000) (ht : t < 60000) (hf : 30000 < f) : ∃ z' w', F_72 f 0 (hq z w c s) = some (.inl none, hq z' w' c s) ∧ kC (exF 4 (tmS S t) (t + 1)) z' w' ∧ (∀ a, 51 < a → z' a = z a) ∧ z' 15 = z 15 ∧ z' 16 = z 16 := by
  obtain ⟨K1, K2, K3, K4, K5, K6⟩ := id hK
  have hI' := hI
  obtain ⟨⟨A1, A2, A3, A4⟩, I2, I3, I4, I5, I6, I7, I8⟩ := hI
  obtain ⟨E1, E2, E3, E4, E5, E6⟩ := id K1
  have h10 : z 0 10 = nI t := K5.trans I4
  have h8 : z 0 8 = nI (cn S 3) := E2.trans A2.1
  have w3 := A2.2
  obtain ⟨z1, e1⟩ : ∃ x, x = va_up z 0 (upd (z 0) 10 (nI (t + 1))) := ⟨_, rfl⟩
  have g10 : z1 0 10 = nI (t + 1) := by rw [e1, va_up_self, pk_us]
  have g8 : z1 0 8 = nI (cn S 3) := by rw [e1, va_up_self, pk_un (by omega)]; exact h8
  obtain ⟨z2, e2⟩ : ∃ x, x = if (t + 1) % 10 = 0 ∧ cn S 3 < 6 then va_up z1 0 (upd (z1 0) 8 (nI (cn S 3 + 1))) else z1 := ⟨_, rfl⟩
  have rm10 := nI_rem10 (a := t + 1) (by omega)
  have s1 : F_72 f 0 (hq z w c s) = B_72_41 f f 0 (nI 0) (hq z2 w c s) := by
    by_cases h : (t + 1) % 10 = 0
    · rw [h, nI_0] at rm10
      by_cases h6 : cn S 3 < 6
      · rw [if_pos ⟨h, h6⟩] at e2
        have h6' : ¬ (6 : Int32) ≤ nI (cn S 3) := nI_ge (b := 6) h6 (by omega)
        simp only [F_72, B_72_39, h10, nI_1, ← e1, g10, rm10, g8, h6', ← e2, dg_1, db_1, db_0, dl_1, dp_1, dv_1, dv_x, di_1, di_x, dw_1, ec_eq, ec_ne, ec_lt, ec_ge, ec_gt, ec_le, hq_z, hq_wz, hq_wc, hq_thr, hq_p29, hq_pw, eq_self, decide_true, decide_false, not_true_eq_false, not_false_eq_true, kq_0, kq_1, kq_2, kq_3, kq_4, kq_5, kq_6, kq_7, kq_8, kq_9, kq_10, kq_11, kq_12, kq_13, kq_14, kq_15, kq_16, kq_17, kq_18, kq_19, kq_20, kq_21, kq_22, kq_23, kq_24, kq_25, kq_26, kq_27, kq_28, kq_29, kq_30, kq_31, kq_32, kq_33, kq_34, kq_35, kq_36, kq_37, kq_38, kq_39, kq_40, kq_41, kq_42, kq_43, kq_44, kq_45, kq_46, kq_47, kq_48, kq_49, kq_50, kq_51, kq_52, kq_53, kq_54, kq_55, kq_56, kq_57, kq_58, kq_59, kq_60, kq_61, kq_62, kq_63, kq_64, kq_65, kq_66, kq_67, kq_68, kq_69, kq_70, kq_71, kq_72, kq_73, kq_74, kq_75, kq_76, kq_77, kq_78, kq_79, kq_80, kq_81, pq_0_0, pq_0_1, pq_0_2, pq_0_3, pq_0_4, pq_0_5, pq_0_6, pq_0_7, pq_1_0, pq_1_1, pq_1_2, pq_1_3, pq_1_4, pq_1_5, pq_1_6, pq_1_7, pq_10_0, pq_10_1, pq_10_2, pq_10_3, pq_15_0, pq_17_0, pq_19_0, pq_21_0, pq_21_1, pq_21_2, pq_21_3, pq_21_4, pq_21_5, pq_28_0, pq_30_0, pq_30_1, pq_30_2, pq_31_0, pq_35_0, pq_35_1, pq_35_2, pq_36_0, pq_40_0, pq_40_1, pq_40_2, pq_41_0, pq_45_0, pq_45_1, pq_45_2, pq_46_0, pq_50_0, pq_52_0, pq_52_1, pq_52_2, pq_52_3, pq_52_4, pq_52_5, pq_52_6, pq_52_8, pq_52_10, pq_52_11, pq_52_14, pq_52_15, pq_52_16, pq_52_17, pq_52_18, pq_52_27, pq_52_29, pq_52_30, pq_52_31, pq_52_32, pq_52_33, pq_52_34, pq_52_35, pq_52_36, pq_52_37, pq_52_38, pq_52_39, pq_52_40, pq_52_41, aq_1, aq_11, aq_12, aq_13, aq_14, aq_16, aq_18, aq_20, aq_22, aq_23, aq_24, aq_25, aq_26, aq_27, aq_29, aq_32, aq_33, aq_34, aq_37, aq_38, aq_39, aq_42, aq_43, aq_44, aq_47, aq_48, aq_49, aq_51, aq_53, aq_54, aq_55, aq_56, aq_57, aq_58, aq_59, aq_60, aq_61, aq_62, aq_63, aq_64, aq_65, aq_66, aq_67, aq_68, aq_69, aq_70, aq_71, aq_72, aq_73, aq_74, aq_75, aq_76, aq_77, aq_78, aq_79, aq_80, aq_81]
        rfl
      · rw [if_neg (fun h9 => h6 h9.2)] at e2
        have h6' : (6 : Int32) ≤ nI (cn S 3) := nI_le (a := 6) (by omega) (by omega)
        rw [e2]
        simp only [F_72, B_72_39, h10, nI_1, ← e1, g10, rm10, g8, h6', dg_1, db_1, db_0, dl_1, dp_1, dv_1, dv_x, di_1, di_x, dw_1, ec_eq, ec_ne, ec_lt, ec_ge, ec_gt, ec_le, hq_z, hq_wz, hq_wc, hq_thr, hq_p29, hq_pw, eq_self, decide_true, decide_false, not_true_eq_false, not_false_eq_true, kq_0, kq_1, kq_2, kq_3, kq_4, kq_5, kq_6, kq_7, kq_8, kq_9, kq_10, kq_11, kq_12, kq_13, kq_14, kq_15, kq_16, kq_17, kq_18, kq_19, kq_20, kq_21, kq_22, kq_23, kq_24, kq_25, kq_26, kq_27, kq_28, kq_29, kq_30, kq_31, kq_32, kq_33, kq_34, kq_35, kq_36, kq_37, kq_38, kq_39, kq_40, kq_41, kq_42, kq_43, kq_44, kq_45, kq_46, kq_47, kq_48, kq_49, kq_50, kq_51, kq_52, kq_53, kq_54, kq_55, kq_56, kq_57, kq_58, kq_59, kq_60, kq_61, kq_62, kq_63, kq_64, kq_65, kq_66, kq_67, kq_68, kq_69, kq_70, kq_71, kq_72, kq_73, kq_74, kq_75, kq_76, kq_77, kq_78, kq_79, kq_80, kq_81, pq_0_0, pq_0_1, pq_0_2, pq_0_3, pq_0_4, pq_0_5, pq_0_6, pq_0_7, pq_1_0, pq_1_1, pq_1_2, pq_1_3, pq_1_4, pq_1_5, pq_1_6, pq_1_7, pq_10_0, pq_10_1, pq_10_2, pq_10_3, pq_15_0, pq_17_0, pq_19_0, pq_21_0, pq_21_1, pq_21_2, pq_21_3, pq_21_4, pq_21_5, pq_28_0, pq_30_0, pq_30_1, pq_30_2, pq_31_0, pq_35_0, pq_35_1, pq_35_2, pq_36_0, pq_40_0, pq_40_1, pq_40_2, pq_41_0, pq_45_0, pq_45_1, pq_45_2, pq_46_0, pq_50_0, pq_52_0, pq_52_1, pq_52_2, pq_52_3, pq_52_4, pq_52_5, pq_52_6, pq_52_8, pq_52_10, pq_52_11, pq_52_14, pq_52_15, pq_52_16, pq_52_17, pq_52_18, pq_52_27, pq_52_29, pq_52_30, pq_52_31, pq_52_32, pq_52_33, pq_52_34, pq_52_35, pq_52_36, pq_52_37, pq_52_38, pq_52_39, pq_52_40, pq_52_41, aq_1, aq_11, aq_12, aq_13, aq_14, aq_16, aq_18, aq_20, aq_22, aq_23, aq_24, aq_25, aq_26, aq_27, aq_29, aq_32, aq_33, aq_34, aq_37, aq_38, aq_39, aq_42, aq_43, aq_44, aq_47, aq_48, aq_49, aq_51, aq_53, aq_54, aq_55, aq_56, aq_57, aq_58, aq_59, aq_60, aq_61, aq_62, aq_63, aq_64, aq_65, aq_66, aq_67, aq_68, aq_69, aq_70, aq_71, aq_72, aq_73, aq_74, aq_75, aq_76, aq_77, aq_78, aq_79, aq_80, aq_81]
        rfl
    · rw [if_neg (fun h9 => h h9.1)] at e2
      have hne : ¬ nI ((t + 1) % 10) = 0 := nI_ne0 (by omega) (by omega)
      rw [e2]
      simp only [F_72, B_72_39, h10, nI_1, ← e1, g10, rm10, hne, dg_1, db_1, db_0, dl_1, dp_1, dv_1, dv_x, di_1, di_x, dw_1, ec_eq, ec_ne, ec_lt, ec_ge, ec_gt, ec_le, hq_z, hq_wz, hq_wc, hq_thr, hq_p29, hq_pw, eq_self, decide_true, decide_false, not_true_eq_false, not_false_eq_true, kq_0, kq_1, kq_2, kq_3, kq_4, kq_5, kq_6, kq_7, kq_8, kq_9, kq_10, kq_11, kq_12, kq_13, kq_14, kq_15, kq_16, kq_17, kq_18, kq_19, kq_20, kq_21, kq_22, kq_23, kq_24, kq_25, kq_26, kq_27, kq_28, kq_29, kq_30, kq_31, kq_32, kq_33, kq_34, kq_35, kq_36, kq_37, kq_38, kq_39, kq_40, kq_41, kq_42, kq_43, kq_44, kq_45, kq_46, kq_47, kq_48, kq_49, kq_50, kq_51, kq_52, kq_53, kq_54, kq_55, kq_56, kq_57, kq_58, kq_59, kq_60, kq_61, kq_62, kq_63, kq_64, kq_65, kq_66, kq_67, kq_68, kq_69, kq_70, kq_71, kq_72, kq_73, kq_74, kq_75, kq_76, kq_77, kq_78, kq_79, kq_80, kq_81, pq_0_0, pq_0_1, pq_0_2, pq_0_3, pq_0_4, pq_0_5, pq_0_6, pq_0_7, pq_1_0, pq_1_1, pq_1_2, pq_1_3, pq_1_4, pq_1_5, pq_1_6, pq_1_7, pq_10_0, pq_10_1, pq_10_2, pq_10_3, pq_15_0, pq_17_0, pq_19_0, pq_21_0, pq_21_1, pq_21_2, pq_21_3, pq_21_4, pq_21_5, pq_28_0, pq_30_0, pq_30_1, pq_30_2, pq_31_0, pq_35_0, pq_35_1, pq_35_2, pq_36_0, pq_40_0, pq_40_1, pq_40_2, pq_41_0, pq_45_0, pq_45_1, pq_45_2, pq_46_0, pq_50_0, pq_52_0, pq_52_1, pq_52_2, pq_52_3, pq_52_4, pq_52_5, pq_52_6, pq_52_8, pq_52_10, pq_52_11, pq_52_14, pq_52_15, pq_52_16, pq_52_17, pq_52_18, pq_52_27, pq_52_29, pq_52_30, pq_52_31, pq_52_32, pq_52_33, pq_52_34, pq_52_35, pq_52_36, pq_52_37, pq_52_38, pq_52_39, pq_52_40, pq_52_41, aq_1, aq_11, aq_12, aq_13, aq_14, aq_16, aq_18, aq_20, aq_22, aq_23, aq_24, aq_25, aq_26, aq_27, aq_29, aq_32, aq_33, aq_34, aq_37, aq_38, aq_39, aq_42, aq_43, aq_44, aq_47, aq_48, aq_49, aq_51, aq_53, aq_54, aq_55, aq_56, aq_57, aq_58, aq_59, aq_60, aq_61, aq_62, aq_63, aq_64, aq_65, aq_66, aq_67, aq_68, aq_69, aq_70, aq_71, aq_72, aq_73, aq_74, aq_75, aq_76, aq_77, aq_78, aq_79, aq_80, aq_81]
      rfl
  have n2' : ∀ a, a ≠ 0 → z2 a = z a := fun a ha => by
    rw [e2]; split
    · rw [va_up_ne _ _ ha, e1, va_up_ne _ _ ha]
    · rw [e1, va_up_ne _ _ ha]
  have m2 : ∀ k, k ≠ 8 → k ≠ 10 → z2 0 k = z 0 k := fun k h8 h10 => by
    rw [e2]; split
    · rw [va_up_self, pk_un h8, e1, va_up_self, pk_un h10]
    · rw [e1, va_up_self, pk_un h10]
  have q10 : z2 0 10 = nI (t + 1) := by
    rw [e2]; split
    · rw [va_up_self, pk_un (by omega)]; exact g10
    · exact g10
  have q8 : z2 0 8 = tmS S t 3 3 := by
    rw [tm_33, e2]; split
    · rw [va_up_self, pk_us]
    · rw [g8]; exact A2.1.symm
  have hK2 : kC (tmS S t) z2 w := by
    refine ⟨⟨fun i hi => ?_, q8, ?_, ?_, ?_, ?_⟩, dC_of K2 (fun k h1 h2 => tm_3 (by omega) (by omega)) (tm_k (by omega)) (n2' 50 (by omega)) (n2' 51 (by omega)), wC_of K3 (tm_3 (by omega) (by omega)) (fun k hk => tm_k (by omega)) (fun a ha => n2' a (by omega)), rtC_of K4 (tm_3 (by omega) (by omega)) (fun k h1 h2 => tm_k (by omega)) (fun a h1 h2 => n2' a (by omega)), by rw [q10, tm_5], by rw [n2' 16 (by omega)]; exact K6⟩
    · rw [n2' _ (by omega), tm_k (by omega), tm_k (by omega), tm_k (by omega)]; exact E1 i hi
    · rw [m2 9 (by omega) (by omega), tm_3 (by omega) (by omega)]; exact E3
    · rw [cn_of (tm_3 (by omega) (by omega))]
      exact OB_S E4 (tm_3 (by omega) (by omega)) (tm_3 (by omega) (by omega)) (fun k h1 h2 => tm_k (by omega)) (fun a h1 h2 => n2' a (by omega))
    · rw [n2' 20 (by omega)]; exact E5
    · rw [n2' 27 (by omega)]; exact E6
  have hI2 := (tm_PI hI').1
  obtain ⟨z3, w3', k1, k2, k3, k4, k5⟩ := n72_l (f := f) (c := c) (s := s) (t := t + 1) hr (by omega) hf 4 (tmS S t) z2 w 0 f (by have := hI2.2.1.1; omega) (by have := hI2.2.1.1; omega) (by omega) hI2 hK2
  exact ⟨z3, w3', s1.trans k1, k2, fun a ha => by rw [k3 a ha, n2' a (by omega)], by rw [k4, n2' 15 (by omega)], by rw [k5, n2' 16 (by omega)]⟩
end Pass89
