-- waits of the reference: joins
section Wait81
variable {S : St9} {z : Nat → Nat → Int32} {w : Nat → Option Nat} {f c s n data p t : Nat} {P : Nat → Nat} {E : Nat → Int32}
theorem m_add1 {e : Nat} (he : e < 4) (hR : rdM z n P data) (hw : ¬ wrP P data) (hpc : ¬ n2 P 6 % 16384 = 0) (hf : 6000 < f) : ∃ z', B_105_236 f 52 (nI p) (nI (hl P)) (nI (stN P)) (nI (moN P)) (nI data) (nI e) (hq z w c s) = B_105_413 f 52 (nI (stN P)) (nI (moN P)) (nI data) (nI e) (hq z' w c s) ∧ (∀ r, r < 75 ∨ 81 < r → z' r = z r) ∧ (∀ i, z' 80 i = if 4000 * e + stN P ≤ i ∧ i < 4000 * e + stN P + data then nI (P (hl P + (i - (4000 * e + stN P)))) else z 80 i) ∧ (∀ i, z' 81 i = if 4000 * e + stN P ≤ i ∧ i < 4000 * e + stN P + data then 1 else z 81 i) ∧ ((¬ stN P = 0 ∧ ∀ r, 75 ≤ r → r ≤ 79 → z' r = z r) ∨ (stN P = 0 ∧ z' 75 = upd (z 75) e (nI (hl P)) ∧ z' 78 = upd (z 78) e 8 ∧ z' 79 = upd (z 79) e (nI p) ∧ (∀ i, z' 76 i = if 60 * e ≤ i ∧ i < 60 * e + hl P then nI (P (i - 60 * e)) else z 76 i) ∧ ∀ i, z' 77 i = if 8 * e ≤ i ∧ i < 8 * e + 8 then nI (P (hl P + (i - 8 * e))) else z 77 i)) := by
  obtain ⟨hP, hn, h0, h12, hMq⟩ := hR
  have hl6 := hl_le P
  have hst := st_le P
  have hmo := mo_lt P
  have ie : ev_in (nI e) 4 = true := ev_in_nI (by omega) (by omega)
  have ce : (nI e).toNatClampNeg = e := nI_clamp (by omega)
  have s1 := lp_105a (f := f) (w := w) (c := c) (s := s) (l1 := nI p) (l4 := nI (moN P)) (l2 := hl P) (l3 := stN P) (l5 := data) (e := e) he hl6 (by omega) data 0 (f - data) z (by omega)
  rw [show f - data + data = f by omega] at s1
  obtain ⟨z1, e1⟩ : ∃ x, x = va_up (cpz z 80 61 (hl P + 0) (4000 * e + stN P + 0) data) 81 (fun i => if 4000 * e + stN P + 0 ≤ i ∧ i < 4000 * e + stN P + 0 + data then 1 else z 81 i) := ⟨_, rfl⟩
  rw [← e1] at s1
  have t81 : ∀ i, z1 81 i = if 4000 * e + stN P ≤ i ∧ i < 4000 * e + stN P + data then 1 else z 81 i := fun i => by rw [e1, va_up_self]; rfl
  have t80 : ∀ i, z1 80 i = if 4000 * e + stN P ≤ i ∧ i < 4000 * e + stN P + data then nI (P (hl P + (i - (4000 * e + stN P)))) else z 80 i := fun i => by
    rw [e1, va_up_ne _ _ (by decide), cpz_at]
    by_cases h : 4000 * e + stN P ≤ i ∧ i < 4000 * e + stN P + data
    · rw [if_pos h, if_pos (by omega)]; exact hP.2 _ (by omega)
    · rw [if_neg h, if_neg (by omega)]
  have n1 : ∀ r, r ≠ 80 → r ≠ 81 → z1 r = z r := fun r h1 h2 => by rw [e1, va_up_ne _ _ h2, cpz_ne h1]
  obtain ⟨g, hg⟩ : ∃ g, f - data = g + 1 := ⟨f - data - 1, by omega⟩
  rw [hg] at s1
  have y0 : nI data ≤ nI (0 + data) := nI_le (by omega) (by omega)
  by_cases hs0 : stN P = 0
  case neg =>
    have hs0' : ¬ nI (stN P) = 0 := nI_ne0 (by omega) (by omega)
    refine ⟨z1, ?_, fun r hr => n1 r (by omega) (by omega), t80, t81, Or.inl ⟨hs0, fun r h1 h2 => n1 r (by omega) (by omega)⟩⟩
    refine Eq.trans (show B_105_236 f 52 (nI p) (nI (hl P)) (nI (stN P)) (nI (moN P)) (nI data) (nI e) (hq z w c s) = _ from s1) ?_
    simp only [B_105_239, y0, hs0', dg_1, db_1, db_0, dl_1, dp_1, dv_1, dv_x, di_1, di_x, dw_1, ec_eq, ec_ne, ec_lt, ec_ge, ec_gt, ec_le, hq_z, hq_wz, hq_wc, hq_thr, hq_p29, hq_pw, eq_self, decide_true, decide_false, not_true_eq_false, not_false_eq_true, kq_0, kq_1, kq_2, kq_3, kq_4, kq_5, kq_6, kq_7, kq_8, kq_9, kq_10, kq_11, kq_12, kq_13, kq_14, kq_15, kq_16, kq_17, kq_18, kq_19, kq_20, kq_21, kq_22, kq_23, kq_24, kq_25, kq_26, kq_27, kq_28, kq_29, kq_30, kq_31, kq_32, kq_33, kq_34, kq_35, kq_36, kq_37, kq_38, kq_39, kq_40, kq_41, kq_42, kq_43, kq_44, kq_45, kq_46, kq_47, kq_48, kq_49, kq_50, kq_51, kq_52, kq_53, kq_54, kq_55, kq_56, kq_57, kq_58, kq_59, kq_60, kq_61, kq_62, kq_63, kq_64, kq_65, kq_66, kq_67, kq_68, kq_69, kq_70, kq_71, kq_72, kq_73, kq_74, kq_75, kq_76, kq_77, kq_78, kq_79, kq_80, kq_81, pq_0_0, pq_0_1, pq_0_2, pq_0_3, pq_0_4, pq_0_5, pq_0_6, pq_0_7, pq_1_0, pq_1_1, pq_1_2, pq_1_3, pq_1_4, pq_1_5, pq_1_6, pq_1_7, pq_10_0, pq_10_1, pq_10_2, pq_10_3, pq_15_0, pq_17_0, pq_19_0, pq_21_0, pq_21_1, pq_21_2, pq_21_3, pq_21_4, pq_21_5, pq_28_0, pq_30_0, pq_30_1, pq_30_2, pq_31_0, pq_35_0, pq_35_1, pq_35_2, pq_36_0, pq_40_0, pq_40_1, pq_40_2, pq_41_0, pq_45_0, pq_45_1, pq_45_2, pq_46_0, pq_50_0, pq_52_0, pq_52_1, pq_52_2, pq_52_3, pq_52_4, pq_52_5, pq_52_6, pq_52_8, pq_52_10, pq_52_11, pq_52_14, pq_52_15, pq_52_16, pq_52_17, pq_52_18, pq_52_27, pq_52_29, pq_52_30, pq_52_31, pq_52_32, pq_52_33, pq_52_34, pq_52_35, pq_52_36, pq_52_37, pq_52_38, pq_52_39, pq_52_40, pq_52_41, aq_1, aq_11, aq_12, aq_13, aq_14, aq_16, aq_18, aq_20, aq_22, aq_23, aq_24, aq_25, aq_26, aq_27, aq_29, aq_32, aq_33, aq_34, aq_37, aq_38, aq_39, aq_42, aq_43, aq_44, aq_47, aq_48, aq_49, aq_51, aq_53, aq_54, aq_55, aq_56, aq_57, aq_58, aq_59, aq_60, aq_61, aq_62, aq_63, aq_64, aq_65, aq_66, aq_67, aq_68, aq_69, aq_70, aq_71, aq_72, aq_73, aq_74, aq_75, aq_76, aq_77, aq_78, aq_79, aq_80, aq_81]
  have hs0' : nI (stN P) = 0 := by rw [hs0]; rfl
  have hd8 : 8 ≤ data := by
    have hm1 : moN P = 1 := by
      rw [st_e] at hs0
      rw [mo_e]; omega
    have h2 : data % 8 = 0 := by
      apply Classical.byContradiction
      intro h4; exact hw (Or.inr (Or.inl ⟨hm1, h4⟩))
    have h3 : ¬ data = 0 := fun h => hw (Or.inl h)
    omega
  obtain ⟨z2, e2⟩ : ∃ x, x = va_up z1 75 (upd (z1 75) e (nI (hl P))) := ⟨_, rfl⟩
  have n2' : ∀ r, r ≠ 75 → z2 r = z1 r := fun r h1 => by rw [e2, va_up_ne _ _ h1]
  have s2 := lp_105b (f := f) (w := w) (c := c) (s := s) (l1 := nI p) (l3 := nI (stN P)) (l4 := nI (moN P)) (l5 := nI data) (l2 := hl P) (e := e) he hl6 (hl P) 0 (f - hl P) z2 (by omega)
  rw [show f - hl P + hl P = f by omega] at s2
  obtain ⟨z3, e3⟩ : ∃ x, x = cpz z2 76 61 (0 + 0) (60 * e + 0) (hl P) := ⟨_, rfl⟩
  rw [← e3] at s2
  have n3 : ∀ r, r ≠ 76 → z3 r = z2 r := fun r h1 => by rw [e3, cpz_ne h1]
  obtain ⟨z4, e4⟩ : ∃ x, x = va_up z3 78 (upd (z3 78) e 8) := ⟨_, rfl⟩
  have n4' : ∀ r, r ≠ 78 → z4 r = z3 r := fun r h1 => by rw [e4, va_up_ne _ _ h1]
  have s3 := lp_105c (f := f) (w := w) (c := c) (s := s) (l1 := nI p) (l3 := nI (stN P)) (l4 := nI (moN P)) (l5 := nI data) (l2 := hl P) (e := e) he hl6 8 0 (f - 8) z4 (by rw [e4, va_up_self, pk_us]; rfl) (by omega)
  rw [show f - 8 + 8 = f by omega] at s3
  obtain ⟨z5, e5⟩ : ∃ x, x = cpz z4 77 61 (hl P + 0) (8 * e + 0) 8 := ⟨_, rfl⟩
  rw [← e5] at s3
  have n5' : ∀ r, r ≠ 77 → z5 r = z4 r := fun r h1 => by rw [e5, cpz_ne h1]
  obtain ⟨z6, e6⟩ : ∃ x, x = va_up z5 79 (upd (z5 79) e (nI p)) := ⟨_, rfl⟩
  have n6' : ∀ r, r ≠ 79 → z6 r = z5 r := fun r h1 => by rw [e6, va_up_ne _ _ h1]
  obtain ⟨g2, hg2⟩ : ∃ g, f - hl P = g + 1 := ⟨f - hl P - 1, by omega⟩
  obtain ⟨g3, hg3⟩ : ∃ g, f - 8 = g + 1 := ⟨f - 8 - 1, by omega⟩
  rw [hg2] at s2
  rw [hg3] at s3
  have y1 : nI (hl P) ≤ nI (0 + hl P) := nI_le (by omega) (by omega)
  have y2 : (8 : Int32) ≤ nI data := nI_le (a := 8) hd8 (by omega)
  have y3 : z5 78 e = 8 := by rw [n5' 78 (by omega), e4, va_up_self, pk_us]
  have y4 : (8 : Int32) ≤ nI (0 + 8) := nI_le (a := 8) (by omega) (by omega)
  have s4 : B_105_365 f f 52 (nI p) (nI (hl P)) (nI (stN P)) (nI (moN P)) (nI data) (nI e) 0 (hq z4 w c s) = B_105_413 f 52 (nI (stN P)) (nI (moN P)) (nI data) (nI e) (hq z6 w c s) := by
    refine Eq.trans s3 ?_
    rw [e6]
    simp only [B_105_365, ie, ce, y3, y4, dg_1, db_1, db_0, dl_1, dp_1, dv_1, dv_x, di_1, di_x, dw_1, ec_eq, ec_ne, ec_lt, ec_ge, ec_gt, ec_le, hq_z, hq_wz, hq_wc, hq_thr, hq_p29, hq_pw, eq_self, decide_true, decide_false, not_true_eq_false, not_false_eq_true, kq_0, kq_1, kq_2, kq_3, kq_4, kq_5, kq_6, kq_7, kq_8, kq_9, kq_10, kq_11, kq_12, kq_13, kq_14, kq_15, kq_16, kq_17, kq_18, kq_19, kq_20, kq_21, kq_22, kq_23, kq_24, kq_25, kq_26, kq_27, kq_28, kq_29, kq_30, kq_31, kq_32, kq_33, kq_34, kq_35, kq_36, kq_37, kq_38, kq_39, kq_40, kq_41, kq_42, kq_43, kq_44, kq_45, kq_46, kq_47, kq_48, kq_49, kq_50, kq_51, kq_52, kq_53, kq_54, kq_55, kq_56, kq_57, kq_58, kq_59, kq_60, kq_61, kq_62, kq_63, kq_64, kq_65, kq_66, kq_67, kq_68, kq_69, kq_70, kq_71, kq_72, kq_73, kq_74, kq_75, kq_76, kq_77, kq_78, kq_79, kq_80, kq_81, pq_0_0, pq_0_1, pq_0_2, pq_0_3, pq_0_4, pq_0_5, pq_0_6, pq_0_7, pq_1_0, pq_1_1, pq_1_2, pq_1_3, pq_1_4, pq_1_5, pq_1_6, pq_1_7, pq_10_0, pq_10_1, pq_10_2, pq_10_3, pq_15_0, pq_17_0, pq_19_0, pq_21_0, pq_21_1, pq_21_2, pq_21_3, pq_21_4, pq_21_5, pq_28_0, pq_30_0, pq_30_1, pq_30_2, pq_31_0, pq_35_0, pq_35_1, pq_35_2, pq_36_0, pq_40_0, pq_40_1, pq_40_2, pq_41_0, pq_45_0, pq_45_1, pq_45_2, pq_46_0, pq_50_0, pq_52_0, pq_52_1, pq_52_2, pq_52_3, pq_52_4, pq_52_5, pq_52_6, pq_52_8, pq_52_10, pq_52_11, pq_52_14, pq_52_15, pq_52_16, pq_52_17, pq_52_18, pq_52_27, pq_52_29, pq_52_30, pq_52_31, pq_52_32, pq_52_33, pq_52_34, pq_52_35, pq_52_36, pq_52_37, pq_52_38, pq_52_39, pq_52_40, pq_52_41, aq_1, aq_11, aq_12, aq_13, aq_14, aq_16, aq_18, aq_20, aq_22, aq_23, aq_24, aq_25, aq_26, aq_27, aq_29, aq_32, aq_33, aq_34, aq_37, aq_38, aq_39, aq_42, aq_43, aq_44, aq_47, aq_48, aq_49, aq_51, aq_53, aq_54, aq_55, aq_56, aq_57, aq_58, aq_59, aq_60, aq_61, aq_62, aq_63, aq_64, aq_65, aq_66, aq_67, aq_68, aq_69, aq_70, aq_71, aq_72, aq_73, aq_74, aq_75, aq_76, aq_77, aq_78, aq_79, aq_80, aq_81]
  have s5 : B_105_309 f f 52 (nI p) (nI (hl P)) (nI (stN P)) (nI (moN P)) (nI data) (nI e) 0 (hq z2 w c s) = B_105_413 f 52 (nI (stN P)) (nI (moN P)) (nI data) (nI e) (hq z6 w c s) := by
    refine Eq.trans s2 ?_
    simp only [B_105_309, B_105_361, y1, y2, ie, ce, ← e4, s4, dg_1, db_1, db_0, dl_1, dp_1, dv_1, dv_x, di_1, di_x, dw_1, ec_eq, ec_ne, ec_lt, ec_ge, ec_gt, ec_le, hq_z, hq_wz, hq_wc, hq_thr, hq_p29, hq_pw, eq_self, decide_true, decide_false, not_true_eq_false, not_false_eq_true, kq_0, kq_1, kq_2, kq_3, kq_4, kq_5, kq_6, kq_7, kq_8, kq_9, kq_10, kq_11, kq_12, kq_13, kq_14, kq_15, kq_16, kq_17, kq_18, kq_19, kq_20, kq_21, kq_22, kq_23, kq_24, kq_25, kq_26, kq_27, kq_28, kq_29, kq_30, kq_31, kq_32, kq_33, kq_34, kq_35, kq_36, kq_37, kq_38, kq_39, kq_40, kq_41, kq_42, kq_43, kq_44, kq_45, kq_46, kq_47, kq_48, kq_49, kq_50, kq_51, kq_52, kq_53, kq_54, kq_55, kq_56, kq_57, kq_58, kq_59, kq_60, kq_61, kq_62, kq_63, kq_64, kq_65, kq_66, kq_67, kq_68, kq_69, kq_70, kq_71, kq_72, kq_73, kq_74, kq_75, kq_76, kq_77, kq_78, kq_79, kq_80, kq_81, pq_0_0, pq_0_1, pq_0_2, pq_0_3, pq_0_4, pq_0_5, pq_0_6, pq_0_7, pq_1_0, pq_1_1, pq_1_2, pq_1_3, pq_1_4, pq_1_5, pq_1_6, pq_1_7, pq_10_0, pq_10_1, pq_10_2, pq_10_3, pq_15_0, pq_17_0, pq_19_0, pq_21_0, pq_21_1, pq_21_2, pq_21_3, pq_21_4, pq_21_5, pq_28_0, pq_30_0, pq_30_1, pq_30_2, pq_31_0, pq_35_0, pq_35_1, pq_35_2, pq_36_0, pq_40_0, pq_40_1, pq_40_2, pq_41_0, pq_45_0, pq_45_1, pq_45_2, pq_46_0, pq_50_0, pq_52_0, pq_52_1, pq_52_2, pq_52_3, pq_52_4, pq_52_5, pq_52_6, pq_52_8, pq_52_10, pq_52_11, pq_52_14, pq_52_15, pq_52_16, pq_52_17, pq_52_18, pq_52_27, pq_52_29, pq_52_30, pq_52_31, pq_52_32, pq_52_33, pq_52_34, pq_52_35, pq_52_36, pq_52_37, pq_52_38, pq_52_39, pq_52_40, pq_52_41, aq_1, aq_11, aq_12, aq_13, aq_14, aq_16, aq_18, aq_20, aq_22, aq_23, aq_24, aq_25, aq_26, aq_27, aq_29, aq_32, aq_33, aq_34, aq_37, aq_38, aq_39, aq_42, aq_43, aq_44, aq_47, aq_48, aq_49, aq_51, aq_53, aq_54, aq_55, aq_56, aq_57, aq_58, aq_59, aq_60, aq_61, aq_62, aq_63, aq_64, aq_65, aq_66, aq_67, aq_68, aq_69, aq_70, aq_71, aq_72, aq_73, aq_74, aq_75, aq_76, aq_77, aq_78, aq_79, aq_80, aq_81]
  refine ⟨z6, ?_, fun r hr => ?_, fun i => ?_, fun i => ?_, Or.inr ⟨hs0, ?_, ?_, ?_, fun i => ?_, fun i => ?_⟩⟩
  · refine Eq.trans (show B_105_236 f 52 (nI p) (nI (hl P)) (nI (stN P)) (nI (moN P)) (nI data) (nI e) (hq z w c s) = _ from s1) ?_
    rw [hs0'] at s5 ⊢
    simp only [B_105_239, y0, ie, ce, ← e2, s5, dg_1, db_1, db_0, dl_1, dp_1, dv_1, dv_x, di_1, di_x, dw_1, ec_eq, ec_ne, ec_lt, ec_ge, ec_gt, ec_le, hq_z, hq_wz, hq_wc, hq_thr, hq_p29, hq_pw, eq_self, decide_true, decide_false, not_true_eq_false, not_false_eq_true, kq_0, kq_1, kq_2, kq_3, kq_4, kq_5, kq_6, kq_7, kq_8, kq_9, kq_10, kq_11, kq_12, kq_13, kq_14, kq_15, kq_16, kq_17, kq_18, kq_19, kq_20, kq_21, kq_22, kq_23, kq_24, kq_25, kq_26, kq_27, kq_28, kq_29, kq_30, kq_31, kq_32, kq_33, kq_34, kq_35, kq_36, kq_37, kq_38, kq_39, kq_40, kq_41, kq_42, kq_43, kq_44, kq_45, kq_46, kq_47, kq_48, kq_49, kq_50, kq_51, kq_52, kq_53, kq_54, kq_55, kq_56, kq_57, kq_58, kq_59, kq_60, kq_61, kq_62, kq_63, kq_64, kq_65, kq_66, kq_67, kq_68, kq_69, kq_70, kq_71, kq_72, kq_73, kq_74, kq_75, kq_76, kq_77, kq_78, kq_79, kq_80, kq_81, pq_0_0, pq_0_1, pq_0_2, pq_0_3, pq_0_4, pq_0_5, pq_0_6, pq_0_7, pq_1_0, pq_1_1, pq_1_2, pq_1_3, pq_1_4, pq_1_5, pq_1_6, pq_1_7, pq_10_0, pq_10_1, pq_10_2, pq_10_3, pq_15_0, pq_17_0, pq_19_0, pq_21_0, pq_21_1, pq_21_2, pq_21_3, pq_21_4, pq_21_5, pq_28_0, pq_30_0, pq_30_1, pq_30_2, pq_31_0, pq_35_0, pq_35_1, pq_35_2, pq_36_0, pq_40_0, pq_40_1, pq_40_2, pq_41_0, pq_45_0, pq_45_1, pq_45_2, pq_46_0, pq_50_0, pq_52_0, pq_52_1, pq_52_2, pq_52_3, pq_52_4, pq_52_5, pq_52_6, pq_52_8, pq_52_10, pq_52_11, pq_52_14, pq_52_15, pq_52_16, pq_52_17, pq_52_18, pq_52_27, pq_52_29, pq_52_30, pq_52_31, pq_52_32, pq_52_33, pq_52_34, pq_52_35, pq_52_36, pq_52_37, pq_52_38, pq_52_39, pq_52_40, pq_52_41, aq_1, aq_11, aq_12, aq_13, aq_14, aq_16, aq_18, aq_20, aq_22, aq_23, aq_24, aq_25, aq_26, aq_27, aq_29, aq_32, aq_33, aq_34, aq_37, aq_38, aq_39, aq_42, aq_43, aq_44, aq_47, aq_48, aq_49, aq_51, aq_53, aq_54, aq_55, aq_56, aq_57, aq_58, aq_59, aq_60, aq_61, aq_62, aq_63, aq_64, aq_65, aq_66, aq_67, aq_68, aq_69, aq_70, aq_71, aq_72, aq_73, aq_74, aq_75, aq_76, aq_77, aq_78, aq_79, aq_80, aq_81]
  · rw [n6' r (by omega), n5' r (by omega), n4' r (by omega), n3 r (by omega), n2' r (by omega), n1 r (by omega) (by omega)]
  · rw [n6' 80 (by omega), n5' 80 (by omega), n4' 80 (by omega), n3 80 (by omega), n2' 80 (by omega)]; exact t80 i
  · rw [n6' 81 (by omega), n5' 81 (by omega), n4' 81 (by omega), n3 81 (by omega), n2' 81 (by omega)]; exact t81 i
  · rw [n6' 75 (by omega), n5' 75 (by omega), n4' 75 (by omega), n3 75 (by omega), e2, va_up_self, n1 75 (by omega) (by omega)]
  · rw [n6' 78 (by omega), n5' 78 (by omega), e4, va_up_self, n3 78 (by omega), n2' 78 (by omega), n1 78 (by omega) (by omega)]
  · rw [e6, va_up_self, n5' 79 (by omega), n4' 79 (by omega), n3 79 (by omega), n2' 79 (by omega), n1 79 (by omega) (by omega)]
  · rw [n6' 76 (by omega), n5' 76 (by omega), n4' 76 (by omega), e3, cpz_at, n2' 61 (by omega), n2' 76 (by omega), n1 61 (by omega) (by omega), n1 76 (by omega) (by omega)]
    by_cases h : 60 * e ≤ i ∧ i < 60 * e + hl P
    · rw [if_pos (by omega), if_pos h, show 0 + 0 + (i - (60 * e + 0)) = i - 60 * e by omega]; exact hP.2 _ (by omega)
    · rw [if_neg (by omega), if_neg h]
  · rw [n6' 77 (by omega), e5, cpz_at, n4' 61 (by omega), n4' 77 (by omega), n3 61 (by omega), n3 77 (by omega), n2' 61 (by omega), n2' 77 (by omega), n1 61 (by omega) (by omega), n1 77 (by omega) (by omega)]
    by_cases h : 8 * e ≤ i ∧ i < 8 * e + 8
    · rw [if_pos (by omega), if_pos h, show hl P + 0 + (i - (8 * e + 0)) = hl P + (i - 8 * e) by omega]; exact hP.2 _ (by omega)
    · rw [if_neg (by omega), if_neg h]
theorem m_add {e : Nat} (hM : wM S z) (hX : wX S) (he : e < cn S 10) (hR : rdM z n P data) (hw : ¬ wrP P data) (hr : ¬ rfE (S (15 + e)) P data) (hpc : ¬ n2 P 6 % 16384 = 0) (hf : 6000 < f) : ∃ z', B_105_236 f 52 (nI p) (nI (hl P)) (nI (stN P)) (nI (moN P)) (nI data) (nI e) (hq z w c s) = B_105_464 f 52 (nI e) (hq z' w c s) ∧ wM (adS S e P p data) z' ∧ ∀ r, r < 69 ∨ 81 < r → z' r = z r := by
  obtain ⟨X1, X2⟩ := hX
  obtain ⟨z1, s1, t0, t80, t81, tF⟩ := m_add1 (f := f) (w := w) (c := c) (s := s) (p := p) (show e < 4 by omega) hR hw hpc hf
  obtain ⟨hP, hn, h0, h12, hMq⟩ := hR
  have hl6 := hl_le P
  have hst := st_le P
  have hmo := mo_lt P
  have hE := X2 e he
  have hMe := hM.1 e he
  obtain ⟨⟨m0, m1, m2, m3, m4, m5⟩, m6, m7, m8, m9⟩ := id hMe
  have w4 := hE.2.2.2.1.1
  have w5 := hE.2.2.2.1.2
  have w6 := hE.2.2.2.2.1
  have w7 := hE.2.2.2.2.2.1
  have hend : S (15 + e) 6 = 1 → stN P + data ≤ er (S (15 + e)) := fun h => by
    apply Classical.byContradiction
    intro h7; exact hr (Or.inl ⟨h, by omega⟩)
  have hlast : moN P = 0 → er (S (15 + e)) ≤ stN P + data := fun h => by
    apply Classical.byContradiction
    intro h7; exact hr (Or.inr ⟨h, by omega⟩)
  have ie : ev_in (nI e) 4 = true := ev_in_nI (by omega) (by omega)
  have ce : (nI e).toNatClampNeg = e := nI_clamp (by omega)
  have g74 : z1 74 e = nI (er (S (15 + e))) := by rw [t0 74 (by omega), m5]; exact w4
  obtain ⟨z2, e2⟩ : ∃ x, x = va_up z1 74 (upd (z1 74) e (adE (S (15 + e)) P p data 5)) := ⟨_, rfl⟩
  have n2' : ∀ r, r ≠ 74 → z2 r = z1 r := fun r h1 => by rw [e2, va_up_ne _ _ h1]
  have s2 : B_105_413 f 52 (nI (stN P)) (nI (moN P)) (nI data) (nI e) (hq z1 w c s) = B_105_447 f 52 (nI (stN P)) (nI (moN P)) (nI data) (nI e) (adE (S (15 + e)) P p data 5) (nI e) 74 (hq z1 w c s) := by
    rw [adx_5]
    by_cases h : er (S (15 + e)) < stN P + data
    · have h' : ¬ nI (stN P + data) ≤ nI (er (S (15 + e))) := nI_ge h (by omega)
      rw [if_pos h]
      simp only [B_105_413, ie, ce, g74, nI_add, h', dg_1, db_1, db_0, dl_1, dp_1, dv_1, dv_x, di_1, di_x, dw_1, ec_eq, ec_ne, ec_lt, ec_ge, ec_gt, ec_le, hq_z, hq_wz, hq_wc, hq_thr, hq_p29, hq_pw, eq_self, decide_true, decide_false, not_true_eq_false, not_false_eq_true, kq_0, kq_1, kq_2, kq_3, kq_4, kq_5, kq_6, kq_7, kq_8, kq_9, kq_10, kq_11, kq_12, kq_13, kq_14, kq_15, kq_16, kq_17, kq_18, kq_19, kq_20, kq_21, kq_22, kq_23, kq_24, kq_25, kq_26, kq_27, kq_28, kq_29, kq_30, kq_31, kq_32, kq_33, kq_34, kq_35, kq_36, kq_37, kq_38, kq_39, kq_40, kq_41, kq_42, kq_43, kq_44, kq_45, kq_46, kq_47, kq_48, kq_49, kq_50, kq_51, kq_52, kq_53, kq_54, kq_55, kq_56, kq_57, kq_58, kq_59, kq_60, kq_61, kq_62, kq_63, kq_64, kq_65, kq_66, kq_67, kq_68, kq_69, kq_70, kq_71, kq_72, kq_73, kq_74, kq_75, kq_76, kq_77, kq_78, kq_79, kq_80, kq_81, pq_0_0, pq_0_1, pq_0_2, pq_0_3, pq_0_4, pq_0_5, pq_0_6, pq_0_7, pq_1_0, pq_1_1, pq_1_2, pq_1_3, pq_1_4, pq_1_5, pq_1_6, pq_1_7, pq_10_0, pq_10_1, pq_10_2, pq_10_3, pq_15_0, pq_17_0, pq_19_0, pq_21_0, pq_21_1, pq_21_2, pq_21_3, pq_21_4, pq_21_5, pq_28_0, pq_30_0, pq_30_1, pq_30_2, pq_31_0, pq_35_0, pq_35_1, pq_35_2, pq_36_0, pq_40_0, pq_40_1, pq_40_2, pq_41_0, pq_45_0, pq_45_1, pq_45_2, pq_46_0, pq_50_0, pq_52_0, pq_52_1, pq_52_2, pq_52_3, pq_52_4, pq_52_5, pq_52_6, pq_52_8, pq_52_10, pq_52_11, pq_52_14, pq_52_15, pq_52_16, pq_52_17, pq_52_18, pq_52_27, pq_52_29, pq_52_30, pq_52_31, pq_52_32, pq_52_33, pq_52_34, pq_52_35, pq_52_36, pq_52_37, pq_52_38, pq_52_39, pq_52_40, pq_52_41, aq_1, aq_11, aq_12, aq_13, aq_14, aq_16, aq_18, aq_20, aq_22, aq_23, aq_24, aq_25, aq_26, aq_27, aq_29, aq_32, aq_33, aq_34, aq_37, aq_38, aq_39, aq_42, aq_43, aq_44, aq_47, aq_48, aq_49, aq_51, aq_53, aq_54, aq_55, aq_56, aq_57, aq_58, aq_59, aq_60, aq_61, aq_62, aq_63, aq_64, aq_65, aq_66, aq_67, aq_68, aq_69, aq_70, aq_71, aq_72, aq_73, aq_74, aq_75, aq_76, aq_77, aq_78, aq_79, aq_80, aq_81]
    · have h' : nI (stN P + data) ≤ nI (er (S (15 + e))) := nI_le (by omega) (by omega)
      rw [if_neg h]
      simp only [B_105_413, ie, ce, g74, nI_add, h', dg_1, db_1, db_0, dl_1, dp_1, dv_1, dv_x, di_1, di_x, dw_1, ec_eq, ec_ne, ec_lt, ec_ge, ec_gt, ec_le, hq_z, hq_wz, hq_wc, hq_thr, hq_p29, hq_pw, eq_self, decide_true, decide_false, not_true_eq_false, not_false_eq_true, kq_0, kq_1, kq_2, kq_3, kq_4, kq_5, kq_6, kq_7, kq_8, kq_9, kq_10, kq_11, kq_12, kq_13, kq_14, kq_15, kq_16, kq_17, kq_18, kq_19, kq_20, kq_21, kq_22, kq_23, kq_24, kq_25, kq_26, kq_27, kq_28, kq_29, kq_30, kq_31, kq_32, kq_33, kq_34, kq_35, kq_36, kq_37, kq_38, kq_39, kq_40, kq_41, kq_42, kq_43, kq_44, kq_45, kq_46, kq_47, kq_48, kq_49, kq_50, kq_51, kq_52, kq_53, kq_54, kq_55, kq_56, kq_57, kq_58, kq_59, kq_60, kq_61, kq_62, kq_63, kq_64, kq_65, kq_66, kq_67, kq_68, kq_69, kq_70, kq_71, kq_72, kq_73, kq_74, kq_75, kq_76, kq_77, kq_78, kq_79, kq_80, kq_81, pq_0_0, pq_0_1, pq_0_2, pq_0_3, pq_0_4, pq_0_5, pq_0_6, pq_0_7, pq_1_0, pq_1_1, pq_1_2, pq_1_3, pq_1_4, pq_1_5, pq_1_6, pq_1_7, pq_10_0, pq_10_1, pq_10_2, pq_10_3, pq_15_0, pq_17_0, pq_19_0, pq_21_0, pq_21_1, pq_21_2, pq_21_3, pq_21_4, pq_21_5, pq_28_0, pq_30_0, pq_30_1, pq_30_2, pq_31_0, pq_35_0, pq_35_1, pq_35_2, pq_36_0, pq_40_0, pq_40_1, pq_40_2, pq_41_0, pq_45_0, pq_45_1, pq_45_2, pq_46_0, pq_50_0, pq_52_0, pq_52_1, pq_52_2, pq_52_3, pq_52_4, pq_52_5, pq_52_6, pq_52_8, pq_52_10, pq_52_11, pq_52_14, pq_52_15, pq_52_16, pq_52_17, pq_52_18, pq_52_27, pq_52_29, pq_52_30, pq_52_31, pq_52_32, pq_52_33, pq_52_34, pq_52_35, pq_52_36, pq_52_37, pq_52_38, pq_52_39, pq_52_40, pq_52_41, aq_1, aq_11, aq_12, aq_13, aq_14, aq_16, aq_18, aq_20, aq_22, aq_23, aq_24, aq_25, aq_26, aq_27, aq_29, aq_32, aq_33, aq_34, aq_37, aq_38, aq_39, aq_42, aq_43, aq_44, aq_47, aq_48, aq_49, aq_51, aq_53, aq_54, aq_55, aq_56, aq_57, aq_58, aq_59, aq_60, aq_61, aq_62, aq_63, aq_64, aq_65, aq_66, aq_67, aq_68, aq_69, aq_70, aq_71, aq_72, aq_73, aq_74, aq_75, aq_76, aq_77, aq_78, aq_79, aq_80, aq_81]
  obtain ⟨z3, e3⟩ : ∃ x, x = if moN P = 0 then va_up z2 73 (upd (z2 73) e (nI (stN P + data))) else z2 := ⟨_, rfl⟩
  have s3 : B_105_447 f 52 (nI (stN P)) (nI (moN P)) (nI data) (nI e) (adE (S (15 + e)) P p data 5) (nI e) 74 (hq z1 w c s) = B_105_464 f 52 (nI e) (hq z3 w c s) := by
    by_cases h : moN P = 0
    · have h' : nI (moN P) = 0 := by rw [h]; rfl
      rw [if_pos h] at e3
      simp only [B_105_447, ie, ce, ← e2, h', nI_add, ← e3, dg_1, db_1, db_0, dl_1, dp_1, dv_1, dv_x, di_1, di_x, dw_1, ec_eq, ec_ne, ec_lt, ec_ge, ec_gt, ec_le, hq_z, hq_wz, hq_wc, hq_thr, hq_p29, hq_pw, eq_self, decide_true, decide_false, not_true_eq_false, not_false_eq_true, kq_0, kq_1, kq_2, kq_3, kq_4, kq_5, kq_6, kq_7, kq_8, kq_9, kq_10, kq_11, kq_12, kq_13, kq_14, kq_15, kq_16, kq_17, kq_18, kq_19, kq_20, kq_21, kq_22, kq_23, kq_24, kq_25, kq_26, kq_27, kq_28, kq_29, kq_30, kq_31, kq_32, kq_33, kq_34, kq_35, kq_36, kq_37, kq_38, kq_39, kq_40, kq_41, kq_42, kq_43, kq_44, kq_45, kq_46, kq_47, kq_48, kq_49, kq_50, kq_51, kq_52, kq_53, kq_54, kq_55, kq_56, kq_57, kq_58, kq_59, kq_60, kq_61, kq_62, kq_63, kq_64, kq_65, kq_66, kq_67, kq_68, kq_69, kq_70, kq_71, kq_72, kq_73, kq_74, kq_75, kq_76, kq_77, kq_78, kq_79, kq_80, kq_81, pq_0_0, pq_0_1, pq_0_2, pq_0_3, pq_0_4, pq_0_5, pq_0_6, pq_0_7, pq_1_0, pq_1_1, pq_1_2, pq_1_3, pq_1_4, pq_1_5, pq_1_6, pq_1_7, pq_10_0, pq_10_1, pq_10_2, pq_10_3, pq_15_0, pq_17_0, pq_19_0, pq_21_0, pq_21_1, pq_21_2, pq_21_3, pq_21_4, pq_21_5, pq_28_0, pq_30_0, pq_30_1, pq_30_2, pq_31_0, pq_35_0, pq_35_1, pq_35_2, pq_36_0, pq_40_0, pq_40_1, pq_40_2, pq_41_0, pq_45_0, pq_45_1, pq_45_2, pq_46_0, pq_50_0, pq_52_0, pq_52_1, pq_52_2, pq_52_3, pq_52_4, pq_52_5, pq_52_6, pq_52_8, pq_52_10, pq_52_11, pq_52_14, pq_52_15, pq_52_16, pq_52_17, pq_52_18, pq_52_27, pq_52_29, pq_52_30, pq_52_31, pq_52_32, pq_52_33, pq_52_34, pq_52_35, pq_52_36, pq_52_37, pq_52_38, pq_52_39, pq_52_40, pq_52_41, aq_1, aq_11, aq_12, aq_13, aq_14, aq_16, aq_18, aq_20, aq_22, aq_23, aq_24, aq_25, aq_26, aq_27, aq_29, aq_32, aq_33, aq_34, aq_37, aq_38, aq_39, aq_42, aq_43, aq_44, aq_47, aq_48, aq_49, aq_51, aq_53, aq_54, aq_55, aq_56, aq_57, aq_58, aq_59, aq_60, aq_61, aq_62, aq_63, aq_64, aq_65, aq_66, aq_67, aq_68, aq_69, aq_70, aq_71, aq_72, aq_73, aq_74, aq_75, aq_76, aq_77, aq_78, aq_79, aq_80, aq_81]
    · have h' : ¬ nI (moN P) = 0 := nI_ne0 (by omega) (by omega)
      rw [if_neg h] at e3
      rw [e3]
      simp only [B_105_447, ie, ce, ← e2, h', dg_1, db_1, db_0, dl_1, dp_1, dv_1, dv_x, di_1, di_x, dw_1, ec_eq, ec_ne, ec_lt, ec_ge, ec_gt, ec_le, hq_z, hq_wz, hq_wc, hq_thr, hq_p29, hq_pw, eq_self, decide_true, decide_false, not_true_eq_false, not_false_eq_true, kq_0, kq_1, kq_2, kq_3, kq_4, kq_5, kq_6, kq_7, kq_8, kq_9, kq_10, kq_11, kq_12, kq_13, kq_14, kq_15, kq_16, kq_17, kq_18, kq_19, kq_20, kq_21, kq_22, kq_23, kq_24, kq_25, kq_26, kq_27, kq_28, kq_29, kq_30, kq_31, kq_32, kq_33, kq_34, kq_35, kq_36, kq_37, kq_38, kq_39, kq_40, kq_41, kq_42, kq_43, kq_44, kq_45, kq_46, kq_47, kq_48, kq_49, kq_50, kq_51, kq_52, kq_53, kq_54, kq_55, kq_56, kq_57, kq_58, kq_59, kq_60, kq_61, kq_62, kq_63, kq_64, kq_65, kq_66, kq_67, kq_68, kq_69, kq_70, kq_71, kq_72, kq_73, kq_74, kq_75, kq_76, kq_77, kq_78, kq_79, kq_80, kq_81, pq_0_0, pq_0_1, pq_0_2, pq_0_3, pq_0_4, pq_0_5, pq_0_6, pq_0_7, pq_1_0, pq_1_1, pq_1_2, pq_1_3, pq_1_4, pq_1_5, pq_1_6, pq_1_7, pq_10_0, pq_10_1, pq_10_2, pq_10_3, pq_15_0, pq_17_0, pq_19_0, pq_21_0, pq_21_1, pq_21_2, pq_21_3, pq_21_4, pq_21_5, pq_28_0, pq_30_0, pq_30_1, pq_30_2, pq_31_0, pq_35_0, pq_35_1, pq_35_2, pq_36_0, pq_40_0, pq_40_1, pq_40_2, pq_41_0, pq_45_0, pq_45_1, pq_45_2, pq_46_0, pq_50_0, pq_52_0, pq_52_1, pq_52_2, pq_52_3, pq_52_4, pq_52_5, pq_52_6, pq_52_8, pq_52_10, pq_52_11, pq_52_14, pq_52_15, pq_52_16, pq_52_17, pq_52_18, pq_52_27, pq_52_29, pq_52_30, pq_52_31, pq_52_32, pq_52_33, pq_52_34, pq_52_35, pq_52_36, pq_52_37, pq_52_38, pq_52_39, pq_52_40, pq_52_41, aq_1, aq_11, aq_12, aq_13, aq_14, aq_16, aq_18, aq_20, aq_22, aq_23, aq_24, aq_25, aq_26, aq_27, aq_29, aq_32, aq_33, aq_34, aq_37, aq_38, aq_39, aq_42, aq_43, aq_44, aq_47, aq_48, aq_49, aq_51, aq_53, aq_54, aq_55, aq_56, aq_57, aq_58, aq_59, aq_60, aq_61, aq_62, aq_63, aq_64, aq_65, aq_66, aq_67, aq_68, aq_69, aq_70, aq_71, aq_72, aq_73, aq_74, aq_75, aq_76, aq_77, aq_78, aq_79, aq_80, aq_81]
  have n3 : ∀ r, r ≠ 73 → r ≠ 74 → z3 r = z1 r := fun r h1 h2 => by
    rw [e3]; split
    · rw [va_up_ne _ _ h1, n2' r h2]
    · rw [n2' r h2]
  have t74 : z3 74 = upd (z 74) e (adE (S (15 + e)) P p data 5) := by
    have : z2 74 = upd (z 74) e (adE (S (15 + e)) P p data 5) := by rw [e2, va_up_self, t0 74 (by omega)]
    rw [e3]; split
    · rw [va_up_ne _ _ (by decide), this]
    · exact this
  have t73 : ∀ i, i ≠ e → z3 73 i = z 73 i := fun i hi => by
    rw [e3]; split
    · rw [va_up_self, pk_un hi, n2' 73 (by omega), t0 73 (by omega)]
    · rw [n2' 73 (by omega), t0 73 (by omega)]
  have t73e : z3 73 e = if moN P = 0 then nI (stN P + data) else z 73 e := by
    rw [e3]; split
    · rw [va_up_self, pk_us]
    · rw [n2' 73 (by omega), t0 73 (by omega)]
  refine ⟨z3, (s1.trans s2).trans s3, ⟨fun i hi => ?_, ?_⟩, fun r hr => by rw [n3 r (by omega) (by omega), t0 r (by omega)]⟩
  · rw [adS_c] at hi
    by_cases hie : i = e
    · rw [hie, adS_e]
      refine ⟨⟨?_, ?_, ?_, ?_, ?_, ?_⟩, ?_, ?_, ?_, ?_⟩
      · rw [n3 69 (by omega) (by omega), t0 69 (by omega), adx_k (by omega)]; exact m0
      · rw [n3 70 (by omega) (by omega), t0 70 (by omega), adx_k (by omega)]; exact m1
      · rw [n3 71 (by omega) (by omega), t0 71 (by omega), adx_k (by omega), adx_k (by omega)]; exact m2
      · rw [n3 72 (by omega) (by omega), t0 72 (by omega), adx_k (by omega)]; exact m3
      · rw [t73e, adx_6, adx_5]
        by_cases h : moN P = 0
        · rw [if_pos h, if_pos h, if_neg (by decide)]
          have := hlast h
          exact congrArg nI (by split <;> omega)
        · rw [if_neg h, if_neg h, m4]
          rcases w6 with h6 | h6
          · rw [if_pos h6, if_pos h6]
          · have := hend h6
            rw [if_neg (by rw [h6]; decide), if_neg (by rw [h6]; decide), w4, if_neg (by omega)]
      · rw [t74, pk_us]
      · intro h7
        rw [adx_7] at h7
        rcases tF with ⟨g1, g2⟩ | ⟨g1, -⟩
        · rw [if_neg g1] at h7
          rw [n3 75 (by omega) (by omega), g2 75 (by omega) (by omega)]; exact m6 h7
        · rw [if_pos g1] at h7; exact absurd h7 (by decide)
      · intro h7
        rw [n3 75 (by omega) (by omega), n3 76 (by omega) (by omega), n3 77 (by omega) (by omega), n3 78 (by omega) (by omega), n3 79 (by omega) (by omega)]
        rcases tF with ⟨g1, g2⟩ | ⟨g1, g2, g3, g4, g5, g6⟩
        · rw [adx_7, if_neg g1] at h7
          have hq := fq_ad1 (E := S (15 + e)) (p := p) (data := data) g1
          have hhl : hl (fq (adE (S (15 + e)) P p data)) = hl (fq (S (15 + e))) := hl_c (hq 0 (by omega))
          have hfl := hl_le (fq (S (15 + e)))
          obtain ⟨k1, k2, k3, k4, k5⟩ := m7 h7
          rw [hhl, adx_8, if_neg g1, g2 75 (by omega) (by omega), g2 76 (by omega) (by omega), g2 77 (by omega) (by omega), g2 78 (by omega) (by omega), g2 79 (by omega) (by omega)]
          exact ⟨k1, k2, k3, fun j hj => by rw [adx_f (by omega), if_neg g1]; exact k4 j hj, fun j hj => by rw [adx_f (by omega), if_neg g1]; exact k5 j hj⟩
        · have hq := fq_ad0 (E := S (15 + e)) (p := p) (data := data) hP.1 g1
          have hhl : hl (fq (adE (S (15 + e)) P p data)) = hl P := hl_c (hq 0 (by omega))
          rw [hhl, adx_8, if_pos g1, g2, g3, g4, pk_us, pk_us, pk_us]
          refine ⟨rfl, rfl, rfl, fun j hj => ?_, fun j hj => ?_⟩
          · rw [g5, if_pos (by omega), adx_f (by omega), if_pos g1]; exact congrArg (fun q => nI (P q)) (by omega)
          · rw [g6, if_pos (by omega), adx_f (by omega), if_pos g1]; exact congrArg (fun q => nI (P q)) (by omega)
      · intro j hj hth
        rw [n3 80 (by omega) (by omega), t80, adx_b (by omega)]
        rcases (th_ad hE hw hr hj).mp hth with h | h
        · by_cases h7 : stN P ≤ j ∧ j < stN P + data
          · rw [if_pos (by omega), if_pos h7]; exact congrArg (fun q => nI (P q)) (by omega)
          · rw [if_neg (by omega), if_neg h7]; exact m8 j hj h
        · rw [if_pos (by omega), if_pos h]; exact congrArg (fun q => nI (P q)) (by omega)
      · intro j hj
        rw [n3 81 (by omega) (by omega), t81]
        have hth := th_ad (p := p) hE hw hr hj
        by_cases h7 : stN P ≤ j ∧ j < stN P + data
        · rw [if_pos (by omega), if_pos (hth.mpr (Or.inr h7))]
        · rw [if_neg (by omega), m9 j hj]
          by_cases h8 : thE (S (15 + e)) j
          · rw [if_pos h8, if_pos (hth.mpr (Or.inl h8))]
          · rw [if_neg h8, if_neg (fun h => by rcases hth.mp h with h | h; exact h8 h; exact h7 h)]
    · rw [adS_k (by omega)]
      refine eM_mv (hM.1 i hi) (fun r h1 h2 => ?_) (fun j hj => ?_) (fun j hj => ?_) (fun j hj => ?_) (fun j hj => ?_) (fun _ => hl_le _)
      · by_cases h73 : r = 73
        · rw [h73]; exact t73 i hie
        · by_cases h74 : r = 74
          · rw [h74, t74, pk_un hie]
          · rw [n3 r h73 h74]
            rcases tF with ⟨g1, g2⟩ | ⟨g1, g2, g3, g4, g5, g6⟩
            · by_cases h75 : r < 75
              · rw [t0 r (by omega)]
              · rw [g2 r (by omega) (by omega)]
            · by_cases h75 : r < 75
              · rw [t0 r (by omega)]
              · rcases (show r = 75 ∨ r = 78 ∨ r = 79 by omega) with h | h | h
                · rw [h, g2, pk_un hie]
                · rw [h, g3, pk_un hie]
                · rw [h, g4, pk_un hie]
      · rw [n3 76 (by omega) (by omega)]
        rcases tF with ⟨g1, g2⟩ | ⟨g1, g2, g3, g4, g5, g6⟩
        · rw [g2 76 (by omega) (by omega)]
        · rw [g5, if_neg (by omega)]
      · rw [n3 77 (by omega) (by omega)]
        rcases tF with ⟨g1, g2⟩ | ⟨g1, g2, g3, g4, g5, g6⟩
        · rw [g2 77 (by omega) (by omega)]
        · rw [g6, if_neg (by omega)]
      · rw [n3 80 (by omega) (by omega), t80, if_neg (by omega)]
      · rw [n3 81 (by omega) (by omega), t81, if_neg (by omega)]
  · rw [n3 52 (by omega) (by omega), t0 52 (by omega), adS_c]; exact hM.2
end Wait81
