-- errors and answers: the class
section Err65
theorem nI_z {V : Nat} (h : V < 2 ^ 32) : nI V = 0 ↔ V = 0 := by
  constructor
  · intro e
    have e2 : (nI V).toBitVec = (0 : Int32).toBitVec := by rw [e]
    rw [nI_bv] at e2
    have e3 : (BitVec.ofNat 32 V).toNat = 0 := by rw [e2]; rfl
    rw [BitVec.toNat_ofNat, Nat.mod_eq_of_lt h] at e3
    exact e3
  · intro e; rw [e]; rfl
abbrev mayE (P : Nat → Nat) (q : Nat) : Prop := n2 P 6 % 8192 = 0 ∧ ¬ n4 P 12 = 0 ∧ (¬ P 9 = 1 ∨ (¬ q = 0 ∧ (P (hl P) = 8 ∨ P (hl P) = 0)))
variable {S : St9} {z : Nat → Nat → Int32} {w : Nat → Option Nat} {f c s p len m a r N M q : Nat} {P : Nat → Nat}
theorem n24 (hp : pk a r N) (hP : cb z r M P) (hr : ∀ i, br (z r i)) (hM : M ≤ N) (hN : N < 10000) (h0 : 20 ≤ hl P) (hq0 : q = 0 ↔ n2 P 2 - hl P = 0) (hl2 : hl P ≤ n2 P 2) (hMq : hl P + q ≤ M) : F_24 f a (hq z w c s) = some (.inl (some (.int (if mayE P q then 1 else 0))), hq z w c s) := by
  have l6 := n2_lt hP.1 6
  have l2 := n2_lt hP.1 2
  have l12 := n4_lt hP.1 12
  have b9 := hP.1 9
  have q15 := n15 (f := f) (w := w) (c := c) (s := s) hp hP hM hN (by omega)
  have q18 := n18 (f := f) (w := w) (c := c) (s := s) hp hP hM hN (by omega)
  have q17 := n17 (f := f) (w := w) (c := c) (s := s) hp hP hM hN (by omega)
  have q10 := n10 (f := f) (w := w) (c := c) (s := s) hp hP hM hN (by omega) hl2
  have q8 := n8 (f := f) (w := w) (c := c) (s := s) hp hP hM hN (by omega)
  by_cases h1 : n2 P 6 % 8192 = 0
  case neg =>
    have h1' : ¬ nI (n2 P 6 % 8192 * 8) = 0 := nI_ne0 (by omega) (by omega)
    rw [if_neg (fun h => h1 h.1)]
    simp only [F_24, B_24_14, (hp _ _ _ _).1, q15, h1', not_true_eq_false, not_false_eq_true, dg_1, db_1, db_0, dl_1, dp_1, dv_1, dv_x, di_1, di_x, dw_1, ec_eq, ec_ne, ec_lt, ec_ge, ec_gt, ec_le, hq_z, hq_wz, hq_wc, hq_thr, hq_p29, hq_pw, eq_self, decide_true, decide_false, not_true_eq_false, not_false_eq_true, kq_0, kq_1, kq_2, kq_3, kq_4, kq_5, kq_6, kq_7, kq_8, kq_9, kq_10, kq_11, kq_12, kq_13, kq_14, kq_15, kq_16, kq_17, kq_18, kq_19, kq_20, kq_21, kq_22, kq_23, kq_24, kq_25, kq_26, kq_27, kq_28, kq_29, kq_30, kq_31, kq_32, kq_33, kq_34, kq_35, kq_36, kq_37, kq_38, kq_39, kq_40, kq_41, kq_42, kq_43, kq_44, kq_45, kq_46, kq_47, kq_48, kq_49, kq_50, kq_51, kq_52, kq_53, kq_54, kq_55, kq_56, kq_57, kq_58, kq_59, kq_60, kq_61, kq_62, kq_63, kq_64, kq_65, kq_66, kq_67, kq_68, kq_69, kq_70, kq_71, kq_72, kq_73, kq_74, kq_75, kq_76, kq_77, kq_78, kq_79, kq_80, kq_81, pq_0_0, pq_0_1, pq_0_2, pq_0_3, pq_0_4, pq_0_5, pq_0_6, pq_0_7, pq_1_0, pq_1_1, pq_1_2, pq_1_3, pq_1_4, pq_1_5, pq_1_6, pq_1_7, pq_10_0, pq_10_1, pq_10_2, pq_10_3, pq_15_0, pq_17_0, pq_19_0, pq_21_0, pq_21_1, pq_21_2, pq_21_3, pq_21_4, pq_21_5, pq_28_0, pq_30_0, pq_30_1, pq_30_2, pq_31_0, pq_35_0, pq_35_1, pq_35_2, pq_36_0, pq_40_0, pq_40_1, pq_40_2, pq_41_0, pq_45_0, pq_45_1, pq_45_2, pq_46_0, pq_50_0, pq_52_0, pq_52_1, pq_52_2, pq_52_3, pq_52_4, pq_52_5, pq_52_6, pq_52_8, pq_52_10, pq_52_11, pq_52_14, pq_52_15, pq_52_16, pq_52_17, pq_52_18, pq_52_27, pq_52_29, pq_52_30, pq_52_31, pq_52_32, pq_52_33, pq_52_34, pq_52_35, pq_52_36, pq_52_37, pq_52_38, pq_52_39, pq_52_40, pq_52_41, aq_1, aq_11, aq_12, aq_13, aq_14, aq_16, aq_18, aq_20, aq_22, aq_23, aq_24, aq_25, aq_26, aq_27, aq_29, aq_32, aq_33, aq_34, aq_37, aq_38, aq_39, aq_42, aq_43, aq_44, aq_47, aq_48, aq_49, aq_51, aq_53, aq_54, aq_55, aq_56, aq_57, aq_58, aq_59, aq_60, aq_61, aq_62, aq_63, aq_64, aq_65, aq_66, aq_67, aq_68, aq_69, aq_70, aq_71, aq_72, aq_73, aq_74, aq_75, aq_76, aq_77, aq_78, aq_79, aq_80, aq_81]
  have h1' : nI (n2 P 6 % 8192 * 8) = 0 := by rw [h1]; rfl
  by_cases h2 : n4 P 12 = 0
  · have h2' : nI (n4 P 12) = 0 := (nI_z l12).mpr h2
    rw [if_neg (fun h => h.2.1 h2)]
    simp only [F_24, B_24_14, (hp _ _ _ _).1, q15, h1', q18, h2', not_true_eq_false, not_false_eq_true, dg_1, db_1, db_0, dl_1, dp_1, dv_1, dv_x, di_1, di_x, dw_1, ec_eq, ec_ne, ec_lt, ec_ge, ec_gt, ec_le, hq_z, hq_wz, hq_wc, hq_thr, hq_p29, hq_pw, eq_self, decide_true, decide_false, not_true_eq_false, not_false_eq_true, kq_0, kq_1, kq_2, kq_3, kq_4, kq_5, kq_6, kq_7, kq_8, kq_9, kq_10, kq_11, kq_12, kq_13, kq_14, kq_15, kq_16, kq_17, kq_18, kq_19, kq_20, kq_21, kq_22, kq_23, kq_24, kq_25, kq_26, kq_27, kq_28, kq_29, kq_30, kq_31, kq_32, kq_33, kq_34, kq_35, kq_36, kq_37, kq_38, kq_39, kq_40, kq_41, kq_42, kq_43, kq_44, kq_45, kq_46, kq_47, kq_48, kq_49, kq_50, kq_51, kq_52, kq_53, kq_54, kq_55, kq_56, kq_57, kq_58, kq_59, kq_60, kq_61, kq_62, kq_63, kq_64, kq_65, kq_66, kq_67, kq_68, kq_69, kq_70, kq_71, kq_72, kq_73, kq_74, kq_75, kq_76, kq_77, kq_78, kq_79, kq_80, kq_81, pq_0_0, pq_0_1, pq_0_2, pq_0_3, pq_0_4, pq_0_5, pq_0_6, pq_0_7, pq_1_0, pq_1_1, pq_1_2, pq_1_3, pq_1_4, pq_1_5, pq_1_6, pq_1_7, pq_10_0, pq_10_1, pq_10_2, pq_10_3, pq_15_0, pq_17_0, pq_19_0, pq_21_0, pq_21_1, pq_21_2, pq_21_3, pq_21_4, pq_21_5, pq_28_0, pq_30_0, pq_30_1, pq_30_2, pq_31_0, pq_35_0, pq_35_1, pq_35_2, pq_36_0, pq_40_0, pq_40_1, pq_40_2, pq_41_0, pq_45_0, pq_45_1, pq_45_2, pq_46_0, pq_50_0, pq_52_0, pq_52_1, pq_52_2, pq_52_3, pq_52_4, pq_52_5, pq_52_6, pq_52_8, pq_52_10, pq_52_11, pq_52_14, pq_52_15, pq_52_16, pq_52_17, pq_52_18, pq_52_27, pq_52_29, pq_52_30, pq_52_31, pq_52_32, pq_52_33, pq_52_34, pq_52_35, pq_52_36, pq_52_37, pq_52_38, pq_52_39, pq_52_40, pq_52_41, aq_1, aq_11, aq_12, aq_13, aq_14, aq_16, aq_18, aq_20, aq_22, aq_23, aq_24, aq_25, aq_26, aq_27, aq_29, aq_32, aq_33, aq_34, aq_37, aq_38, aq_39, aq_42, aq_43, aq_44, aq_47, aq_48, aq_49, aq_51, aq_53, aq_54, aq_55, aq_56, aq_57, aq_58, aq_59, aq_60, aq_61, aq_62, aq_63, aq_64, aq_65, aq_66, aq_67, aq_68, aq_69, aq_70, aq_71, aq_72, aq_73, aq_74, aq_75, aq_76, aq_77, aq_78, aq_79, aq_80, aq_81]
  have h2' : ¬ nI (n4 P 12) = 0 := fun h => h2 ((nI_z l12).mp h)
  by_cases h3 : P 9 = 1
  case neg =>
    have h3' : ¬ nI (P 9) = 1 := fun h => h3 ((nI_eq (b := 1) (by omega) (by omega)).mp h)
    rw [if_pos ⟨h1, h2, Or.inl h3⟩]
    simp only [F_24, B_24_14, (hp _ _ _ _).1, q15, h1', q18, h2', q17, h3', not_true_eq_false, not_false_eq_true, dg_1, db_1, db_0, dl_1, dp_1, dv_1, dv_x, di_1, di_x, dw_1, ec_eq, ec_ne, ec_lt, ec_ge, ec_gt, ec_le, hq_z, hq_wz, hq_wc, hq_thr, hq_p29, hq_pw, eq_self, decide_true, decide_false, not_true_eq_false, not_false_eq_true, kq_0, kq_1, kq_2, kq_3, kq_4, kq_5, kq_6, kq_7, kq_8, kq_9, kq_10, kq_11, kq_12, kq_13, kq_14, kq_15, kq_16, kq_17, kq_18, kq_19, kq_20, kq_21, kq_22, kq_23, kq_24, kq_25, kq_26, kq_27, kq_28, kq_29, kq_30, kq_31, kq_32, kq_33, kq_34, kq_35, kq_36, kq_37, kq_38, kq_39, kq_40, kq_41, kq_42, kq_43, kq_44, kq_45, kq_46, kq_47, kq_48, kq_49, kq_50, kq_51, kq_52, kq_53, kq_54, kq_55, kq_56, kq_57, kq_58, kq_59, kq_60, kq_61, kq_62, kq_63, kq_64, kq_65, kq_66, kq_67, kq_68, kq_69, kq_70, kq_71, kq_72, kq_73, kq_74, kq_75, kq_76, kq_77, kq_78, kq_79, kq_80, kq_81, pq_0_0, pq_0_1, pq_0_2, pq_0_3, pq_0_4, pq_0_5, pq_0_6, pq_0_7, pq_1_0, pq_1_1, pq_1_2, pq_1_3, pq_1_4, pq_1_5, pq_1_6, pq_1_7, pq_10_0, pq_10_1, pq_10_2, pq_10_3, pq_15_0, pq_17_0, pq_19_0, pq_21_0, pq_21_1, pq_21_2, pq_21_3, pq_21_4, pq_21_5, pq_28_0, pq_30_0, pq_30_1, pq_30_2, pq_31_0, pq_35_0, pq_35_1, pq_35_2, pq_36_0, pq_40_0, pq_40_1, pq_40_2, pq_41_0, pq_45_0, pq_45_1, pq_45_2, pq_46_0, pq_50_0, pq_52_0, pq_52_1, pq_52_2, pq_52_3, pq_52_4, pq_52_5, pq_52_6, pq_52_8, pq_52_10, pq_52_11, pq_52_14, pq_52_15, pq_52_16, pq_52_17, pq_52_18, pq_52_27, pq_52_29, pq_52_30, pq_52_31, pq_52_32, pq_52_33, pq_52_34, pq_52_35, pq_52_36, pq_52_37, pq_52_38, pq_52_39, pq_52_40, pq_52_41, aq_1, aq_11, aq_12, aq_13, aq_14, aq_16, aq_18, aq_20, aq_22, aq_23, aq_24, aq_25, aq_26, aq_27, aq_29, aq_32, aq_33, aq_34, aq_37, aq_38, aq_39, aq_42, aq_43, aq_44, aq_47, aq_48, aq_49, aq_51, aq_53, aq_54, aq_55, aq_56, aq_57, aq_58, aq_59, aq_60, aq_61, aq_62, aq_63, aq_64, aq_65, aq_66, aq_67, aq_68, aq_69, aq_70, aq_71, aq_72, aq_73, aq_74, aq_75, aq_76, aq_77, aq_78, aq_79, aq_80, aq_81]
  have h3' : nI (P 9) = 1 := by rw [h3]; rfl
  by_cases h4 : q = 0
  · have h4' : nI (n2 P 2 - hl P) = 0 := by rw [hq0.mp h4]; rfl
    rw [if_neg (fun h => by rcases h.2.2 with h7 | h7; exact h7 h3; exact h7.1 h4)]
    simp only [F_24, B_24_14, B_24_46, B_24_62, (hp _ _ _ _).1, q15, h1', q18, h2', q17, h3', q10, h4', show ¬ (-1 : Int32) = 8 by decide, show ¬ (-1 : Int32) = 0 by decide, show dzb 0 = true from rfl, not_true_eq_false, not_false_eq_true, dg_1, db_1, db_0, dl_1, dp_1, dv_1, dv_x, di_1, di_x, dw_1, ec_eq, ec_ne, ec_lt, ec_ge, ec_gt, ec_le, hq_z, hq_wz, hq_wc, hq_thr, hq_p29, hq_pw, eq_self, decide_true, decide_false, not_true_eq_false, not_false_eq_true, kq_0, kq_1, kq_2, kq_3, kq_4, kq_5, kq_6, kq_7, kq_8, kq_9, kq_10, kq_11, kq_12, kq_13, kq_14, kq_15, kq_16, kq_17, kq_18, kq_19, kq_20, kq_21, kq_22, kq_23, kq_24, kq_25, kq_26, kq_27, kq_28, kq_29, kq_30, kq_31, kq_32, kq_33, kq_34, kq_35, kq_36, kq_37, kq_38, kq_39, kq_40, kq_41, kq_42, kq_43, kq_44, kq_45, kq_46, kq_47, kq_48, kq_49, kq_50, kq_51, kq_52, kq_53, kq_54, kq_55, kq_56, kq_57, kq_58, kq_59, kq_60, kq_61, kq_62, kq_63, kq_64, kq_65, kq_66, kq_67, kq_68, kq_69, kq_70, kq_71, kq_72, kq_73, kq_74, kq_75, kq_76, kq_77, kq_78, kq_79, kq_80, kq_81, pq_0_0, pq_0_1, pq_0_2, pq_0_3, pq_0_4, pq_0_5, pq_0_6, pq_0_7, pq_1_0, pq_1_1, pq_1_2, pq_1_3, pq_1_4, pq_1_5, pq_1_6, pq_1_7, pq_10_0, pq_10_1, pq_10_2, pq_10_3, pq_15_0, pq_17_0, pq_19_0, pq_21_0, pq_21_1, pq_21_2, pq_21_3, pq_21_4, pq_21_5, pq_28_0, pq_30_0, pq_30_1, pq_30_2, pq_31_0, pq_35_0, pq_35_1, pq_35_2, pq_36_0, pq_40_0, pq_40_1, pq_40_2, pq_41_0, pq_45_0, pq_45_1, pq_45_2, pq_46_0, pq_50_0, pq_52_0, pq_52_1, pq_52_2, pq_52_3, pq_52_4, pq_52_5, pq_52_6, pq_52_8, pq_52_10, pq_52_11, pq_52_14, pq_52_15, pq_52_16, pq_52_17, pq_52_18, pq_52_27, pq_52_29, pq_52_30, pq_52_31, pq_52_32, pq_52_33, pq_52_34, pq_52_35, pq_52_36, pq_52_37, pq_52_38, pq_52_39, pq_52_40, pq_52_41, aq_1, aq_11, aq_12, aq_13, aq_14, aq_16, aq_18, aq_20, aq_22, aq_23, aq_24, aq_25, aq_26, aq_27, aq_29, aq_32, aq_33, aq_34, aq_37, aq_38, aq_39, aq_42, aq_43, aq_44, aq_47, aq_48, aq_49, aq_51, aq_53, aq_54, aq_55, aq_56, aq_57, aq_58, aq_59, aq_60, aq_61, aq_62, aq_63, aq_64, aq_65, aq_66, aq_67, aq_68, aq_69, aq_70, aq_71, aq_72, aq_73, aq_74, aq_75, aq_76, aq_77, aq_78, aq_79, aq_80, aq_81]
  have h4' : ¬ nI (n2 P 2 - hl P) = 0 := nI_ne0 (by omega) (by omega)
  have hl6 := hl_le P
  have a1 : aib 65 (hq z w c s) r (nI (hl P)) = true := aib_nI (hp _ _ _ _).2.2 (by omega) (by omega)
  have c1 : (nI (hl P)).toNatClampNeg = hl P := nI_clamp (by omega)
  have sb := sb_all (hr (hl P)) (hP.2 (hl P) (by omega)) (hP.1 _)
  by_cases h5 : P (hl P) = 8
  · have h5' := sb.2.2.1.mpr h5
    rw [if_pos ⟨h1, h2, Or.inr ⟨h4, Or.inl h5⟩⟩]
    simp only [F_24, B_24_14, B_24_46, B_24_57, B_24_62, (hp _ _ _ _).1, (hp _ _ _ _).2.1, q15, h1', q18, h2', q17, h3', q10, h4', q8, a1, c1, h5', show dzb 1 = true from rfl, not_true_eq_false, not_false_eq_true, dg_1, db_1, db_0, dl_1, dp_1, dv_1, dv_x, di_1, di_x, dw_1, ec_eq, ec_ne, ec_lt, ec_ge, ec_gt, ec_le, hq_z, hq_wz, hq_wc, hq_thr, hq_p29, hq_pw, eq_self, decide_true, decide_false, not_true_eq_false, not_false_eq_true, kq_0, kq_1, kq_2, kq_3, kq_4, kq_5, kq_6, kq_7, kq_8, kq_9, kq_10, kq_11, kq_12, kq_13, kq_14, kq_15, kq_16, kq_17, kq_18, kq_19, kq_20, kq_21, kq_22, kq_23, kq_24, kq_25, kq_26, kq_27, kq_28, kq_29, kq_30, kq_31, kq_32, kq_33, kq_34, kq_35, kq_36, kq_37, kq_38, kq_39, kq_40, kq_41, kq_42, kq_43, kq_44, kq_45, kq_46, kq_47, kq_48, kq_49, kq_50, kq_51, kq_52, kq_53, kq_54, kq_55, kq_56, kq_57, kq_58, kq_59, kq_60, kq_61, kq_62, kq_63, kq_64, kq_65, kq_66, kq_67, kq_68, kq_69, kq_70, kq_71, kq_72, kq_73, kq_74, kq_75, kq_76, kq_77, kq_78, kq_79, kq_80, kq_81, pq_0_0, pq_0_1, pq_0_2, pq_0_3, pq_0_4, pq_0_5, pq_0_6, pq_0_7, pq_1_0, pq_1_1, pq_1_2, pq_1_3, pq_1_4, pq_1_5, pq_1_6, pq_1_7, pq_10_0, pq_10_1, pq_10_2, pq_10_3, pq_15_0, pq_17_0, pq_19_0, pq_21_0, pq_21_1, pq_21_2, pq_21_3, pq_21_4, pq_21_5, pq_28_0, pq_30_0, pq_30_1, pq_30_2, pq_31_0, pq_35_0, pq_35_1, pq_35_2, pq_36_0, pq_40_0, pq_40_1, pq_40_2, pq_41_0, pq_45_0, pq_45_1, pq_45_2, pq_46_0, pq_50_0, pq_52_0, pq_52_1, pq_52_2, pq_52_3, pq_52_4, pq_52_5, pq_52_6, pq_52_8, pq_52_10, pq_52_11, pq_52_14, pq_52_15, pq_52_16, pq_52_17, pq_52_18, pq_52_27, pq_52_29, pq_52_30, pq_52_31, pq_52_32, pq_52_33, pq_52_34, pq_52_35, pq_52_36, pq_52_37, pq_52_38, pq_52_39, pq_52_40, pq_52_41, aq_1, aq_11, aq_12, aq_13, aq_14, aq_16, aq_18, aq_20, aq_22, aq_23, aq_24, aq_25, aq_26, aq_27, aq_29, aq_32, aq_33, aq_34, aq_37, aq_38, aq_39, aq_42, aq_43, aq_44, aq_47, aq_48, aq_49, aq_51, aq_53, aq_54, aq_55, aq_56, aq_57, aq_58, aq_59, aq_60, aq_61, aq_62, aq_63, aq_64, aq_65, aq_66, aq_67, aq_68, aq_69, aq_70, aq_71, aq_72, aq_73, aq_74, aq_75, aq_76, aq_77, aq_78, aq_79, aq_80, aq_81]
  have h5' : ¬ z r (hl P) = 8 := fun h => h5 (sb.2.2.1.mp h)
  by_cases h6 : P (hl P) = 0
  · have h6' := sb.1.mpr h6
    rw [if_pos ⟨h1, h2, Or.inr ⟨h4, Or.inr h6⟩⟩]
    simp only [F_24, B_24_14, B_24_46, B_24_57, B_24_62, (hp _ _ _ _).1, (hp _ _ _ _).2.1, q15, h1', q18, h2', q17, h3', q10, h4', q8, a1, c1, h6', show ¬ (0 : Int32) = 8 by decide, show dzb 1 = true from rfl, not_true_eq_false, not_false_eq_true, dg_1, db_1, db_0, dl_1, dp_1, dv_1, dv_x, di_1, di_x, dw_1, ec_eq, ec_ne, ec_lt, ec_ge, ec_gt, ec_le, hq_z, hq_wz, hq_wc, hq_thr, hq_p29, hq_pw, eq_self, decide_true, decide_false, not_true_eq_false, not_false_eq_true, kq_0, kq_1, kq_2, kq_3, kq_4, kq_5, kq_6, kq_7, kq_8, kq_9, kq_10, kq_11, kq_12, kq_13, kq_14, kq_15, kq_16, kq_17, kq_18, kq_19, kq_20, kq_21, kq_22, kq_23, kq_24, kq_25, kq_26, kq_27, kq_28, kq_29, kq_30, kq_31, kq_32, kq_33, kq_34, kq_35, kq_36, kq_37, kq_38, kq_39, kq_40, kq_41, kq_42, kq_43, kq_44, kq_45, kq_46, kq_47, kq_48, kq_49, kq_50, kq_51, kq_52, kq_53, kq_54, kq_55, kq_56, kq_57, kq_58, kq_59, kq_60, kq_61, kq_62, kq_63, kq_64, kq_65, kq_66, kq_67, kq_68, kq_69, kq_70, kq_71, kq_72, kq_73, kq_74, kq_75, kq_76, kq_77, kq_78, kq_79, kq_80, kq_81, pq_0_0, pq_0_1, pq_0_2, pq_0_3, pq_0_4, pq_0_5, pq_0_6, pq_0_7, pq_1_0, pq_1_1, pq_1_2, pq_1_3, pq_1_4, pq_1_5, pq_1_6, pq_1_7, pq_10_0, pq_10_1, pq_10_2, pq_10_3, pq_15_0, pq_17_0, pq_19_0, pq_21_0, pq_21_1, pq_21_2, pq_21_3, pq_21_4, pq_21_5, pq_28_0, pq_30_0, pq_30_1, pq_30_2, pq_31_0, pq_35_0, pq_35_1, pq_35_2, pq_36_0, pq_40_0, pq_40_1, pq_40_2, pq_41_0, pq_45_0, pq_45_1, pq_45_2, pq_46_0, pq_50_0, pq_52_0, pq_52_1, pq_52_2, pq_52_3, pq_52_4, pq_52_5, pq_52_6, pq_52_8, pq_52_10, pq_52_11, pq_52_14, pq_52_15, pq_52_16, pq_52_17, pq_52_18, pq_52_27, pq_52_29, pq_52_30, pq_52_31, pq_52_32, pq_52_33, pq_52_34, pq_52_35, pq_52_36, pq_52_37, pq_52_38, pq_52_39, pq_52_40, pq_52_41, aq_1, aq_11, aq_12, aq_13, aq_14, aq_16, aq_18, aq_20, aq_22, aq_23, aq_24, aq_25, aq_26, aq_27, aq_29, aq_32, aq_33, aq_34, aq_37, aq_38, aq_39, aq_42, aq_43, aq_44, aq_47, aq_48, aq_49, aq_51, aq_53, aq_54, aq_55, aq_56, aq_57, aq_58, aq_59, aq_60, aq_61, aq_62, aq_63, aq_64, aq_65, aq_66, aq_67, aq_68, aq_69, aq_70, aq_71, aq_72, aq_73, aq_74, aq_75, aq_76, aq_77, aq_78, aq_79, aq_80, aq_81]
  · have h6' : ¬ z r (hl P) = 0 := fun h => h6 (sb.1.mp h)
    rw [if_neg (fun h => by rcases h.2.2 with h7 | h7; exact h7 h3; rcases h7.2 with h8 | h8; exact h5 h8; exact h6 h8)]
    simp only [F_24, B_24_14, B_24_46, B_24_57, B_24_62, (hp _ _ _ _).1, (hp _ _ _ _).2.1, q15, h1', q18, h2', q17, h3', q10, h4', q8, a1, c1, h5', h6', show dzb 0 = true from rfl, not_true_eq_false, not_false_eq_true, dg_1, db_1, db_0, dl_1, dp_1, dv_1, dv_x, di_1, di_x, dw_1, ec_eq, ec_ne, ec_lt, ec_ge, ec_gt, ec_le, hq_z, hq_wz, hq_wc, hq_thr, hq_p29, hq_pw, eq_self, decide_true, decide_false, not_true_eq_false, not_false_eq_true, kq_0, kq_1, kq_2, kq_3, kq_4, kq_5, kq_6, kq_7, kq_8, kq_9, kq_10, kq_11, kq_12, kq_13, kq_14, kq_15, kq_16, kq_17, kq_18, kq_19, kq_20, kq_21, kq_22, kq_23, kq_24, kq_25, kq_26, kq_27, kq_28, kq_29, kq_30, kq_31, kq_32, kq_33, kq_34, kq_35, kq_36, kq_37, kq_38, kq_39, kq_40, kq_41, kq_42, kq_43, kq_44, kq_45, kq_46, kq_47, kq_48, kq_49, kq_50, kq_51, kq_52, kq_53, kq_54, kq_55, kq_56, kq_57, kq_58, kq_59, kq_60, kq_61, kq_62, kq_63, kq_64, kq_65, kq_66, kq_67, kq_68, kq_69, kq_70, kq_71, kq_72, kq_73, kq_74, kq_75, kq_76, kq_77, kq_78, kq_79, kq_80, kq_81, pq_0_0, pq_0_1, pq_0_2, pq_0_3, pq_0_4, pq_0_5, pq_0_6, pq_0_7, pq_1_0, pq_1_1, pq_1_2, pq_1_3, pq_1_4, pq_1_5, pq_1_6, pq_1_7, pq_10_0, pq_10_1, pq_10_2, pq_10_3, pq_15_0, pq_17_0, pq_19_0, pq_21_0, pq_21_1, pq_21_2, pq_21_3, pq_21_4, pq_21_5, pq_28_0, pq_30_0, pq_30_1, pq_30_2, pq_31_0, pq_35_0, pq_35_1, pq_35_2, pq_36_0, pq_40_0, pq_40_1, pq_40_2, pq_41_0, pq_45_0, pq_45_1, pq_45_2, pq_46_0, pq_50_0, pq_52_0, pq_52_1, pq_52_2, pq_52_3, pq_52_4, pq_52_5, pq_52_6, pq_52_8, pq_52_10, pq_52_11, pq_52_14, pq_52_15, pq_52_16, pq_52_17, pq_52_18, pq_52_27, pq_52_29, pq_52_30, pq_52_31, pq_52_32, pq_52_33, pq_52_34, pq_52_35, pq_52_36, pq_52_37, pq_52_38, pq_52_39, pq_52_40, pq_52_41, aq_1, aq_11, aq_12, aq_13, aq_14, aq_16, aq_18, aq_20, aq_22, aq_23, aq_24, aq_25, aq_26, aq_27, aq_29, aq_32, aq_33, aq_34, aq_37, aq_38, aq_39, aq_42, aq_43, aq_44, aq_47, aq_48, aq_49, aq_51, aq_53, aq_54, aq_55, aq_56, aq_57, aq_58, aq_59, aq_60, aq_61, aq_62, aq_63, aq_64, aq_65, aq_66, aq_67, aq_68, aq_69, aq_70, aq_71, aq_72, aq_73, aq_74, aq_75, aq_76, aq_77, aq_78, aq_79, aq_80, aq_81]
def tkS (S : St9) : St9 := va_up S 3 (upd (S 3) 3 (nI (cn S 3 - 1)))
theorem tkS_k {k : Nat} (h : k ≠ 3) : tkS S k = S k := va_up_ne _ _ h
theorem tkS_3 {k : Nat} (h : k ≠ 3) : tkS S 3 k = S 3 k := by unfold tkS; rw [va_up_self, pk_un h]
theorem tkS_33 : tkS S 3 3 = nI (cn S 3 - 1) := by unfold tkS; rw [va_up_self, pk_us]
theorem tkS_c {k : Nat} (h : k ≠ 3) : cn (tkS S) k = cn S k := by unfold cn; rw [tkS_3 h]
theorem tkS_ow (h : ow S) : ow (tkS S) := by
  unfold ow wfn at *
  rw [tkS_c (by omega), tkS_c (by omega), tkS_3 (by omega), tkS_3 (by omega), tkS_k (by omega), tkS_k (by omega)]
  exact h
theorem tkS_W (h : wE S) : wE (tkS S) := by
  obtain ⟨h1, ⟨h2, h3⟩, h4, h5⟩ := h
  refine ⟨?_, ?_, ?_, tkS_ow h5⟩
  · rw [tkS_k (by omega), tkS_k (by omega)]; exact h1
  · have : cn (tkS S) 3 = cn S 3 - 1 := by
      show (tkS S 3 3).toNatClampNeg = _
      rw [tkS_33, nI_clamp (by omega)]
    exact ⟨by rw [this, tkS_33], by omega⟩
  · unfold wfn at *; rw [tkS_c (by omega), tkS_3 (by omega)]; exact h4
def mtN (S : St9) (p : Nat) : Nat := (S 1 p).toNatClampNeg
def adN (S : St9) (p : Nat) : Nat := (S 0 p).toBitVec.toNat
theorem adN_e (S : St9) (p : Nat) : S 0 p = nI (adN S p) ∧ adN S p < 2 ^ 32 := by
  refine ⟨?_, (S 0 p).toBitVec.isLt⟩
  apply Int32.toBitVec_inj.mp
  unfold adN
  rw [nI_bv, BitVec.ofNat_toNat, BitVec.setWidth_eq]
theorem mtN_e (h : wE S) (hp : p < 8) : S 1 p = nI (mtN S p) ∧ 100 ≤ mtN S p ∧ mtN S p ≤ 1500 := by
  obtain ⟨⟨m, h1, h2, h3⟩, -⟩ := h.1 p hp
  have : mtN S p = m := by unfold mtN; rw [h3, nI_clamp (by omega)]
  rw [this]; exact ⟨h3, h1, h2⟩
def erD (P : Nat → Nat) (ty co re : Nat) : Nat → Nat := fun i => if i < 8 then bu4 (bu4 (fun _ => 0) 0 (ty * 16777216 + co * 65536)) 4 re i else P (i - 8)
theorem erD_lt (hP : ∀ i, P i < 256) (ty co re : Nat) : ∀ i, erD P ty co re i < 256 := fun i => by
  unfold erD; split
  · exact bu4_lt (bu4_lt (fun _ => by show 0 < 256; omega) _) _ _
  · exact hP _
def erS (S : St9) (p : Nat) (P : Nat → Nat) (q ty co re : Nat) : St9 := if S 2 p = 0 ∨ cn S 3 = 0 ∨ ¬ mayE P q then S else sdS (rpS (tkS S)) (rpB (vL (8 + (hl P + q))) (cn S 4) (adN S p) (n4 P 12) (8 + (hl P + q)) (erD P ty co re)) (8 + (hl P + q)) (mtN S p) (nI p) 0
theorem bu4_sh {B C : Nat → Nat} {u t v i : Nat} (h1 : t ≤ i) (h2 : i ≤ t + 3) : bu4 B (u + t) v (u + i) = bu4 C t v i := by
  unfold bu4 b1
  by_cases g1 : i = t + 3
  · rw [if_pos (by omega), if_pos g1]
  · rw [if_neg (by omega), if_neg g1]
    by_cases g2 : i = t + 2
    · rw [if_pos (by omega), if_pos g2]
    · rw [if_neg (by omega), if_neg g2]
      by_cases g3 : i = t + 1
      · rw [if_pos (by omega), if_pos g3]
      · rw [if_neg (by omega), if_neg g3, if_pos (by omega), if_pos (by omega)]
theorem cap_e {c2 c11 m len : Nat} (h1 : c2 < 50) (h2 : c11 + 20 + len ≤ 5000) (hm : 100 ≤ m) (hl : len ≤ 80) : capS c2 c11 20 ((m - 20) / 8 * 8) len := by
  intro k hk
  have h3 : 80 ≤ (m - 20) / 8 * 8 := by omega
  have : k = 0 := by
    rcases hk with h | h
    · exact h
    · apply Classical.byContradiction
      intro h0
      have : 1 * ((m - 20) / 8 * 8) ≤ k * ((m - 20) / 8 * 8) := Nat.mul_le_mul_right _ (by omega)
      omega
  subst this
  omega
theorem n69 {ty co re : Nat} (hE : cE S z) (hW : wE S) (hpt : p < 8) (hp : pk a r N) (hP : cb z r M P) (hr : ∀ i, br (z r i)) (hM : M ≤ N) (hN : N < 10000) (hrr : 0 < r ∧ (r < 20 ∨ 27 < r)) (h0 : 20 ≤ hl P) (hl2 : hl P ≤ n2 P 2) (hq8 : q = if n2 P 2 - hl P < 8 then n2 P 2 - hl P else 8) (hMq : hl P + q ≤ M) (hty : ty < 256) (hco : co < 256) (hre : re < 2 ^ 32) (h2 : cn S 2 < 50) (h11 : cn S 11 ≤ 4800) (hf : 20000 < f) : ∃ z', F_69 f 0 a (nI p) (nI ty) (nI co) (nI re) (hq z w c s) = some (.inl none, hq z' w c s) ∧ cE (erS S p P q ty co re) z' ∧ (∀ a, a ≠ 0 → a < 20 ∨ 27 < a → z' a = z a) ∧ ∀ k, k ≠ 8 → k ≠ 9 → z' 0 k = z 0 k := by
  have hl6 := hl_le P
  have l2 := n2_lt hP.1 2
  have hq0 : q = 0 ↔ n2 P 2 - hl P = 0 := by rw [hq8]; split <;> omega
  have hq9 : q ≤ 8 := by rw [hq8]; split <;> omega
  have q24 := n24 (f := f) (w := w) (c := c) (s := s) hp hP hr hM hN h0 hq0 hl2 hMq
  have ip : ev_in (nI p) 8 = true := ev_in_nI hpt (by omega)
  have cp : (nI p).toNatClampNeg = p := nI_clamp (by omega)
  have hE' := hE
  have hW' := hW
  obtain ⟨E1, E2, E3, E4, E5, E6⟩ := hE
  obtain ⟨W1, ⟨W2, W3⟩, ⟨W4, W5⟩, W6⟩ := hW
  have g2 := (E1 p hpt).2.2
  have t3 : z 0 8 = nI (cn S 3) := E2.trans W2
  by_cases hx : S 2 p = 0
  · refine ⟨z, ?_, ?_, fun _ _ _ => rfl, fun _ _ _ => rfl⟩
    · simp only [F_69, B_69_26, ip, cp, (prt hpt).1, (prt hpt).2, g2, hx, dg_1, db_1, db_0, dl_1, dp_1, dv_1, dv_x, di_1, di_x, dw_1, ec_eq, ec_ne, ec_lt, ec_ge, ec_gt, ec_le, hq_z, hq_wz, hq_wc, hq_thr, hq_p29, hq_pw, eq_self, decide_true, decide_false, not_true_eq_false, not_false_eq_true, kq_0, kq_1, kq_2, kq_3, kq_4, kq_5, kq_6, kq_7, kq_8, kq_9, kq_10, kq_11, kq_12, kq_13, kq_14, kq_15, kq_16, kq_17, kq_18, kq_19, kq_20, kq_21, kq_22, kq_23, kq_24, kq_25, kq_26, kq_27, kq_28, kq_29, kq_30, kq_31, kq_32, kq_33, kq_34, kq_35, kq_36, kq_37, kq_38, kq_39, kq_40, kq_41, kq_42, kq_43, kq_44, kq_45, kq_46, kq_47, kq_48, kq_49, kq_50, kq_51, kq_52, kq_53, kq_54, kq_55, kq_56, kq_57, kq_58, kq_59, kq_60, kq_61, kq_62, kq_63, kq_64, kq_65, kq_66, kq_67, kq_68, kq_69, kq_70, kq_71, kq_72, kq_73, kq_74, kq_75, kq_76, kq_77, kq_78, kq_79, kq_80, kq_81, pq_0_0, pq_0_1, pq_0_2, pq_0_3, pq_0_4, pq_0_5, pq_0_6, pq_0_7, pq_1_0, pq_1_1, pq_1_2, pq_1_3, pq_1_4, pq_1_5, pq_1_6, pq_1_7, pq_10_0, pq_10_1, pq_10_2, pq_10_3, pq_15_0, pq_17_0, pq_19_0, pq_21_0, pq_21_1, pq_21_2, pq_21_3, pq_21_4, pq_21_5, pq_28_0, pq_30_0, pq_30_1, pq_30_2, pq_31_0, pq_35_0, pq_35_1, pq_35_2, pq_36_0, pq_40_0, pq_40_1, pq_40_2, pq_41_0, pq_45_0, pq_45_1, pq_45_2, pq_46_0, pq_50_0, pq_52_0, pq_52_1, pq_52_2, pq_52_3, pq_52_4, pq_52_5, pq_52_6, pq_52_8, pq_52_10, pq_52_11, pq_52_14, pq_52_15, pq_52_16, pq_52_17, pq_52_18, pq_52_27, pq_52_29, pq_52_30, pq_52_31, pq_52_32, pq_52_33, pq_52_34, pq_52_35, pq_52_36, pq_52_37, pq_52_38, pq_52_39, pq_52_40, pq_52_41, aq_1, aq_11, aq_12, aq_13, aq_14, aq_16, aq_18, aq_20, aq_22, aq_23, aq_24, aq_25, aq_26, aq_27, aq_29, aq_32, aq_33, aq_34, aq_37, aq_38, aq_39, aq_42, aq_43, aq_44, aq_47, aq_48, aq_49, aq_51, aq_53, aq_54, aq_55, aq_56, aq_57, aq_58, aq_59, aq_60, aq_61, aq_62, aq_63, aq_64, aq_65, aq_66, aq_67, aq_68, aq_69, aq_70, aq_71, aq_72, aq_73, aq_74, aq_75, aq_76, aq_77, aq_78, aq_79, aq_80, aq_81]
    · unfold erS; rw [if_pos (Or.inl hx)]; exact hE'
  by_cases hy : cn S 3 = 0
  · have hy' : nI (cn S 3) = 0 := by rw [hy]; rfl
    refine ⟨z, ?_, ?_, fun _ _ _ => rfl, fun _ _ _ => rfl⟩
    · simp only [F_69, B_69_26, ip, cp, (prt hpt).1, (prt hpt).2, g2, hx, t3, hy', dg_1, db_1, db_0, dl_1, dp_1, dv_1, dv_x, di_1, di_x, dw_1, ec_eq, ec_ne, ec_lt, ec_ge, ec_gt, ec_le, hq_z, hq_wz, hq_wc, hq_thr, hq_p29, hq_pw, eq_self, decide_true, decide_false, not_true_eq_false, not_false_eq_true, kq_0, kq_1, kq_2, kq_3, kq_4, kq_5, kq_6, kq_7, kq_8, kq_9, kq_10, kq_11, kq_12, kq_13, kq_14, kq_15, kq_16, kq_17, kq_18, kq_19, kq_20, kq_21, kq_22, kq_23, kq_24, kq_25, kq_26, kq_27, kq_28, kq_29, kq_30, kq_31, kq_32, kq_33, kq_34, kq_35, kq_36, kq_37, kq_38, kq_39, kq_40, kq_41, kq_42, kq_43, kq_44, kq_45, kq_46, kq_47, kq_48, kq_49, kq_50, kq_51, kq_52, kq_53, kq_54, kq_55, kq_56, kq_57, kq_58, kq_59, kq_60, kq_61, kq_62, kq_63, kq_64, kq_65, kq_66, kq_67, kq_68, kq_69, kq_70, kq_71, kq_72, kq_73, kq_74, kq_75, kq_76, kq_77, kq_78, kq_79, kq_80, kq_81, pq_0_0, pq_0_1, pq_0_2, pq_0_3, pq_0_4, pq_0_5, pq_0_6, pq_0_7, pq_1_0, pq_1_1, pq_1_2, pq_1_3, pq_1_4, pq_1_5, pq_1_6, pq_1_7, pq_10_0, pq_10_1, pq_10_2, pq_10_3, pq_15_0, pq_17_0, pq_19_0, pq_21_0, pq_21_1, pq_21_2, pq_21_3, pq_21_4, pq_21_5, pq_28_0, pq_30_0, pq_30_1, pq_30_2, pq_31_0, pq_35_0, pq_35_1, pq_35_2, pq_36_0, pq_40_0, pq_40_1, pq_40_2, pq_41_0, pq_45_0, pq_45_1, pq_45_2, pq_46_0, pq_50_0, pq_52_0, pq_52_1, pq_52_2, pq_52_3, pq_52_4, pq_52_5, pq_52_6, pq_52_8, pq_52_10, pq_52_11, pq_52_14, pq_52_15, pq_52_16, pq_52_17, pq_52_18, pq_52_27, pq_52_29, pq_52_30, pq_52_31, pq_52_32, pq_52_33, pq_52_34, pq_52_35, pq_52_36, pq_52_37, pq_52_38, pq_52_39, pq_52_40, pq_52_41, aq_1, aq_11, aq_12, aq_13, aq_14, aq_16, aq_18, aq_20, aq_22, aq_23, aq_24, aq_25, aq_26, aq_27, aq_29, aq_32, aq_33, aq_34, aq_37, aq_38, aq_39, aq_42, aq_43, aq_44, aq_47, aq_48, aq_49, aq_51, aq_53, aq_54, aq_55, aq_56, aq_57, aq_58, aq_59, aq_60, aq_61, aq_62, aq_63, aq_64, aq_65, aq_66, aq_67, aq_68, aq_69, aq_70, aq_71, aq_72, aq_73, aq_74, aq_75, aq_76, aq_77, aq_78, aq_79, aq_80, aq_81]
    · unfold erS; rw [if_pos (Or.inr (Or.inl hy))]; exact hE'
  have hy' : ¬ nI (cn S 3) = 0 := nI_ne0 (by omega) (by omega)
  by_cases hz : mayE P q
  case neg =>
    rw [if_neg hz] at q24
    refine ⟨z, ?_, ?_, fun _ _ _ => rfl, fun _ _ _ => rfl⟩
    · simp only [F_69, B_69_26, ip, cp, (prt hpt).1, (prt hpt).2, g2, hx, t3, hy', (hp _ _ _ _).1, q24, dg_1, db_1, db_0, dl_1, dp_1, dv_1, dv_x, di_1, di_x, dw_1, ec_eq, ec_ne, ec_lt, ec_ge, ec_gt, ec_le, hq_z, hq_wz, hq_wc, hq_thr, hq_p29, hq_pw, eq_self, decide_true, decide_false, not_true_eq_false, not_false_eq_true, kq_0, kq_1, kq_2, kq_3, kq_4, kq_5, kq_6, kq_7, kq_8, kq_9, kq_10, kq_11, kq_12, kq_13, kq_14, kq_15, kq_16, kq_17, kq_18, kq_19, kq_20, kq_21, kq_22, kq_23, kq_24, kq_25, kq_26, kq_27, kq_28, kq_29, kq_30, kq_31, kq_32, kq_33, kq_34, kq_35, kq_36, kq_37, kq_38, kq_39, kq_40, kq_41, kq_42, kq_43, kq_44, kq_45, kq_46, kq_47, kq_48, kq_49, kq_50, kq_51, kq_52, kq_53, kq_54, kq_55, kq_56, kq_57, kq_58, kq_59, kq_60, kq_61, kq_62, kq_63, kq_64, kq_65, kq_66, kq_67, kq_68, kq_69, kq_70, kq_71, kq_72, kq_73, kq_74, kq_75, kq_76, kq_77, kq_78, kq_79, kq_80, kq_81, pq_0_0, pq_0_1, pq_0_2, pq_0_3, pq_0_4, pq_0_5, pq_0_6, pq_0_7, pq_1_0, pq_1_1, pq_1_2, pq_1_3, pq_1_4, pq_1_5, pq_1_6, pq_1_7, pq_10_0, pq_10_1, pq_10_2, pq_10_3, pq_15_0, pq_17_0, pq_19_0, pq_21_0, pq_21_1, pq_21_2, pq_21_3, pq_21_4, pq_21_5, pq_28_0, pq_30_0, pq_30_1, pq_30_2, pq_31_0, pq_35_0, pq_35_1, pq_35_2, pq_36_0, pq_40_0, pq_40_1, pq_40_2, pq_41_0, pq_45_0, pq_45_1, pq_45_2, pq_46_0, pq_50_0, pq_52_0, pq_52_1, pq_52_2, pq_52_3, pq_52_4, pq_52_5, pq_52_6, pq_52_8, pq_52_10, pq_52_11, pq_52_14, pq_52_15, pq_52_16, pq_52_17, pq_52_18, pq_52_27, pq_52_29, pq_52_30, pq_52_31, pq_52_32, pq_52_33, pq_52_34, pq_52_35, pq_52_36, pq_52_37, pq_52_38, pq_52_39, pq_52_40, pq_52_41, aq_1, aq_11, aq_12, aq_13, aq_14, aq_16, aq_18, aq_20, aq_22, aq_23, aq_24, aq_25, aq_26, aq_27, aq_29, aq_32, aq_33, aq_34, aq_37, aq_38, aq_39, aq_42, aq_43, aq_44, aq_47, aq_48, aq_49, aq_51, aq_53, aq_54, aq_55, aq_56, aq_57, aq_58, aq_59, aq_60, aq_61, aq_62, aq_63, aq_64, aq_65, aq_66, aq_67, aq_68, aq_69, aq_70, aq_71, aq_72, aq_73, aq_74, aq_75, aq_76, aq_77, aq_78, aq_79, aq_80, aq_81]
    · unfold erS; rw [if_pos (Or.inr (Or.inr hz))]; exact hE'
  rw [if_pos hz] at q24
  have t3' : nI (cn S 3) - 1 = nI (cn S 3 - 1) := nI_subN (b := 1) (by omega)
  obtain ⟨z1, e1⟩ : ∃ x, x = va_up z 0 (upd (z 0) 8 (nI (cn S 3 - 1))) := ⟨_, rfl⟩
  have n1 : ∀ a, a ≠ 0 → z1 a = z a := fun a ha => by rw [e1, va_up_ne _ _ ha]
  have hP1 : cb z1 r M P := ⟨hP.1, fun i hi => by rw [n1 r (by omega)]; exact hP.2 i hi⟩
  have q8 := n8 (f := f) (w := w) (c := c) (s := s) hp hP1 hM hN (by omega)
  have q10 := n10 (f := f) (w := w) (c := c) (s := s) hp hP1 hM hN (by omega) hl2
  have k20 : ∀ z, hp_k (hq z w c s) 20 = some (65, 4020) := fun z => kq_20
  obtain ⟨V, eV⟩ : ∃ x, x = ty * 16777216 + co * 65536 := ⟨_, rfl⟩
  have hV : V < 2 ^ 32 := by omega
  have v1 : nI ty <<< ((24 : Int32) &&& 31) ||| nI co <<< ((16 : Int32) &&& 31) = nI V := by
    rw [c24, c16, (nI_shl ty).2.2, (nI_shl co).2.1, nI_orN (by omega) (by omega), eV]
    exact congrArg nI (or_N (a := ty) (k := 24) (by omega))
  obtain ⟨z2, e2⟩ : ∃ x, x = va_up z1 20 (w4 (z1 20) 20 (nI V)) := ⟨_, rfl⟩
  obtain ⟨z3, e3⟩ : ∃ x, x = va_up z2 20 (w4 (z2 20) 24 (nI re)) := ⟨_, rfl⟩
  obtain ⟨z4, e4⟩ : ∃ x, x = cpz z3 20 r 0 28 (hl P + q) := ⟨_, rfl⟩
  have n3 : ∀ a, a ≠ 20 → z3 a = z1 a := fun a ha => by rw [e3, va_up_ne _ _ ha, e2, va_up_ne _ _ ha]
  have n4' : ∀ a, a ≠ 20 → z4 a = z1 a := fun a ha => by rw [e4, cpz_ne ha, n3 a ha]
  have qa : F_122 f 20 20 (nI V) (hq z1 w c s) = some (.inl none, hq z2 w c s) := by rw [e2]; exact t122 (t := 20) (N := 4020) k20 (by omega) (by omega)
  have qb : F_122 f 20 24 (nI re) (hq z2 w c s) = some (.inl none, hq z3 w c s) := by rw [e3]; exact t122 (t := 24) (N := 4020) k20 (by omega) (by omega)
  have x8 : (if nI (n2 P 2 - hl P) < (8 : Int32) then nI (n2 P 2 - hl P) else 8) = nI q := by
    by_cases h : n2 P 2 - hl P < 8
    · rw [if_pos (show nI (n2 P 2 - hl P) < (8 : Int32) from nI_lt (b := 8) h (by omega)), hq8, if_pos h]
    · rw [if_neg (show ¬ nI (n2 P 2 - hl P) < (8 : Int32) from nI_nlt (b := 8) (by omega) (by omega)), hq8, if_neg h]; rfl
  have ca : acb 65 (hq z3 w c s) r 0 20 28 (nI (hl P + q)) = true := acb_n (u := 0) (v := 28) (hp _ _ _ _).2.2 kq_20 (by omega) (by omega) (by omega) (by omega)
  have wa : wc (hq z3 w c s) r 0 20 28 (nI (hl P + q)) = hq z4 w c s := by rw [e4]; exact hq_cp (u := 0) (v := 28) (by omega) (by omega) (by omega)
  have hP4 : cb z4 r M P := ⟨hP.1, fun i hi => by rw [n4' r (by omega)]; exact hP1.2 i hi⟩
  have q18 := n18 (f := f) (w := w) (c := c) (s := s) hp hP4 hM hN (by omega)
  have hmt := mtN_e hW' hpt
  have had := adN_e S p
  have b20 : ∀ i, br (z3 20 i) := by
    rw [e3, va_up_self]; apply br_w4; rw [e2, va_up_self]; apply br_w4; rw [n1 20 (by omega)]; exact E5
  have hE4 : cE (tkS S) z4 := by
    refine ⟨fun i hi => ?_, ?_, ?_, ?_, ?_, ?_⟩
    · rw [n4' (2 + i) (by omega), n1 (2 + i) (by omega), tkS_k (by omega), tkS_k (by omega), tkS_k (by omega)]; exact E1 i hi
    · rw [n4' 0 (by omega), e1, va_up_self, pk_us, tkS_33]
    · rw [n4' 0 (by omega), e1, va_up_self, pk_un (by omega), tkS_3 (by omega)]; exact E3
    · rw [tkS_c (by omega)]
      exact OB_S E4 (tkS_3 (by omega)) (tkS_3 (by omega)) (fun k _ _ => tkS_k (by omega)) (fun a h3 h4 => by
        by_cases h : a = 20
        · omega
        · rw [n4' a h, n1 a (by omega)])
    · rw [e4]; exact br_cpz b20 (by rw [n3 r (by omega), n1 r (by omega)]; exact hr)
    · rw [n4' 27 (by omega), n1 27 (by omega)]; exact E6
  have hb4 : ∀ i, i < 8 + (hl P + q) → bz z4 20 (20 + i) = erD P ty co re i := by
    intro i hi
    rw [e4, bz_cpz]
    unfold erD
    by_cases h : i < 8
    · rw [if_neg (by omega), if_pos h, e3, bz_w4 hre, e2, bz_w4 hV, eV]
      by_cases h4 : 4 ≤ i
      · exact bu4_sh (u := 20) (t := 4) h4 (by omega)
      · rw [bu4_ne (by omega), bu4_ne (t := 4) (by omega)]
        exact bu4_sh (u := 20) (t := 0) (by omega) (by omega)
    · rw [if_pos (by omega), if_neg h, show 0 + (20 + i - 28) = i - 8 by omega]
      exact bz_of (hP.1 _) (by rw [n3 r (by omega)]; exact hP1.2 _ (by omega))
  obtain ⟨z5, k1, k2, k3, k4⟩ := n71 (f := f) (w := w) (c := c) (s := s) (S := tkS S) (p := p) (len := 8 + (hl P + q)) (src := adN S p) (dst := n4 P 12) (m := mtN S p) (D := erD P ty co re) hE4 (tkS_W hW') hpt (by omega) (by omega) (by rw [tkS_k (by omega)]; exact hmt.1) hmt.2.1 hmt.2.2 had.2 (n4_lt hP.1 12) (erD_lt hP.1 _ _ _) hb4 (by rw [tkS_c (by omega), tkS_c (by omega)]; exact cap_e h2 (by omega) hmt.2.1 (by omega)) hf
  have x9 : (8 : Int32) + nI (hl P + q) = nI (8 + (hl P + q)) := nI_add 8 _
  have xa : z4 (2 + p) 0 = nI (adN S p) := by rw [n4' (2 + p) (by omega), n1 (2 + p) (by omega), (E1 p hpt).1]; exact had.1
  refine ⟨z5, ?_, ?_, fun a h0 ha => by rw [k3 a h0 ha, n4' a (by omega), n1 a h0], fun k h8 h9 => by rw [k4 k h9, n4' 0 (by omega), e1, va_up_self, pk_un h8]⟩
  · simp only [F_69, ip, cp, (prt hpt).1, (prt hpt).2, g2, hx, t3, hy', (hp _ _ _ _).1, (hp _ _ _ _).2.1, q24, show ¬ (1 : Int32) = 0 by decide, t3', ← e1, q8, q10, x8, nI_add (hl P) q, v1, qa, qb, ca, wa, xa, q18, x9, k1, dg_1, db_1, db_0, dl_1, dp_1, dv_1, dv_x, di_1, di_x, dw_1, ec_eq, ec_ne, ec_lt, ec_ge, ec_gt, ec_le, hq_z, hq_wz, hq_thr, hq_p29, hq_pw, eq_self, decide_true, decide_false, not_true_eq_false, not_false_eq_true, kq_0, kq_1, kq_2, kq_3, kq_4, kq_5, kq_6, kq_7, kq_8, kq_9, kq_10, kq_11, kq_12, kq_13, kq_14, kq_15, kq_16, kq_17, kq_18, kq_19, kq_20, kq_21, kq_22, kq_23, kq_24, kq_25, kq_26, kq_27, kq_28, kq_29, kq_30, kq_31, kq_32, kq_33, kq_34, kq_35, kq_36, kq_37, kq_38, kq_39, kq_40, kq_41, kq_42, kq_43, kq_44, kq_45, kq_46, kq_47, kq_48, kq_49, kq_50, kq_51, kq_52, kq_53, kq_54, kq_55, kq_56, kq_57, kq_58, kq_59, kq_60, kq_61, kq_62, kq_63, kq_64, kq_65, kq_66, kq_67, kq_68, kq_69, kq_70, kq_71, kq_72, kq_73, kq_74, kq_75, kq_76, kq_77, kq_78, kq_79, kq_80, kq_81, pq_0_0, pq_0_1, pq_0_2, pq_0_3, pq_0_4, pq_0_5, pq_0_6, pq_0_7, pq_1_0, pq_1_1, pq_1_2, pq_1_3, pq_1_4, pq_1_5, pq_1_6, pq_1_7, pq_10_0, pq_10_1, pq_10_2, pq_10_3, pq_15_0, pq_17_0, pq_19_0, pq_21_0, pq_21_1, pq_21_2, pq_21_3, pq_21_4, pq_21_5, pq_28_0, pq_30_0, pq_30_1, pq_30_2, pq_31_0, pq_35_0, pq_35_1, pq_35_2, pq_36_0, pq_40_0, pq_40_1, pq_40_2, pq_41_0, pq_45_0, pq_45_1, pq_45_2, pq_46_0, pq_50_0, pq_52_0, pq_52_1, pq_52_2, pq_52_3, pq_52_4, pq_52_5, pq_52_6, pq_52_8, pq_52_10, pq_52_11, pq_52_14, pq_52_15, pq_52_16, pq_52_17, pq_52_18, pq_52_27, pq_52_29, pq_52_30, pq_52_31, pq_52_32, pq_52_33, pq_52_34, pq_52_35, pq_52_36, pq_52_37, pq_52_38, pq_52_39, pq_52_40, pq_52_41, aq_1, aq_11, aq_12, aq_13, aq_14, aq_16, aq_18, aq_20, aq_22, aq_23, aq_24, aq_25, aq_26, aq_27, aq_29, aq_32, aq_33, aq_34, aq_37, aq_38, aq_39, aq_42, aq_43, aq_44, aq_47, aq_48, aq_49, aq_51, aq_53, aq_54, aq_55, aq_56, aq_57, aq_58, aq_59, aq_60, aq_61, aq_62, aq_63, aq_64, aq_65, aq_66, aq_67, aq_68, aq_69, aq_70, aq_71, aq_72, aq_73, aq_74, aq_75, aq_76, aq_77, aq_78, aq_79, aq_80, aq_81]
  · unfold erS
    rw [if_neg (by intro h; rcases h with h | h | h; exact hx h; exact hy h; exact h hz)]
    rw [tkS_c (by omega)] at k2
    exact k2
end Err65
