section Ops8
variable {z z' : Nat → Nat → Int32} {w : Nat → Option Nat} {c s n f : Nat} {x y m : Int32} {S S' : St9} {h : hp_T}
-- the first place with this beginning and this many bits
def fnd (bn bt : Nat → Int32) (v l : Int32) : Nat → Nat → Int32
  | 0, _ => -1
  | g + 1, i => if bt i = l ∧ bn i = v then nI i else fnd bn bt v l g (i + 1)
theorem fnd_ok {bn bt : Nat → Int32} {v l : Int32} {n : Nat} : ∀ (r i : Nat), i + r ≤ n → bok (fnd bn bt v l r i) n := by
  intro r
  induction r with
  | zero => intro i _; exact Or.inl rfl
  | succ r ih =>
    intro i hi
    unfold fnd
    split
    · exact Or.inr ⟨i, by omega, rfl⟩
    · exact ih (i + 1) (by omega)
theorem fnd_eq {bn bt bn' bt' : Nat → Int32} {v l : Int32} {n : Nat} (h1 : ∀ i, i < n → bn i = bn' i) (h2 : ∀ i, i < n → bt i = bt' i) : ∀ (r i : Nat), i + r ≤ n → fnd bn bt v l r i = fnd bn' bt' v l r i := by
  intro r
  induction r with
  | zero => intro i _; rfl
  | succ r ih =>
    intro i hi
    unfold fnd
    rw [h1 i (by omega), h2 i (by omega), ih (i + 1) (by omega)]
theorem t28_l {nR : Nat} {a l v : Int32} (hR : nR ≤ 400) (hz : z 10 4 = nI nR) : ∀ (r i : Nat) (g : Nat), i + r = nR → r < g → B_28_9 f g 10 l v (nI i) (hq z w c s) = some (.inl (some (.int (fnd (z 11) (z 12) v l r i))), hq z w c s) := by
  intro r
  induction r with
  | zero =>
    intro i g hi hg
    obtain ⟨g, rfl⟩ : ∃ e, g = e + 1 := ⟨g - 1, by omega⟩
    have h1 : nI nR ≤ nI i := (nI_leI (by omega) (by omega)).mpr (by omega)
    simp only [B_28_9, hz, h1, fnd, dg_1, db_1, db_0, dl_1, dp_1, dv_1, dv_x, di_1, di_x, dw_1, ec_eq, ec_ne, ec_lt, ec_ge, ec_gt, ec_le, hq_z, hq_wz, hq_wc, hq_thr, hq_p29, hq_pw, eq_self, decide_true, decide_false, not_true_eq_false, not_false_eq_true, kq_0, kq_1, kq_2, kq_3, kq_4, kq_5, kq_6, kq_7, kq_8, kq_9, kq_10, kq_11, kq_12, kq_13, kq_14, kq_15, kq_16, kq_17, kq_18, kq_19, kq_20, kq_21, kq_22, kq_23, kq_24, kq_25, kq_26, kq_27, kq_28, kq_29, kq_30, kq_31, kq_32, kq_33, kq_34, kq_35, kq_36, kq_37, kq_38, kq_39, kq_40, kq_41, kq_42, kq_43, kq_44, kq_45, kq_46, kq_47, kq_48, kq_49, kq_50, kq_51, kq_52, kq_53, kq_54, kq_55, kq_56, kq_57, kq_58, kq_59, kq_60, kq_61, kq_62, kq_63, kq_64, kq_65, kq_66, kq_67, kq_68, kq_69, kq_70, kq_71, kq_72, kq_73, kq_74, kq_75, kq_76, kq_77, kq_78, kq_79, kq_80, kq_81, pq_0_0, pq_0_1, pq_0_2, pq_0_3, pq_0_4, pq_0_5, pq_0_6, pq_0_7, pq_1_0, pq_1_1, pq_1_2, pq_1_3, pq_1_4, pq_1_5, pq_1_6, pq_1_7, pq_10_0, pq_10_1, pq_10_2, pq_10_3, pq_15_0, pq_17_0, pq_19_0, pq_21_0, pq_21_1, pq_21_2, pq_21_3, pq_21_4, pq_21_5, pq_28_0, pq_30_0, pq_30_1, pq_30_2, pq_31_0, pq_35_0, pq_35_1, pq_35_2, pq_36_0, pq_40_0, pq_40_1, pq_40_2, pq_41_0, pq_45_0, pq_45_1, pq_45_2, pq_46_0, pq_50_0, pq_52_0, pq_52_1, pq_52_2, pq_52_3, pq_52_4, pq_52_5, pq_52_6, pq_52_8, pq_52_10, pq_52_11, pq_52_14, pq_52_15, pq_52_16, pq_52_17, pq_52_18, pq_52_27, pq_52_29, pq_52_30, pq_52_31, pq_52_32, pq_52_33, pq_52_34, pq_52_35, pq_52_36, pq_52_37, pq_52_38, pq_52_39, pq_52_40, pq_52_41, aq_1, aq_11, aq_12, aq_13, aq_14, aq_16, aq_18, aq_20, aq_22, aq_23, aq_24, aq_25, aq_26, aq_27, aq_29, aq_32, aq_33, aq_34, aq_37, aq_38, aq_39, aq_42, aq_43, aq_44, aq_47, aq_48, aq_49, aq_51, aq_53, aq_54, aq_55, aq_56, aq_57, aq_58, aq_59, aq_60, aq_61, aq_62, aq_63, aq_64, aq_65, aq_66, aq_67, aq_68, aq_69, aq_70, aq_71, aq_72, aq_73, aq_74, aq_75, aq_76, aq_77, aq_78, aq_79, aq_80, aq_81]
  | succ r ih =>
    intro i g hi hg
    obtain ⟨g, rfl⟩ : ∃ e, g = e + 1 := ⟨g - 1, by omega⟩
    have h1 : ¬ nI nR ≤ nI i := fun h9 => by have := (nI_leI (a := nR) (b := i) (by omega) (by omega)).mp h9; omega
    have h2 : ev_in (nI i) 400 = true := ev_in_nI (by omega) (by omega)
    have h3 : (nI i).toNatClampNeg = i := nI_clamp (by omega)
    have ih1 := ih (i + 1) g (by omega) (by omega)
    by_cases h4 : z 12 i = l
    · by_cases h5 : z 11 i = v
      · rw [show fnd (z 11) (z 12) v l (r + 1) i = nI i by rw [fnd, if_pos ⟨h4, h5⟩]]
        simp only [B_28_9, B_28_43, hz, h1, h2, h3, h4, h5, dg_1, db_1, db_0, dl_1, dp_1, dv_1, dv_x, di_1, di_x, dw_1, ec_eq, ec_ne, ec_lt, ec_ge, ec_gt, ec_le, hq_z, hq_wz, hq_wc, hq_thr, hq_p29, hq_pw, eq_self, decide_true, decide_false, not_true_eq_false, not_false_eq_true, kq_0, kq_1, kq_2, kq_3, kq_4, kq_5, kq_6, kq_7, kq_8, kq_9, kq_10, kq_11, kq_12, kq_13, kq_14, kq_15, kq_16, kq_17, kq_18, kq_19, kq_20, kq_21, kq_22, kq_23, kq_24, kq_25, kq_26, kq_27, kq_28, kq_29, kq_30, kq_31, kq_32, kq_33, kq_34, kq_35, kq_36, kq_37, kq_38, kq_39, kq_40, kq_41, kq_42, kq_43, kq_44, kq_45, kq_46, kq_47, kq_48, kq_49, kq_50, kq_51, kq_52, kq_53, kq_54, kq_55, kq_56, kq_57, kq_58, kq_59, kq_60, kq_61, kq_62, kq_63, kq_64, kq_65, kq_66, kq_67, kq_68, kq_69, kq_70, kq_71, kq_72, kq_73, kq_74, kq_75, kq_76, kq_77, kq_78, kq_79, kq_80, kq_81, pq_0_0, pq_0_1, pq_0_2, pq_0_3, pq_0_4, pq_0_5, pq_0_6, pq_0_7, pq_1_0, pq_1_1, pq_1_2, pq_1_3, pq_1_4, pq_1_5, pq_1_6, pq_1_7, pq_10_0, pq_10_1, pq_10_2, pq_10_3, pq_15_0, pq_17_0, pq_19_0, pq_21_0, pq_21_1, pq_21_2, pq_21_3, pq_21_4, pq_21_5, pq_28_0, pq_30_0, pq_30_1, pq_30_2, pq_31_0, pq_35_0, pq_35_1, pq_35_2, pq_36_0, pq_40_0, pq_40_1, pq_40_2, pq_41_0, pq_45_0, pq_45_1, pq_45_2, pq_46_0, pq_50_0, pq_52_0, pq_52_1, pq_52_2, pq_52_3, pq_52_4, pq_52_5, pq_52_6, pq_52_8, pq_52_10, pq_52_11, pq_52_14, pq_52_15, pq_52_16, pq_52_17, pq_52_18, pq_52_27, pq_52_29, pq_52_30, pq_52_31, pq_52_32, pq_52_33, pq_52_34, pq_52_35, pq_52_36, pq_52_37, pq_52_38, pq_52_39, pq_52_40, pq_52_41, aq_1, aq_11, aq_12, aq_13, aq_14, aq_16, aq_18, aq_20, aq_22, aq_23, aq_24, aq_25, aq_26, aq_27, aq_29, aq_32, aq_33, aq_34, aq_37, aq_38, aq_39, aq_42, aq_43, aq_44, aq_47, aq_48, aq_49, aq_51, aq_53, aq_54, aq_55, aq_56, aq_57, aq_58, aq_59, aq_60, aq_61, aq_62, aq_63, aq_64, aq_65, aq_66, aq_67, aq_68, aq_69, aq_70, aq_71, aq_72, aq_73, aq_74, aq_75, aq_76, aq_77, aq_78, aq_79, aq_80, aq_81]
      · rw [show fnd (z 11) (z 12) v l (r + 1) i = fnd (z 11) (z 12) v l r (i + 1) by rw [fnd, if_neg (fun h => h5 h.2)]]
        simp only [B_28_9, B_28_43, hz, h1, h2, h3, h4, h5, nI_1, ih1, dg_1, db_1, db_0, dl_1, dp_1, dv_1, dv_x, di_1, di_x, dw_1, ec_eq, ec_ne, ec_lt, ec_ge, ec_gt, ec_le, hq_z, hq_wz, hq_wc, hq_thr, hq_p29, hq_pw, eq_self, decide_true, decide_false, not_true_eq_false, not_false_eq_true, kq_0, kq_1, kq_2, kq_3, kq_4, kq_5, kq_6, kq_7, kq_8, kq_9, kq_10, kq_11, kq_12, kq_13, kq_14, kq_15, kq_16, kq_17, kq_18, kq_19, kq_20, kq_21, kq_22, kq_23, kq_24, kq_25, kq_26, kq_27, kq_28, kq_29, kq_30, kq_31, kq_32, kq_33, kq_34, kq_35, kq_36, kq_37, kq_38, kq_39, kq_40, kq_41, kq_42, kq_43, kq_44, kq_45, kq_46, kq_47, kq_48, kq_49, kq_50, kq_51, kq_52, kq_53, kq_54, kq_55, kq_56, kq_57, kq_58, kq_59, kq_60, kq_61, kq_62, kq_63, kq_64, kq_65, kq_66, kq_67, kq_68, kq_69, kq_70, kq_71, kq_72, kq_73, kq_74, kq_75, kq_76, kq_77, kq_78, kq_79, kq_80, kq_81, pq_0_0, pq_0_1, pq_0_2, pq_0_3, pq_0_4, pq_0_5, pq_0_6, pq_0_7, pq_1_0, pq_1_1, pq_1_2, pq_1_3, pq_1_4, pq_1_5, pq_1_6, pq_1_7, pq_10_0, pq_10_1, pq_10_2, pq_10_3, pq_15_0, pq_17_0, pq_19_0, pq_21_0, pq_21_1, pq_21_2, pq_21_3, pq_21_4, pq_21_5, pq_28_0, pq_30_0, pq_30_1, pq_30_2, pq_31_0, pq_35_0, pq_35_1, pq_35_2, pq_36_0, pq_40_0, pq_40_1, pq_40_2, pq_41_0, pq_45_0, pq_45_1, pq_45_2, pq_46_0, pq_50_0, pq_52_0, pq_52_1, pq_52_2, pq_52_3, pq_52_4, pq_52_5, pq_52_6, pq_52_8, pq_52_10, pq_52_11, pq_52_14, pq_52_15, pq_52_16, pq_52_17, pq_52_18, pq_52_27, pq_52_29, pq_52_30, pq_52_31, pq_52_32, pq_52_33, pq_52_34, pq_52_35, pq_52_36, pq_52_37, pq_52_38, pq_52_39, pq_52_40, pq_52_41, aq_1, aq_11, aq_12, aq_13, aq_14, aq_16, aq_18, aq_20, aq_22, aq_23, aq_24, aq_25, aq_26, aq_27, aq_29, aq_32, aq_33, aq_34, aq_37, aq_38, aq_39, aq_42, aq_43, aq_44, aq_47, aq_48, aq_49, aq_51, aq_53, aq_54, aq_55, aq_56, aq_57, aq_58, aq_59, aq_60, aq_61, aq_62, aq_63, aq_64, aq_65, aq_66, aq_67, aq_68, aq_69, aq_70, aq_71, aq_72, aq_73, aq_74, aq_75, aq_76, aq_77, aq_78, aq_79, aq_80, aq_81]
    · rw [show fnd (z 11) (z 12) v l (r + 1) i = fnd (z 11) (z 12) v l r (i + 1) by rw [fnd, if_neg (fun h => h4 h.1)]]
      simp only [B_28_9, B_28_43, hz, h1, h2, h3, h4, nI_1, ih1, dg_1, db_1, db_0, dl_1, dp_1, dv_1, dv_x, di_1, di_x, dw_1, ec_eq, ec_ne, ec_lt, ec_ge, ec_gt, ec_le, hq_z, hq_wz, hq_wc, hq_thr, hq_p29, hq_pw, eq_self, decide_true, decide_false, not_true_eq_false, not_false_eq_true, kq_0, kq_1, kq_2, kq_3, kq_4, kq_5, kq_6, kq_7, kq_8, kq_9, kq_10, kq_11, kq_12, kq_13, kq_14, kq_15, kq_16, kq_17, kq_18, kq_19, kq_20, kq_21, kq_22, kq_23, kq_24, kq_25, kq_26, kq_27, kq_28, kq_29, kq_30, kq_31, kq_32, kq_33, kq_34, kq_35, kq_36, kq_37, kq_38, kq_39, kq_40, kq_41, kq_42, kq_43, kq_44, kq_45, kq_46, kq_47, kq_48, kq_49, kq_50, kq_51, kq_52, kq_53, kq_54, kq_55, kq_56, kq_57, kq_58, kq_59, kq_60, kq_61, kq_62, kq_63, kq_64, kq_65, kq_66, kq_67, kq_68, kq_69, kq_70, kq_71, kq_72, kq_73, kq_74, kq_75, kq_76, kq_77, kq_78, kq_79, kq_80, kq_81, pq_0_0, pq_0_1, pq_0_2, pq_0_3, pq_0_4, pq_0_5, pq_0_6, pq_0_7, pq_1_0, pq_1_1, pq_1_2, pq_1_3, pq_1_4, pq_1_5, pq_1_6, pq_1_7, pq_10_0, pq_10_1, pq_10_2, pq_10_3, pq_15_0, pq_17_0, pq_19_0, pq_21_0, pq_21_1, pq_21_2, pq_21_3, pq_21_4, pq_21_5, pq_28_0, pq_30_0, pq_30_1, pq_30_2, pq_31_0, pq_35_0, pq_35_1, pq_35_2, pq_36_0, pq_40_0, pq_40_1, pq_40_2, pq_41_0, pq_45_0, pq_45_1, pq_45_2, pq_46_0, pq_50_0, pq_52_0, pq_52_1, pq_52_2, pq_52_3, pq_52_4, pq_52_5, pq_52_6, pq_52_8, pq_52_10, pq_52_11, pq_52_14, pq_52_15, pq_52_16, pq_52_17, pq_52_18, pq_52_27, pq_52_29, pq_52_30, pq_52_31, pq_52_32, pq_52_33, pq_52_34, pq_52_35, pq_52_36, pq_52_37, pq_52_38, pq_52_39, pq_52_40, pq_52_41, aq_1, aq_11, aq_12, aq_13, aq_14, aq_16, aq_18, aq_20, aq_22, aq_23, aq_24, aq_25, aq_26, aq_27, aq_29, aq_32, aq_33, aq_34, aq_37, aq_38, aq_39, aq_42, aq_43, aq_44, aq_47, aq_48, aq_49, aq_51, aq_53, aq_54, aq_55, aq_56, aq_57, aq_58, aq_59, aq_60, aq_61, aq_62, aq_63, aq_64, aq_65, aq_66, aq_67, aq_68, aq_69, aq_70, aq_71, aq_72, aq_73, aq_74, aq_75, aq_76, aq_77, aq_78, aq_79, aq_80, aq_81]
theorem t80_l {nR : Nat} {a l v : Int32} (hR : nR ≤ 400) (hz : z 52 7 = nI nR) (hv : bgn a l = v) : ∀ (r i : Nat) (g : Nat), i + r = nR → r < g → B_80_2 f g 52 a l (nI i) (hq z w c s) = some (.inl (some (.int (fnd (z 56) (z 57) v l r i))), hq z w c s) := by
  intro r
  induction r with
  | zero =>
    intro i g hi hg
    obtain ⟨g, rfl⟩ : ∃ e, g = e + 1 := ⟨g - 1, by omega⟩
    have h1 : nI nR ≤ nI i := (nI_leI (by omega) (by omega)).mpr (by omega)
    simp only [B_80_2, hz, h1, fnd, dg_1, db_1, db_0, dl_1, dp_1, dv_1, dv_x, di_1, di_x, dw_1, ec_eq, ec_ne, ec_lt, ec_ge, ec_gt, ec_le, hq_z, hq_wz, hq_wc, hq_thr, hq_p29, hq_pw, eq_self, decide_true, decide_false, not_true_eq_false, not_false_eq_true, kq_0, kq_1, kq_2, kq_3, kq_4, kq_5, kq_6, kq_7, kq_8, kq_9, kq_10, kq_11, kq_12, kq_13, kq_14, kq_15, kq_16, kq_17, kq_18, kq_19, kq_20, kq_21, kq_22, kq_23, kq_24, kq_25, kq_26, kq_27, kq_28, kq_29, kq_30, kq_31, kq_32, kq_33, kq_34, kq_35, kq_36, kq_37, kq_38, kq_39, kq_40, kq_41, kq_42, kq_43, kq_44, kq_45, kq_46, kq_47, kq_48, kq_49, kq_50, kq_51, kq_52, kq_53, kq_54, kq_55, kq_56, kq_57, kq_58, kq_59, kq_60, kq_61, kq_62, kq_63, kq_64, kq_65, kq_66, kq_67, kq_68, kq_69, kq_70, kq_71, kq_72, kq_73, kq_74, kq_75, kq_76, kq_77, kq_78, kq_79, kq_80, kq_81, pq_0_0, pq_0_1, pq_0_2, pq_0_3, pq_0_4, pq_0_5, pq_0_6, pq_0_7, pq_1_0, pq_1_1, pq_1_2, pq_1_3, pq_1_4, pq_1_5, pq_1_6, pq_1_7, pq_10_0, pq_10_1, pq_10_2, pq_10_3, pq_15_0, pq_17_0, pq_19_0, pq_21_0, pq_21_1, pq_21_2, pq_21_3, pq_21_4, pq_21_5, pq_28_0, pq_30_0, pq_30_1, pq_30_2, pq_31_0, pq_35_0, pq_35_1, pq_35_2, pq_36_0, pq_40_0, pq_40_1, pq_40_2, pq_41_0, pq_45_0, pq_45_1, pq_45_2, pq_46_0, pq_50_0, pq_52_0, pq_52_1, pq_52_2, pq_52_3, pq_52_4, pq_52_5, pq_52_6, pq_52_8, pq_52_10, pq_52_11, pq_52_14, pq_52_15, pq_52_16, pq_52_17, pq_52_18, pq_52_27, pq_52_29, pq_52_30, pq_52_31, pq_52_32, pq_52_33, pq_52_34, pq_52_35, pq_52_36, pq_52_37, pq_52_38, pq_52_39, pq_52_40, pq_52_41, aq_1, aq_11, aq_12, aq_13, aq_14, aq_16, aq_18, aq_20, aq_22, aq_23, aq_24, aq_25, aq_26, aq_27, aq_29, aq_32, aq_33, aq_34, aq_37, aq_38, aq_39, aq_42, aq_43, aq_44, aq_47, aq_48, aq_49, aq_51, aq_53, aq_54, aq_55, aq_56, aq_57, aq_58, aq_59, aq_60, aq_61, aq_62, aq_63, aq_64, aq_65, aq_66, aq_67, aq_68, aq_69, aq_70, aq_71, aq_72, aq_73, aq_74, aq_75, aq_76, aq_77, aq_78, aq_79, aq_80, aq_81]
  | succ r ih =>
    intro i g hi hg
    obtain ⟨g, rfl⟩ : ∃ e, g = e + 1 := ⟨g - 1, by omega⟩
    have h1 : ¬ nI nR ≤ nI i := fun h9 => by have := (nI_leI (a := nR) (b := i) (by omega) (by omega)).mp h9; omega
    have h2 : ev_in (nI i) 400 = true := ev_in_nI (by omega) (by omega)
    have h3 : (nI i).toNatClampNeg = i := nI_clamp (by omega)
    have ih1 := ih (i + 1) g (by omega) (by omega)
    by_cases h4 : z 57 i = l
    · by_cases h5 : z 56 i = v
      · rw [show fnd (z 56) (z 57) v l (r + 1) i = nI i by rw [fnd, if_pos ⟨h4, h5⟩]]
        simp only [B_80_2, B_80_36, t79, hv, hz, h1, h2, h3, h4, h5, dg_1, db_1, db_0, dl_1, dp_1, dv_1, dv_x, di_1, di_x, dw_1, ec_eq, ec_ne, ec_lt, ec_ge, ec_gt, ec_le, hq_z, hq_wz, hq_wc, hq_thr, hq_p29, hq_pw, eq_self, decide_true, decide_false, not_true_eq_false, not_false_eq_true, kq_0, kq_1, kq_2, kq_3, kq_4, kq_5, kq_6, kq_7, kq_8, kq_9, kq_10, kq_11, kq_12, kq_13, kq_14, kq_15, kq_16, kq_17, kq_18, kq_19, kq_20, kq_21, kq_22, kq_23, kq_24, kq_25, kq_26, kq_27, kq_28, kq_29, kq_30, kq_31, kq_32, kq_33, kq_34, kq_35, kq_36, kq_37, kq_38, kq_39, kq_40, kq_41, kq_42, kq_43, kq_44, kq_45, kq_46, kq_47, kq_48, kq_49, kq_50, kq_51, kq_52, kq_53, kq_54, kq_55, kq_56, kq_57, kq_58, kq_59, kq_60, kq_61, kq_62, kq_63, kq_64, kq_65, kq_66, kq_67, kq_68, kq_69, kq_70, kq_71, kq_72, kq_73, kq_74, kq_75, kq_76, kq_77, kq_78, kq_79, kq_80, kq_81, pq_0_0, pq_0_1, pq_0_2, pq_0_3, pq_0_4, pq_0_5, pq_0_6, pq_0_7, pq_1_0, pq_1_1, pq_1_2, pq_1_3, pq_1_4, pq_1_5, pq_1_6, pq_1_7, pq_10_0, pq_10_1, pq_10_2, pq_10_3, pq_15_0, pq_17_0, pq_19_0, pq_21_0, pq_21_1, pq_21_2, pq_21_3, pq_21_4, pq_21_5, pq_28_0, pq_30_0, pq_30_1, pq_30_2, pq_31_0, pq_35_0, pq_35_1, pq_35_2, pq_36_0, pq_40_0, pq_40_1, pq_40_2, pq_41_0, pq_45_0, pq_45_1, pq_45_2, pq_46_0, pq_50_0, pq_52_0, pq_52_1, pq_52_2, pq_52_3, pq_52_4, pq_52_5, pq_52_6, pq_52_8, pq_52_10, pq_52_11, pq_52_14, pq_52_15, pq_52_16, pq_52_17, pq_52_18, pq_52_27, pq_52_29, pq_52_30, pq_52_31, pq_52_32, pq_52_33, pq_52_34, pq_52_35, pq_52_36, pq_52_37, pq_52_38, pq_52_39, pq_52_40, pq_52_41, aq_1, aq_11, aq_12, aq_13, aq_14, aq_16, aq_18, aq_20, aq_22, aq_23, aq_24, aq_25, aq_26, aq_27, aq_29, aq_32, aq_33, aq_34, aq_37, aq_38, aq_39, aq_42, aq_43, aq_44, aq_47, aq_48, aq_49, aq_51, aq_53, aq_54, aq_55, aq_56, aq_57, aq_58, aq_59, aq_60, aq_61, aq_62, aq_63, aq_64, aq_65, aq_66, aq_67, aq_68, aq_69, aq_70, aq_71, aq_72, aq_73, aq_74, aq_75, aq_76, aq_77, aq_78, aq_79, aq_80, aq_81]
      · rw [show fnd (z 56) (z 57) v l (r + 1) i = fnd (z 56) (z 57) v l r (i + 1) by rw [fnd, if_neg (fun h => h5 h.2)]]
        simp only [B_80_2, B_80_36, t79, hv, hz, h1, h2, h3, h4, h5, nI_1, ih1, dg_1, db_1, db_0, dl_1, dp_1, dv_1, dv_x, di_1, di_x, dw_1, ec_eq, ec_ne, ec_lt, ec_ge, ec_gt, ec_le, hq_z, hq_wz, hq_wc, hq_thr, hq_p29, hq_pw, eq_self, decide_true, decide_false, not_true_eq_false, not_false_eq_true, kq_0, kq_1, kq_2, kq_3, kq_4, kq_5, kq_6, kq_7, kq_8, kq_9, kq_10, kq_11, kq_12, kq_13, kq_14, kq_15, kq_16, kq_17, kq_18, kq_19, kq_20, kq_21, kq_22, kq_23, kq_24, kq_25, kq_26, kq_27, kq_28, kq_29, kq_30, kq_31, kq_32, kq_33, kq_34, kq_35, kq_36, kq_37, kq_38, kq_39, kq_40, kq_41, kq_42, kq_43, kq_44, kq_45, kq_46, kq_47, kq_48, kq_49, kq_50, kq_51, kq_52, kq_53, kq_54, kq_55, kq_56, kq_57, kq_58, kq_59, kq_60, kq_61, kq_62, kq_63, kq_64, kq_65, kq_66, kq_67, kq_68, kq_69, kq_70, kq_71, kq_72, kq_73, kq_74, kq_75, kq_76, kq_77, kq_78, kq_79, kq_80, kq_81, pq_0_0, pq_0_1, pq_0_2, pq_0_3, pq_0_4, pq_0_5, pq_0_6, pq_0_7, pq_1_0, pq_1_1, pq_1_2, pq_1_3, pq_1_4, pq_1_5, pq_1_6, pq_1_7, pq_10_0, pq_10_1, pq_10_2, pq_10_3, pq_15_0, pq_17_0, pq_19_0, pq_21_0, pq_21_1, pq_21_2, pq_21_3, pq_21_4, pq_21_5, pq_28_0, pq_30_0, pq_30_1, pq_30_2, pq_31_0, pq_35_0, pq_35_1, pq_35_2, pq_36_0, pq_40_0, pq_40_1, pq_40_2, pq_41_0, pq_45_0, pq_45_1, pq_45_2, pq_46_0, pq_50_0, pq_52_0, pq_52_1, pq_52_2, pq_52_3, pq_52_4, pq_52_5, pq_52_6, pq_52_8, pq_52_10, pq_52_11, pq_52_14, pq_52_15, pq_52_16, pq_52_17, pq_52_18, pq_52_27, pq_52_29, pq_52_30, pq_52_31, pq_52_32, pq_52_33, pq_52_34, pq_52_35, pq_52_36, pq_52_37, pq_52_38, pq_52_39, pq_52_40, pq_52_41, aq_1, aq_11, aq_12, aq_13, aq_14, aq_16, aq_18, aq_20, aq_22, aq_23, aq_24, aq_25, aq_26, aq_27, aq_29, aq_32, aq_33, aq_34, aq_37, aq_38, aq_39, aq_42, aq_43, aq_44, aq_47, aq_48, aq_49, aq_51, aq_53, aq_54, aq_55, aq_56, aq_57, aq_58, aq_59, aq_60, aq_61, aq_62, aq_63, aq_64, aq_65, aq_66, aq_67, aq_68, aq_69, aq_70, aq_71, aq_72, aq_73, aq_74, aq_75, aq_76, aq_77, aq_78, aq_79, aq_80, aq_81]
    · rw [show fnd (z 56) (z 57) v l (r + 1) i = fnd (z 56) (z 57) v l r (i + 1) by rw [fnd, if_neg (fun h => h4 h.1)]]
      simp only [B_80_2, B_80_36, t79, hv, hz, h1, h2, h3, h4, nI_1, ih1, dg_1, db_1, db_0, dl_1, dp_1, dv_1, dv_x, di_1, di_x, dw_1, ec_eq, ec_ne, ec_lt, ec_ge, ec_gt, ec_le, hq_z, hq_wz, hq_wc, hq_thr, hq_p29, hq_pw, eq_self, decide_true, decide_false, not_true_eq_false, not_false_eq_true, kq_0, kq_1, kq_2, kq_3, kq_4, kq_5, kq_6, kq_7, kq_8, kq_9, kq_10, kq_11, kq_12, kq_13, kq_14, kq_15, kq_16, kq_17, kq_18, kq_19, kq_20, kq_21, kq_22, kq_23, kq_24, kq_25, kq_26, kq_27, kq_28, kq_29, kq_30, kq_31, kq_32, kq_33, kq_34, kq_35, kq_36, kq_37, kq_38, kq_39, kq_40, kq_41, kq_42, kq_43, kq_44, kq_45, kq_46, kq_47, kq_48, kq_49, kq_50, kq_51, kq_52, kq_53, kq_54, kq_55, kq_56, kq_57, kq_58, kq_59, kq_60, kq_61, kq_62, kq_63, kq_64, kq_65, kq_66, kq_67, kq_68, kq_69, kq_70, kq_71, kq_72, kq_73, kq_74, kq_75, kq_76, kq_77, kq_78, kq_79, kq_80, kq_81, pq_0_0, pq_0_1, pq_0_2, pq_0_3, pq_0_4, pq_0_5, pq_0_6, pq_0_7, pq_1_0, pq_1_1, pq_1_2, pq_1_3, pq_1_4, pq_1_5, pq_1_6, pq_1_7, pq_10_0, pq_10_1, pq_10_2, pq_10_3, pq_15_0, pq_17_0, pq_19_0, pq_21_0, pq_21_1, pq_21_2, pq_21_3, pq_21_4, pq_21_5, pq_28_0, pq_30_0, pq_30_1, pq_30_2, pq_31_0, pq_35_0, pq_35_1, pq_35_2, pq_36_0, pq_40_0, pq_40_1, pq_40_2, pq_41_0, pq_45_0, pq_45_1, pq_45_2, pq_46_0, pq_50_0, pq_52_0, pq_52_1, pq_52_2, pq_52_3, pq_52_4, pq_52_5, pq_52_6, pq_52_8, pq_52_10, pq_52_11, pq_52_14, pq_52_15, pq_52_16, pq_52_17, pq_52_18, pq_52_27, pq_52_29, pq_52_30, pq_52_31, pq_52_32, pq_52_33, pq_52_34, pq_52_35, pq_52_36, pq_52_37, pq_52_38, pq_52_39, pq_52_40, pq_52_41, aq_1, aq_11, aq_12, aq_13, aq_14, aq_16, aq_18, aq_20, aq_22, aq_23, aq_24, aq_25, aq_26, aq_27, aq_29, aq_32, aq_33, aq_34, aq_37, aq_38, aq_39, aq_42, aq_43, aq_44, aq_47, aq_48, aq_49, aq_51, aq_53, aq_54, aq_55, aq_56, aq_57, aq_58, aq_59, aq_60, aq_61, aq_62, aq_63, aq_64, aq_65, aq_66, aq_67, aq_68, aq_69, aq_70, aq_71, aq_72, aq_73, aq_74, aq_75, aq_76, aq_77, aq_78, aq_79, aq_80, aq_81]
theorem t28 {nR : Nat} {a l : Int32} (hR : nR ≤ 400) (hz : z 10 4 = nI nR) (hf : 400 < f) : F_28 f 10 a l (hq z w c s) = some (.inl (some (.int (fnd (z 11) (z 12) (bgn a l) l nR 0))), hq z w c s) := by
  unfold F_28
  rw [t27, di_1]
  exact t28_l (a := a) hR hz nR 0 f (by omega) (by omega)
theorem t80 {nR : Nat} {a l : Int32} (hR : nR ≤ 400) (hz : z 52 7 = nI nR) (hf : 400 < f) : F_80 f 52 a l (hq z w c s) = some (.inl (some (.int (fnd (z 56) (z 57) (bgn a l) l nR 0))), hq z w c s) := by
  unfold F_80
  exact t80_l hR hz rfl nR 0 f (by omega) (by omega)
-- where routes alone change
theorem rc_routes (h : rc S z w) (hS : ∀ k, k < 3 ∨ 8 ≤ k → S' k = S k) (hS3 : ∀ j, j ≠ 0 → S' 3 j = S 3 j) (hz : ∀ a, a < 52 → (a < 10 ∨ 14 < a) → z' a = z a) (h1 : z' 10 4 = S' 3 0) (h8 : ∀ i, i < cn S' 0 → z' 11 i = S' 4 i ∧ z' 12 i = S' 5 i ∧ z' 13 i = S' 6 i ∧ z' 14 i = S' 7 i) : rc S' z' w := by
  obtain ⟨g1, ⟨a0, a1, a2, a3, a4, a5, a6, a7, a8, a9, a10, a11⟩, g3, g4, g5, g6, g7, g8, g9⟩ := h
  have cq : ∀ j, j ≠ 0 → cn S' j = cn S j := fun j hj => cn_of (hS3 j hj)
  refine ⟨fun i hi => ?_, ⟨h1, ?_, ?_, ?_, ?_, ?_, ?_, ?_, ?_, ?_, ?_, ?_⟩, h8, ?_, ?_, ?_, ?_, fun r hr i => ?_, rcW_of g9 (fun k hk => hS k (by omega)) (cq 10 (by omega)) (fun a h1 h2 => hz a (by omega) (by omega))⟩
  · rw [hz (2 + i) (by omega) (by omega), hS 0 (by omega), hS 1 (by omega), hS 2 (by omega)]; exact g1 i hi
  · rw [hz 15 (by omega) (by omega), hS3 1 (by omega)]; exact a1
  · rw [hz 21 (by omega) (by omega), hS3 2 (by omega)]; exact a2
  · rw [hz 0 (by omega) (by omega), hS3 3 (by omega)]; exact a3
  · rw [hz 0 (by omega) (by omega), hS3 4 (by omega)]; exact a4
  · rw [hz 0 (by omega) (by omega), hS3 5 (by omega)]; exact a5
  · rw [hz 50 (by omega) (by omega), hS3 6 (by omega)]; exact a6
  · rw [hz 50 (by omega) (by omega), hS3 7 (by omega)]; exact a7
  · rw [hz 50 (by omega) (by omega), hS3 8 (by omega)]; exact a8
  · rw [hz 50 (by omega) (by omega), hS3 9 (by omega)]; exact a9
  · rw [hz 28 (by omega) (by omega), hS3 10 (by omega)]; exact a10
  · rw [hz 21 (by omega) (by omega), hS3 11 (by omega)]; exact a11
  · rw [cq 1 (by omega), hz 16 (by omega) (by omega), hS 8 (by omega)]; exact g4
  · rw [cq 2 (by omega), hz 23 (by omega) (by omega), hz 24 (by omega) (by omega), hz 25 (by omega) (by omega), hz 26 (by omega) (by omega), hS 9 (by omega), hS 10 (by omega), hS 11 (by omega), hS 12 (by omega)]; exact g5
  · rw [cq 11 (by omega), hz 22 (by omega) (by omega), hS 13 (by omega)]; exact g6
  · rw [cq 9 (by omega), hz 51 (by omega) (by omega), hS 14 (by omega)]; exact g7
  · have h0 : r < 52 ∧ 14 < r := by
      simp only [wrows, List.mem_cons, List.not_mem_nil, or_false] at hr
      omega
    rw [hz r h0.1 (Or.inr h0.2)]; exact g8 r hr i
theorem rmd_routes (h : rmd S z) (hS : ∀ k, k < 3 ∨ 8 ≤ k → S' k = S k) (hS3 : ∀ j, j ≠ 0 → S' 3 j = S 3 j) (hz : ∀ a, 52 < a → (a < 56 ∨ 59 < a) → z' a = z a) (h52 : ∀ k, k ≠ 7 → k ≠ 42 → z' 52 k = z 52 k) (h1 : z' 52 7 = S' 3 0) (h8 : ∀ i, i < cn S' 0 → z' 56 i = S' 4 i ∧ z' 57 i = S' 5 i ∧ z' 58 i = S' 6 i ∧ z' 59 i = S' 7 i) : rmd S' z' := by
  obtain ⟨g1, ⟨a0, a1, a2, a3, a4, a5, a6, a7, a8, a9, a10⟩, g3, g4, g5, g6, g7, g9⟩ := h
  have cq : ∀ j, j ≠ 0 → cn S' j = cn S j := fun j hj => cn_of (hS3 j hj)
  refine ⟨?_, ⟨h1, ?_, ?_, ?_, ?_, ?_, ?_, ?_, ?_, ?_, ?_⟩, h8, ?_, ?_, ?_, ?_, rmW_of g9 (fun k hk => hS k (by omega)) (cq 10 (by omega)) (fun a h1 => hz a (by omega) (by omega))⟩
  · rw [hz 53 (by omega) (by omega), hz 54 (by omega) (by omega), hz 55 (by omega) (by omega), hS 0 (by omega), hS 1 (by omega), hS 2 (by omega)]; exact g1
  · rw [h52 9 (by omega) (by omega), hS3 1 (by omega)]; exact a1
  · rw [h52 19 (by omega) (by omega), hS3 2 (by omega)]; exact a2
  · rw [h52 20 (by omega) (by omega), hS3 3 (by omega)]; exact a3
  · rw [h52 21 (by omega) (by omega), hS3 4 (by omega)]; exact a4
  · rw [h52 22 (by omega) (by omega), hS3 5 (by omega)]; exact a5
  · rw [h52 23 (by omega) (by omega), hS3 6 (by omega)]; exact a6
  · rw [h52 24 (by omega) (by omega), hS3 7 (by omega)]; exact a7
  · rw [h52 25 (by omega) (by omega), hS3 8 (by omega)]; exact a8
  · rw [h52 26 (by omega) (by omega), hS3 9 (by omega)]; exact a9
  · rw [h52 28 (by omega) (by omega), hS3 10 (by omega)]; exact a10
  · rw [cq 1 (by omega), hz 60 (by omega) (by omega), hS 8 (by omega)]; exact g4
  · rw [cq 2 (by omega), hz 64 (by omega) (by omega), hz 65 (by omega) (by omega), hz 66 (by omega) (by omega), hz 67 (by omega) (by omega), hS 9 (by omega), hS 10 (by omega), hS 11 (by omega), hS 12 (by omega)]; exact g5
  · rw [cq 11 (by omega), hz 63 (by omega) (by omega), hS 13 (by omega)]; exact g6
  · rw [cq 9 (by omega), hz 68 (by omega) (by omega), hS 14 (by omega)]; exact g7
theorem wf_routes (h : wf n S) (hS : ∀ k, k < 3 ∨ 8 ≤ k → S' k = S k) (hS3 : ∀ j, j ≠ 0 → S' 3 j = S 3 j) (h1 : wfn S' 0 400) (h8 : ∀ i, i < cn S' 0 → (∃ m, m ≤ 32 ∧ S' 5 i = nI m) ∧ ∃ m, m < 8 ∧ S' 6 i = nI m) : wf (n + 1) S' := by
  obtain ⟨⟨-, q1, h2, h3, h4, h5, h9, h10, h11⟩, g1, g2, g3⟩ := wf_up h
  refine ⟨⟨h1, wfn_of q1 (hS3 1 (by omega)), wfn_of h2 (hS3 2 (by omega)), wfn_of h3 (hS3 3 (by omega)), wfn_of h4 (hS3 4 (by omega)), wfn_of h5 (hS3 5 (by omega)), wfn_of h9 (hS3 9 (by omega)), wfn_of h10 (hS3 10 (by omega)), wfn_of h11 (hS3 11 (by omega))⟩, ?_, h8, ?_⟩
  · rw [hS 1 (by omega), hS 2 (by omega)]; exact g1
  · rw [cn_of (hS3 2 (by omega)), cn_of (hS3 11 (by omega)), hS 9 (by omega), hS 10 (by omega)]; exact g3
end Ops8
