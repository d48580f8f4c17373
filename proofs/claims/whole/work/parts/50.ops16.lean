section Ops16
variable {z z2 : Nat → Nat → Int32} {w : Nat → Option Nat} {c s n f : Nat} {x : Int32} {h : hp_T} {ad m i : Nat}
theorem cpy_s (A G : Nat → Int32) (ad k r : Nat) : va_cpy A (upd G k (A (ad + k))) (ad + (k + 1)) (k + 1) r = va_cpy A G (ad + k) k (r + 1) := by
  funext j
  unfold va_cpy
  rw [upd_if]
  by_cases h1 : j = k
  · subst h1
    rw [if_neg (by omega), if_pos rfl, if_pos (by omega)]
    congr 1
    omega
  · by_cases h2 : k + 1 ≤ j ∧ j < k + 1 + r
    · rw [if_pos h2, if_pos (by omega)]
      congr 1
      omega
    · rw [if_neg h2, if_neg h1, if_neg (by omega)]
theorem cpy_0 (A G : Nat → Int32) (u k : Nat) : va_cpy A G u k 0 = G := by
  funext j
  unfold va_cpy
  rw [if_neg (by omega)]
theorem t93_l (hi : i < 300) (h1 : z 65 i = nI m) (h2 : z 64 i = nI ad) (hm : m ≤ 2000) (ha : ad + m ≤ 5000) : ∀ (r k g : Nat) (G : Nat → Int32), k + r = m → r < g → B_93_29 f g 52 (nI i) (nI k) (hq (va_up z 60 G) w c s) = some (.inl (some (.int (nI m))), hq (va_up (va_up z 60 (va_cpy (z 63) G (ad + k) k r)) 52 (upd (z 52) 9 (nI m))) w c s) := by
  intro r
  have q1 : ev_in (nI i) 300 = true := ev_in_nI hi (by omega)
  have q2 : (nI i).toNatClampNeg = i := nI_clamp (by omega)
  have e65 : ∀ G : Nat → Int32, va_up z 60 G 65 = z 65 := fun G => va_up_ne _ _ (by omega)
  have e64 : ∀ G : Nat → Int32, va_up z 60 G 64 = z 64 := fun G => va_up_ne _ _ (by omega)
  have e63 : ∀ G : Nat → Int32, va_up z 60 G 63 = z 63 := fun G => va_up_ne _ _ (by omega)
  have e52 : ∀ G : Nat → Int32, va_up z 60 G 52 = z 52 := fun G => va_up_ne _ _ (by omega)
  induction r with
  | zero =>
    intro k g G hk hg
    obtain ⟨g, rfl⟩ : ∃ e, g = e + 1 := ⟨g - 1, by omega⟩
    have q3 : nI m ≤ nI k := (nI_leI (by omega) (by omega)).mpr (by omega)
    rw [cpy_0]
    simp only [B_93_29, q1, q2, q3, e65, e52, h1, va_up_self, pk_us, dg_1, db_1, db_0, dl_1, dp_1, dv_1, dv_x, di_1, di_x, dw_1, ec_eq, ec_ne, ec_lt, ec_ge, ec_gt, ec_le, hq_z, hq_wz, hq_wc, hq_thr, hq_p29, hq_pw, eq_self, decide_true, decide_false, not_true_eq_false, not_false_eq_true, kq_0, kq_1, kq_2, kq_3, kq_4, kq_5, kq_6, kq_7, kq_8, kq_9, kq_10, kq_11, kq_12, kq_13, kq_14, kq_15, kq_16, kq_17, kq_18, kq_19, kq_20, kq_21, kq_22, kq_23, kq_24, kq_25, kq_26, kq_27, kq_28, kq_29, kq_30, kq_31, kq_32, kq_33, kq_34, kq_35, kq_36, kq_37, kq_38, kq_39, kq_40, kq_41, kq_42, kq_43, kq_44, kq_45, kq_46, kq_47, kq_48, kq_49, kq_50, kq_51, kq_52, kq_53, kq_54, kq_55, kq_56, kq_57, kq_58, kq_59, kq_60, kq_61, kq_62, kq_63, kq_64, kq_65, kq_66, kq_67, kq_68, kq_69, kq_70, kq_71, kq_72, kq_73, kq_74, kq_75, kq_76, kq_77, kq_78, kq_79, kq_80, kq_81, pq_0_0, pq_0_1, pq_0_2, pq_0_3, pq_0_4, pq_0_5, pq_0_6, pq_0_7, pq_1_0, pq_1_1, pq_1_2, pq_1_3, pq_1_4, pq_1_5, pq_1_6, pq_1_7, pq_10_0, pq_10_1, pq_10_2, pq_10_3, pq_15_0, pq_17_0, pq_19_0, pq_21_0, pq_21_1, pq_21_2, pq_21_3, pq_21_4, pq_21_5, pq_28_0, pq_30_0, pq_30_1, pq_30_2, pq_31_0, pq_35_0, pq_35_1, pq_35_2, pq_36_0, pq_40_0, pq_40_1, pq_40_2, pq_41_0, pq_45_0, pq_45_1, pq_45_2, pq_46_0, pq_50_0, pq_52_0, pq_52_1, pq_52_2, pq_52_3, pq_52_4, pq_52_5, pq_52_6, pq_52_8, pq_52_10, pq_52_11, pq_52_14, pq_52_15, pq_52_16, pq_52_17, pq_52_18, pq_52_27, pq_52_29, pq_52_30, pq_52_31, pq_52_32, pq_52_33, pq_52_34, pq_52_35, pq_52_36, pq_52_37, pq_52_38, pq_52_39, pq_52_40, pq_52_41, aq_1, aq_11, aq_12, aq_13, aq_14, aq_16, aq_18, aq_20, aq_22, aq_23, aq_24, aq_25, aq_26, aq_27, aq_29, aq_32, aq_33, aq_34, aq_37, aq_38, aq_39, aq_42, aq_43, aq_44, aq_47, aq_48, aq_49, aq_51, aq_53, aq_54, aq_55, aq_56, aq_57, aq_58, aq_59, aq_60, aq_61, aq_62, aq_63, aq_64, aq_65, aq_66, aq_67, aq_68, aq_69, aq_70, aq_71, aq_72, aq_73, aq_74, aq_75, aq_76, aq_77, aq_78, aq_79, aq_80, aq_81]
  | succ r ih =>
    intro k g G hk hg
    obtain ⟨g, rfl⟩ : ∃ e, g = e + 1 := ⟨g - 1, by omega⟩
    have q3 : ¬ nI m ≤ nI k := fun h9 => by have := (nI_leI (a := m) (b := k) (by omega) (by omega)).mp h9; omega
    have q4 : ev_in (nI (ad + k)) 24000 = true := ev_in_nI (by omega) (by omega)
    have q5 : ev_in (nI k) 2000 = true := ev_in_nI (by omega) (by omega)
    have q6 : (nI (ad + k)).toNatClampNeg = ad + k := nI_clamp (by omega)
    have q7 : (nI k).toNatClampNeg = k := nI_clamp (by omega)
    have ih1 := ih (k + 1) g (upd G k (z 63 (ad + k))) (by omega) (by omega)
    rw [cpy_s] at ih1
    simp only [B_93_29, q1, q2, q3, q4, q5, q6, q7, e65, e64, e63, h1, h2, nI_add, nI_1, va_up_self, va_up2, ih1, dg_1, db_1, db_0, dl_1, dp_1, dv_1, dv_x, di_1, di_x, dw_1, ec_eq, ec_ne, ec_lt, ec_ge, ec_gt, ec_le, hq_z, hq_wz, hq_wc, hq_thr, hq_p29, hq_pw, eq_self, decide_true, decide_false, not_true_eq_false, not_false_eq_true, kq_0, kq_1, kq_2, kq_3, kq_4, kq_5, kq_6, kq_7, kq_8, kq_9, kq_10, kq_11, kq_12, kq_13, kq_14, kq_15, kq_16, kq_17, kq_18, kq_19, kq_20, kq_21, kq_22, kq_23, kq_24, kq_25, kq_26, kq_27, kq_28, kq_29, kq_30, kq_31, kq_32, kq_33, kq_34, kq_35, kq_36, kq_37, kq_38, kq_39, kq_40, kq_41, kq_42, kq_43, kq_44, kq_45, kq_46, kq_47, kq_48, kq_49, kq_50, kq_51, kq_52, kq_53, kq_54, kq_55, kq_56, kq_57, kq_58, kq_59, kq_60, kq_61, kq_62, kq_63, kq_64, kq_65, kq_66, kq_67, kq_68, kq_69, kq_70, kq_71, kq_72, kq_73, kq_74, kq_75, kq_76, kq_77, kq_78, kq_79, kq_80, kq_81, pq_0_0, pq_0_1, pq_0_2, pq_0_3, pq_0_4, pq_0_5, pq_0_6, pq_0_7, pq_1_0, pq_1_1, pq_1_2, pq_1_3, pq_1_4, pq_1_5, pq_1_6, pq_1_7, pq_10_0, pq_10_1, pq_10_2, pq_10_3, pq_15_0, pq_17_0, pq_19_0, pq_21_0, pq_21_1, pq_21_2, pq_21_3, pq_21_4, pq_21_5, pq_28_0, pq_30_0, pq_30_1, pq_30_2, pq_31_0, pq_35_0, pq_35_1, pq_35_2, pq_36_0, pq_40_0, pq_40_1, pq_40_2, pq_41_0, pq_45_0, pq_45_1, pq_45_2, pq_46_0, pq_50_0, pq_52_0, pq_52_1, pq_52_2, pq_52_3, pq_52_4, pq_52_5, pq_52_6, pq_52_8, pq_52_10, pq_52_11, pq_52_14, pq_52_15, pq_52_16, pq_52_17, pq_52_18, pq_52_27, pq_52_29, pq_52_30, pq_52_31, pq_52_32, pq_52_33, pq_52_34, pq_52_35, pq_52_36, pq_52_37, pq_52_38, pq_52_39, pq_52_40, pq_52_41, aq_1, aq_11, aq_12, aq_13, aq_14, aq_16, aq_18, aq_20, aq_22, aq_23, aq_24, aq_25, aq_26, aq_27, aq_29, aq_32, aq_33, aq_34, aq_37, aq_38, aq_39, aq_42, aq_43, aq_44, aq_47, aq_48, aq_49, aq_51, aq_53, aq_54, aq_55, aq_56, aq_57, aq_58, aq_59, aq_60, aq_61, aq_62, aq_63, aq_64, aq_65, aq_66, aq_67, aq_68, aq_69, aq_70, aq_71, aq_72, aq_73, aq_74, aq_75, aq_76, aq_77, aq_78, aq_79, aq_80, aq_81]
theorem acb_t (h1 : ad + m ≤ 5000) (h2 : m ≤ 2000) : acb 65 (hq z w c s) 22 (nI ad) 16 (0 : Int32) (nI m) = true := by
  have q1 : (nI ad).toNatClampNeg = ad := nI_clamp (by omega)
  have q2 : (nI m).toNatClampNeg = m := nI_clamp (by omega)
  have q3 : (0 : Int32).toNatClampNeg = 0 := by decide
  unfold acb
  rw [lq_22, lq_16, q1, q2, q3]
  have g1 : ¬ nI ad < 0 ∧ ¬ (0 : Int32) < 0 ∧ ¬ nI m < 0 := ⟨nI_pos (by omega), by decide, nI_pos (by omega)⟩
  have g2 : ad + m ≤ 5000 := h1
  have g3 : 0 + m ≤ 2000 := by omega
  rw [decT g1, decT g2, decT g3]
  rfl
theorem t55_r (hi : i < 50) (g1 : ¬ nI i < 0) (g2 : nI i < z 21 6) (h1 : z 24 i = nI m) (h2 : z 23 i = nI ad) (hm : m ≤ 2000) (ha : ad + m ≤ 5000) : F_55 f 0 (nI i) (hq z w c s) = some (.inl (some (.int (nI m))), hq (va_up (va_up z 15 (upd (z 15) 1 (nI m))) 16 (va_cpy (z 22) (z 16) ad 0 m)) w c s) := by
  have q1 : ev_in (nI i) 50 = true := ev_in_nI hi (by omega)
  have q2 : (nI i).toNatClampNeg = i := nI_clamp (by omega)
  have q3 : (nI ad).toNatClampNeg = ad := nI_clamp (by omega)
  have q4 : (nI m).toNatClampNeg = m := nI_clamp (by omega)
  have q5 : (0 : Int32).toNatClampNeg = 0 := by decide
  simp (decide := true) only [F_55, t63_r g1 g2, q1, q2, q3, q4, q5, h1, h2, va_up_self, va_up_ne, pk_us, acb_t ha hm, dg_1, db_1, db_0, dl_1, dp_1, dv_1, dv_x, di_1, di_x, dw_1, ec_eq, ec_ne, ec_lt, ec_ge, ec_gt, ec_le, hq_z, hq_wz, hq_wc, hq_thr, hq_p29, hq_pw, eq_self, decide_true, decide_false, not_true_eq_false, not_false_eq_true, kq_0, kq_1, kq_2, kq_3, kq_4, kq_5, kq_6, kq_7, kq_8, kq_9, kq_10, kq_11, kq_12, kq_13, kq_14, kq_15, kq_16, kq_17, kq_18, kq_19, kq_20, kq_21, kq_22, kq_23, kq_24, kq_25, kq_26, kq_27, kq_28, kq_29, kq_30, kq_31, kq_32, kq_33, kq_34, kq_35, kq_36, kq_37, kq_38, kq_39, kq_40, kq_41, kq_42, kq_43, kq_44, kq_45, kq_46, kq_47, kq_48, kq_49, kq_50, kq_51, kq_52, kq_53, kq_54, kq_55, kq_56, kq_57, kq_58, kq_59, kq_60, kq_61, kq_62, kq_63, kq_64, kq_65, kq_66, kq_67, kq_68, kq_69, kq_70, kq_71, kq_72, kq_73, kq_74, kq_75, kq_76, kq_77, kq_78, kq_79, kq_80, kq_81, pq_0_0, pq_0_1, pq_0_2, pq_0_3, pq_0_4, pq_0_5, pq_0_6, pq_0_7, pq_1_0, pq_1_1, pq_1_2, pq_1_3, pq_1_4, pq_1_5, pq_1_6, pq_1_7, pq_10_0, pq_10_1, pq_10_2, pq_10_3, pq_15_0, pq_17_0, pq_19_0, pq_21_0, pq_21_1, pq_21_2, pq_21_3, pq_21_4, pq_21_5, pq_28_0, pq_30_0, pq_30_1, pq_30_2, pq_31_0, pq_35_0, pq_35_1, pq_35_2, pq_36_0, pq_40_0, pq_40_1, pq_40_2, pq_41_0, pq_45_0, pq_45_1, pq_45_2, pq_46_0, pq_50_0, pq_52_0, pq_52_1, pq_52_2, pq_52_3, pq_52_4, pq_52_5, pq_52_6, pq_52_8, pq_52_10, pq_52_11, pq_52_14, pq_52_15, pq_52_16, pq_52_17, pq_52_18, pq_52_27, pq_52_29, pq_52_30, pq_52_31, pq_52_32, pq_52_33, pq_52_34, pq_52_35, pq_52_36, pq_52_37, pq_52_38, pq_52_39, pq_52_40, pq_52_41, aq_1, aq_11, aq_12, aq_13, aq_14, aq_16, aq_18, aq_20, aq_22, aq_23, aq_24, aq_25, aq_26, aq_27, aq_29, aq_32, aq_33, aq_34, aq_37, aq_38, aq_39, aq_42, aq_43, aq_44, aq_47, aq_48, aq_49, aq_51, aq_53, aq_54, aq_55, aq_56, aq_57, aq_58, aq_59, aq_60, aq_61, aq_62, aq_63, aq_64, aq_65, aq_66, aq_67, aq_68, aq_69, aq_70, aq_71, aq_72, aq_73, aq_74, aq_75, aq_76, aq_77, aq_78, aq_79, aq_80, aq_81]
end Ops16
