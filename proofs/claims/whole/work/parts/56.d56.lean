-- copies
section Copy56
def cpz (z : Nat → Nat → Int32) (X Y s d q : Nat) : Nat → Nat → Int32 := va_up z X (va_cpy (z Y) (z X) s d q)
theorem cpz_0 {z : Nat → Nat → Int32} {X Y s d : Nat} : cpz z X Y s d 0 = z := by
  unfold cpz; rw [cpy_0, va_upi]
theorem cpz_ne {z : Nat → Nat → Int32} {X Y s d q a : Nat} (h : a ≠ X) : cpz z X Y s d q a = z a := va_up_ne _ _ h
theorem cpz_at {z : Nat → Nat → Int32} {X Y s d q i : Nat} : cpz z X Y s d q X i = if d ≤ i ∧ i < d + q then z Y (s + (i - d)) else z X i := by
  unfold cpz; rw [va_up_self]; rfl
theorem cpz_s {z : Nat → Nat → Int32} {X Y s d q : Nat} (h : X ≠ Y ∨ d ≤ s) : cpz (va_up z X (upd (z X) d (z Y s))) X Y (s + 1) (d + 1) q = cpz z X Y s d (q + 1) := by
  unfold cpz
  rw [va_up2, va_up_self]
  congr 1
  funext j
  unfold va_cpy
  rw [upd_if]
  by_cases h1 : d + 1 ≤ j ∧ j < d + 1 + q
  · rw [if_pos h1, if_pos (by omega)]
    by_cases e : Y = X
    · subst e
      have h2 : d ≤ s := by omega
      rw [va_up_self, pk_un (by omega)]
      congr 1; omega
    · rw [va_up_ne _ _ e]
      congr 1; omega
  · rw [if_neg h1]
    by_cases h3 : j = d
    · subst h3
      rw [if_pos rfl, if_pos (by omega)]
      congr 1; omega
    · rw [if_neg h3, if_neg (by omega)]
variable {f c s : Nat} {w : Nat → Option Nat}
theorem lp_94 {md ot fr : Nat} (ho : ot < 300) (hm : md ≤ 4200) (hf : fr + md ≤ 24000) : ∀ (q k g : Nat) (z : Nat → Nat → Int32) (x0 : z 52 13 = nI md) (x1 : z 52 19 = nI ot) (x2 : z 64 ot = nI fr), k + q ≤ md → B_94_123 f  (g + q) 52 (nI k) (hq z w c s) = B_94_123 f  g 52 (nI (k + q)) (hq (cpz z 63 62 (0 + k) (fr + k) q) w c s) := by
  intro q
  induction q with
  | zero => intro k g z x0 x1 x2 h; rw [cpz_0]; rfl
  | succ q ih =>
    intro k g z x0 x1 x2 h
    have e1 := ih (k + 1) g (va_up z 63 (upd (z 63) (fr + k) (z 62 (0 + k)))) ((congrFun (va_up_ne _ _ (by decide)) _).trans x0) ((congrFun (va_up_ne _ _ (by decide)) _).trans x1) ((congrFun (va_up_ne _ _ (by decide)) _).trans x2) (by omega)
    rw [show 0 + (k + 1) = 0 + k + 1 from rfl, show fr + (k + 1) = fr + k + 1 from rfl, cpz_s (Or.inl (by decide)), show k + 1 + q = k + (q + 1) by omega] at e1
    rw [← e1, show g + (q + 1) = (g + q) + 1 from rfl]
    have y0 : ¬ nI (md) ≤ nI k := nI_ge (by omega) (by omega)
    have y1 : ev_in (nI (0 + k)) 4200 = true := ev_in_nI (by omega) (by omega)
    have y2 : ev_in (nI (fr + k)) 24000 = true := ev_in_nI (by omega) (by omega)
    have y3 : (nI (0 + k)).toNatClampNeg = 0 + k := nI_clamp (by omega)
    have y4 : (nI (fr + k)).toNatClampNeg = fr + k := nI_clamp (by omega)
    have y5 : ev_in (nI ot) 300 = true := ev_in_nI (by omega) (by omega)
    have y6 : (nI ot).toNatClampNeg = ot := nI_clamp (by omega)
    rw [show (0 : Nat) + k = k by omega] at y1 y3 ⊢
    simp only [B_94_123, y0, y1, y2, y3, y4, x0, x1, x2, nI_add, nI_1, y5, y6, dg_1, db_1, db_0, dl_1, dp_1, dv_1, dv_x, di_1, di_x, dw_1, ec_eq, ec_ne, ec_lt, ec_ge, ec_gt, ec_le, hq_z, hq_wz, hq_wc, hq_thr, hq_p29, hq_pw, eq_self, decide_true, decide_false, not_true_eq_false, not_false_eq_true, kq_0, kq_1, kq_2, kq_3, kq_4, kq_5, kq_6, kq_7, kq_8, kq_9, kq_10, kq_11, kq_12, kq_13, kq_14, kq_15, kq_16, kq_17, kq_18, kq_19, kq_20, kq_21, kq_22, kq_23, kq_24, kq_25, kq_26, kq_27, kq_28, kq_29, kq_30, kq_31, kq_32, kq_33, kq_34, kq_35, kq_36, kq_37, kq_38, kq_39, kq_40, kq_41, kq_42, kq_43, kq_44, kq_45, kq_46, kq_47, kq_48, kq_49, kq_50, kq_51, kq_52, kq_53, kq_54, kq_55, kq_56, kq_57, kq_58, kq_59, kq_60, kq_61, kq_62, kq_63, kq_64, kq_65, kq_66, kq_67, kq_68, kq_69, kq_70, kq_71, kq_72, kq_73, kq_74, kq_75, kq_76, kq_77, kq_78, kq_79, kq_80, kq_81, pq_0_0, pq_0_1, pq_0_2, pq_0_3, pq_0_4, pq_0_5, pq_0_6, pq_0_7, pq_1_0, pq_1_1, pq_1_2, pq_1_3, pq_1_4, pq_1_5, pq_1_6, pq_1_7, pq_10_0, pq_10_1, pq_10_2, pq_10_3, pq_15_0, pq_17_0, pq_19_0, pq_21_0, pq_21_1, pq_21_2, pq_21_3, pq_21_4, pq_21_5, pq_28_0, pq_30_0, pq_30_1, pq_30_2, pq_31_0, pq_35_0, pq_35_1, pq_35_2, pq_36_0, pq_40_0, pq_40_1, pq_40_2, pq_41_0, pq_45_0, pq_45_1, pq_45_2, pq_46_0, pq_50_0, pq_52_0, pq_52_1, pq_52_2, pq_52_3, pq_52_4, pq_52_5, pq_52_6, pq_52_8, pq_52_10, pq_52_11, pq_52_14, pq_52_15, pq_52_16, pq_52_17, pq_52_18, pq_52_27, pq_52_29, pq_52_30, pq_52_31, pq_52_32, pq_52_33, pq_52_34, pq_52_35, pq_52_36, pq_52_37, pq_52_38, pq_52_39, pq_52_40, pq_52_41, aq_1, aq_11, aq_12, aq_13, aq_14, aq_16, aq_18, aq_20, aq_22, aq_23, aq_24, aq_25, aq_26, aq_27, aq_29, aq_32, aq_33, aq_34, aq_37, aq_38, aq_39, aq_42, aq_43, aq_44, aq_47, aq_48, aq_49, aq_51, aq_53, aq_54, aq_55, aq_56, aq_57, aq_58, aq_59, aq_60, aq_61, aq_62, aq_63, aq_64, aq_65, aq_66, aq_67, aq_68, aq_69, aq_70, aq_71, aq_72, aq_73, aq_74, aq_75, aq_76, aq_77, aq_78, aq_79, aq_80, aq_81]
theorem lp_95a {C : Nat → Int32 → Int32 → Int32 → Int32 → Int32 → Int32 → hp_T → Option ev_O} {l1 l2 l3 l4 l9 : Int32} {l5 l7 l10 : Nat} (h1 : l5 + l10 ≤ 4100) (h2 : l7 + l10 ≤ 4200) : ∀ (q k g : Nat) (z : Nat → Nat → Int32), k + q ≤ l10 → B_95_203 f C (g + q) 52 l1 l2 l3 l4 (nI l5) (nI l7) l9 (nI l10) (nI k) (hq z w c s) = B_95_203 f C g 52 l1 l2 l3 l4 (nI l5) (nI l7) l9 (nI l10) (nI (k + q)) (hq (cpz z 62 61 (l5 + k) (l7 + k) q) w c s) := by
  intro q
  induction q with
  | zero => intro k g z h; rw [cpz_0]; rfl
  | succ q ih =>
    intro k g z h
    have e1 := ih (k + 1) g (va_up z 62 (upd (z 62) (l7 + k) (z 61 (l5 + k)))) (by omega)
    rw [show l5 + (k + 1) = l5 + k + 1 from rfl, show l7 + (k + 1) = l7 + k + 1 from rfl, cpz_s (Or.inl (by decide)), show k + 1 + q = k + (q + 1) by omega] at e1
    rw [← e1, show g + (q + 1) = (g + q) + 1 from rfl]
    have y0 : ¬ nI (l10) ≤ nI k := nI_ge (by omega) (by omega)
    have y1 : ev_in (nI (l5 + k)) 4100 = true := ev_in_nI (by omega) (by omega)
    have y2 : ev_in (nI (l7 + k)) 4200 = true := ev_in_nI (by omega) (by omega)
    have y3 : (nI (l5 + k)).toNatClampNeg = l5 + k := nI_clamp (by omega)
    have y4 : (nI (l7 + k)).toNatClampNeg = l7 + k := nI_clamp (by omega)
    simp only [B_95_203, y0, y1, y2, y3, y4, nI_add, nI_1, dg_1, db_1, db_0, dl_1, dp_1, dv_1, dv_x, di_1, di_x, dw_1, ec_eq, ec_ne, ec_lt, ec_ge, ec_gt, ec_le, hq_z, hq_wz, hq_wc, hq_thr, hq_p29, hq_pw, eq_self, decide_true, decide_false, not_true_eq_false, not_false_eq_true, kq_0, kq_1, kq_2, kq_3, kq_4, kq_5, kq_6, kq_7, kq_8, kq_9, kq_10, kq_11, kq_12, kq_13, kq_14, kq_15, kq_16, kq_17, kq_18, kq_19, kq_20, kq_21, kq_22, kq_23, kq_24, kq_25, kq_26, kq_27, kq_28, kq_29, kq_30, kq_31, kq_32, kq_33, kq_34, kq_35, kq_36, kq_37, kq_38, kq_39, kq_40, kq_41, kq_42, kq_43, kq_44, kq_45, kq_46, kq_47, kq_48, kq_49, kq_50, kq_51, kq_52, kq_53, kq_54, kq_55, kq_56, kq_57, kq_58, kq_59, kq_60, kq_61, kq_62, kq_63, kq_64, kq_65, kq_66, kq_67, kq_68, kq_69, kq_70, kq_71, kq_72, kq_73, kq_74, kq_75, kq_76, kq_77, kq_78, kq_79, kq_80, kq_81, pq_0_0, pq_0_1, pq_0_2, pq_0_3, pq_0_4, pq_0_5, pq_0_6, pq_0_7, pq_1_0, pq_1_1, pq_1_2, pq_1_3, pq_1_4, pq_1_5, pq_1_6, pq_1_7, pq_10_0, pq_10_1, pq_10_2, pq_10_3, pq_15_0, pq_17_0, pq_19_0, pq_21_0, pq_21_1, pq_21_2, pq_21_3, pq_21_4, pq_21_5, pq_28_0, pq_30_0, pq_30_1, pq_30_2, pq_31_0, pq_35_0, pq_35_1, pq_35_2, pq_36_0, pq_40_0, pq_40_1, pq_40_2, pq_41_0, pq_45_0, pq_45_1, pq_45_2, pq_46_0, pq_50_0, pq_52_0, pq_52_1, pq_52_2, pq_52_3, pq_52_4, pq_52_5, pq_52_6, pq_52_8, pq_52_10, pq_52_11, pq_52_14, pq_52_15, pq_52_16, pq_52_17, pq_52_18, pq_52_27, pq_52_29, pq_52_30, pq_52_31, pq_52_32, pq_52_33, pq_52_34, pq_52_35, pq_52_36, pq_52_37, pq_52_38, pq_52_39, pq_52_40, pq_52_41, aq_1, aq_11, aq_12, aq_13, aq_14, aq_16, aq_18, aq_20, aq_22, aq_23, aq_24, aq_25, aq_26, aq_27, aq_29, aq_32, aq_33, aq_34, aq_37, aq_38, aq_39, aq_42, aq_43, aq_44, aq_47, aq_48, aq_49, aq_51, aq_53, aq_54, aq_55, aq_56, aq_57, aq_58, aq_59, aq_60, aq_61, aq_62, aq_63, aq_64, aq_65, aq_66, aq_67, aq_68, aq_69, aq_70, aq_71, aq_72, aq_73, aq_74, aq_75, aq_76, aq_77, aq_78, aq_79, aq_80, aq_81]
theorem lp_95b {C : Nat → Int32 → Int32 → Int32 → Int32 → Int32 → Int32 → hp_T → Option ev_O} {l1 l2 l4 l5 l6 : Int32} {l3 : Nat} (h1 : l3 ≤ 4100) : ∀ (q k g : Nat) (z : Nat → Nat → Int32), k + q ≤ l3 → B_95_101 f C (g + q) 52 l1 l2 (nI l3) l4 l5 l6 (nI k) (hq z w c s) = B_95_101 f C g 52 l1 l2 (nI l3) l4 l5 l6 (nI (k + q)) (hq (cpz z 62 61 (0 + k) (0 + k) q) w c s) := by
  intro q
  induction q with
  | zero => intro k g z h; rw [cpz_0]; rfl
  | succ q ih =>
    intro k g z h
    have e1 := ih (k + 1) g (va_up z 62 (upd (z 62) (0 + k) (z 61 (0 + k)))) (by omega)
    rw [show 0 + (k + 1) = 0 + k + 1 from rfl, cpz_s (Or.inl (by decide)), show k + 1 + q = k + (q + 1) by omega] at e1
    rw [← e1, show g + (q + 1) = (g + q) + 1 from rfl]
    have y0 : ¬ nI (l3) ≤ nI k := nI_ge (by omega) (by omega)
    have y1 : ev_in (nI (0 + k)) 4100 = true := ev_in_nI (by omega) (by omega)
    have y2 : ev_in (nI (0 + k)) 4200 = true := ev_in_nI (by omega) (by omega)
    have y3 : (nI (0 + k)).toNatClampNeg = 0 + k := nI_clamp (by omega)
    have y4 : (nI (0 + k)).toNatClampNeg = 0 + k := nI_clamp (by omega)
    rw [show (0 : Nat) + k = k by omega] at y1 y2 y3 y4 ⊢
    simp only [B_95_101, y0, y1, y2, y3, y4, nI_add, nI_1, dg_1, db_1, db_0, dl_1, dp_1, dv_1, dv_x, di_1, di_x, dw_1, ec_eq, ec_ne, ec_lt, ec_ge, ec_gt, ec_le, hq_z, hq_wz, hq_wc, hq_thr, hq_p29, hq_pw, eq_self, decide_true, decide_false, not_true_eq_false, not_false_eq_true, kq_0, kq_1, kq_2, kq_3, kq_4, kq_5, kq_6, kq_7, kq_8, kq_9, kq_10, kq_11, kq_12, kq_13, kq_14, kq_15, kq_16, kq_17, kq_18, kq_19, kq_20, kq_21, kq_22, kq_23, kq_24, kq_25, kq_26, kq_27, kq_28, kq_29, kq_30, kq_31, kq_32, kq_33, kq_34, kq_35, kq_36, kq_37, kq_38, kq_39, kq_40, kq_41, kq_42, kq_43, kq_44, kq_45, kq_46, kq_47, kq_48, kq_49, kq_50, kq_51, kq_52, kq_53, kq_54, kq_55, kq_56, kq_57, kq_58, kq_59, kq_60, kq_61, kq_62, kq_63, kq_64, kq_65, kq_66, kq_67, kq_68, kq_69, kq_70, kq_71, kq_72, kq_73, kq_74, kq_75, kq_76, kq_77, kq_78, kq_79, kq_80, kq_81, pq_0_0, pq_0_1, pq_0_2, pq_0_3, pq_0_4, pq_0_5, pq_0_6, pq_0_7, pq_1_0, pq_1_1, pq_1_2, pq_1_3, pq_1_4, pq_1_5, pq_1_6, pq_1_7, pq_10_0, pq_10_1, pq_10_2, pq_10_3, pq_15_0, pq_17_0, pq_19_0, pq_21_0, pq_21_1, pq_21_2, pq_21_3, pq_21_4, pq_21_5, pq_28_0, pq_30_0, pq_30_1, pq_30_2, pq_31_0, pq_35_0, pq_35_1, pq_35_2, pq_36_0, pq_40_0, pq_40_1, pq_40_2, pq_41_0, pq_45_0, pq_45_1, pq_45_2, pq_46_0, pq_50_0, pq_52_0, pq_52_1, pq_52_2, pq_52_3, pq_52_4, pq_52_5, pq_52_6, pq_52_8, pq_52_10, pq_52_11, pq_52_14, pq_52_15, pq_52_16, pq_52_17, pq_52_18, pq_52_27, pq_52_29, pq_52_30, pq_52_31, pq_52_32, pq_52_33, pq_52_34, pq_52_35, pq_52_36, pq_52_37, pq_52_38, pq_52_39, pq_52_40, pq_52_41, aq_1, aq_11, aq_12, aq_13, aq_14, aq_16, aq_18, aq_20, aq_22, aq_23, aq_24, aq_25, aq_26, aq_27, aq_29, aq_32, aq_33, aq_34, aq_37, aq_38, aq_39, aq_42, aq_43, aq_44, aq_47, aq_48, aq_49, aq_51, aq_53, aq_54, aq_55, aq_56, aq_57, aq_58, aq_59, aq_60, aq_61, aq_62, aq_63, aq_64, aq_65, aq_66, aq_67, aq_68, aq_69, aq_70, aq_71, aq_72, aq_73, aq_74, aq_75, aq_76, aq_77, aq_78, aq_79, aq_80, aq_81]
theorem lp_95c {l1 l2 : Int32} {sz : Nat} (h1 : sz ≤ 4100) : ∀ (q k g : Nat) (z : Nat → Nat → Int32) (x0 : z 52 12 = nI sz), k + q ≤ sz → B_95_28 f  (g + q) 52 l1 l2 (nI k) (hq z w c s) = B_95_28 f  g 52 l1 l2 (nI (k + q)) (hq (cpz z 62 61 (0 + k) (0 + k) q) w c s) := by
  intro q
  induction q with
  | zero => intro k g z x0 h; rw [cpz_0]; rfl
  | succ q ih =>
    intro k g z x0 h
    have e1 := ih (k + 1) g (va_up z 62 (upd (z 62) (0 + k) (z 61 (0 + k)))) ((congrFun (va_up_ne _ _ (by decide)) _).trans x0) (by omega)
    rw [show 0 + (k + 1) = 0 + k + 1 from rfl, cpz_s (Or.inl (by decide)), show k + 1 + q = k + (q + 1) by omega] at e1
    rw [← e1, show g + (q + 1) = (g + q) + 1 from rfl]
    have y0 : ¬ nI (sz) ≤ nI k := nI_ge (by omega) (by omega)
    have y1 : ev_in (nI (0 + k)) 4100 = true := ev_in_nI (by omega) (by omega)
    have y2 : ev_in (nI (0 + k)) 4200 = true := ev_in_nI (by omega) (by omega)
    have y3 : (nI (0 + k)).toNatClampNeg = 0 + k := nI_clamp (by omega)
    have y4 : (nI (0 + k)).toNatClampNeg = 0 + k := nI_clamp (by omega)
    rw [show (0 : Nat) + k = k by omega] at y1 y2 y3 y4 ⊢
    simp only [B_95_28, y0, y1, y2, y3, y4, x0, nI_add, nI_1, dg_1, db_1, db_0, dl_1, dp_1, dv_1, dv_x, di_1, di_x, dw_1, ec_eq, ec_ne, ec_lt, ec_ge, ec_gt, ec_le, hq_z, hq_wz, hq_wc, hq_thr, hq_p29, hq_pw, eq_self, decide_true, decide_false, not_true_eq_false, not_false_eq_true, kq_0, kq_1, kq_2, kq_3, kq_4, kq_5, kq_6, kq_7, kq_8, kq_9, kq_10, kq_11, kq_12, kq_13, kq_14, kq_15, kq_16, kq_17, kq_18, kq_19, kq_20, kq_21, kq_22, kq_23, kq_24, kq_25, kq_26, kq_27, kq_28, kq_29, kq_30, kq_31, kq_32, kq_33, kq_34, kq_35, kq_36, kq_37, kq_38, kq_39, kq_40, kq_41, kq_42, kq_43, kq_44, kq_45, kq_46, kq_47, kq_48, kq_49, kq_50, kq_51, kq_52, kq_53, kq_54, kq_55, kq_56, kq_57, kq_58, kq_59, kq_60, kq_61, kq_62, kq_63, kq_64, kq_65, kq_66, kq_67, kq_68, kq_69, kq_70, kq_71, kq_72, kq_73, kq_74, kq_75, kq_76, kq_77, kq_78, kq_79, kq_80, kq_81, pq_0_0, pq_0_1, pq_0_2, pq_0_3, pq_0_4, pq_0_5, pq_0_6, pq_0_7, pq_1_0, pq_1_1, pq_1_2, pq_1_3, pq_1_4, pq_1_5, pq_1_6, pq_1_7, pq_10_0, pq_10_1, pq_10_2, pq_10_3, pq_15_0, pq_17_0, pq_19_0, pq_21_0, pq_21_1, pq_21_2, pq_21_3, pq_21_4, pq_21_5, pq_28_0, pq_30_0, pq_30_1, pq_30_2, pq_31_0, pq_35_0, pq_35_1, pq_35_2, pq_36_0, pq_40_0, pq_40_1, pq_40_2, pq_41_0, pq_45_0, pq_45_1, pq_45_2, pq_46_0, pq_50_0, pq_52_0, pq_52_1, pq_52_2, pq_52_3, pq_52_4, pq_52_5, pq_52_6, pq_52_8, pq_52_10, pq_52_11, pq_52_14, pq_52_15, pq_52_16, pq_52_17, pq_52_18, pq_52_27, pq_52_29, pq_52_30, pq_52_31, pq_52_32, pq_52_33, pq_52_34, pq_52_35, pq_52_36, pq_52_37, pq_52_38, pq_52_39, pq_52_40, pq_52_41, aq_1, aq_11, aq_12, aq_13, aq_14, aq_16, aq_18, aq_20, aq_22, aq_23, aq_24, aq_25, aq_26, aq_27, aq_29, aq_32, aq_33, aq_34, aq_37, aq_38, aq_39, aq_42, aq_43, aq_44, aq_47, aq_48, aq_49, aq_51, aq_53, aq_54, aq_55, aq_56, aq_57, aq_58, aq_59, aq_60, aq_61, aq_62, aq_63, aq_64, aq_65, aq_66, aq_67, aq_68, aq_69, aq_70, aq_71, aq_72, aq_73, aq_74, aq_75, aq_76, aq_77, aq_78, aq_79, aq_80, aq_81]
theorem lp_98 {l1 : Int32} {l7 : Nat} (h1 : l7 ≤ 4100) : ∀ (q k g : Nat) (z : Nat → Nat → Int32), k + q ≤ l7 → B_98_207 f  (g + q) 52 l1 (nI l7) (nI k) (hq z w c s) = B_98_207 f  g 52 l1 (nI l7) (nI (k + q)) (hq (cpz z 62 61 (0 + k) (28 + k) q) w c s) := by
  intro q
  induction q with
  | zero => intro k g z h; rw [cpz_0]; rfl
  | succ q ih =>
    intro k g z h
    have e1 := ih (k + 1) g (va_up z 62 (upd (z 62) (28 + k) (z 61 (0 + k)))) (by omega)
    rw [show 0 + (k + 1) = 0 + k + 1 from rfl, show 28 + (k + 1) = 28 + k + 1 from rfl, cpz_s (Or.inl (by decide)), show k + 1 + q = k + (q + 1) by omega] at e1
    rw [← e1, show g + (q + 1) = (g + q) + 1 from rfl]
    have y0 : ¬ nI (l7) ≤ nI k := nI_ge (by omega) (by omega)
    have y1 : ev_in (nI (0 + k)) 4100 = true := ev_in_nI (by omega) (by omega)
    have y2 : ev_in (nI (28 + k)) 4200 = true := ev_in_nI (by omega) (by omega)
    have y3 : (nI (0 + k)).toNatClampNeg = 0 + k := nI_clamp (by omega)
    have y4 : (nI (28 + k)).toNatClampNeg = 28 + k := nI_clamp (by omega)
    rw [show (0 : Nat) + k = k by omega] at y1 y3 ⊢
    simp only [B_98_207, y0, y1, y2, y3, y4, nI_add, nI_1, show (28 : Int32) = nI 28 from rfl, dg_1, db_1, db_0, dl_1, dp_1, dv_1, dv_x, di_1, di_x, dw_1, ec_eq, ec_ne, ec_lt, ec_ge, ec_gt, ec_le, hq_z, hq_wz, hq_wc, hq_thr, hq_p29, hq_pw, eq_self, decide_true, decide_false, not_true_eq_false, not_false_eq_true, kq_0, kq_1, kq_2, kq_3, kq_4, kq_5, kq_6, kq_7, kq_8, kq_9, kq_10, kq_11, kq_12, kq_13, kq_14, kq_15, kq_16, kq_17, kq_18, kq_19, kq_20, kq_21, kq_22, kq_23, kq_24, kq_25, kq_26, kq_27, kq_28, kq_29, kq_30, kq_31, kq_32, kq_33, kq_34, kq_35, kq_36, kq_37, kq_38, kq_39, kq_40, kq_41, kq_42, kq_43, kq_44, kq_45, kq_46, kq_47, kq_48, kq_49, kq_50, kq_51, kq_52, kq_53, kq_54, kq_55, kq_56, kq_57, kq_58, kq_59, kq_60, kq_61, kq_62, kq_63, kq_64, kq_65, kq_66, kq_67, kq_68, kq_69, kq_70, kq_71, kq_72, kq_73, kq_74, kq_75, kq_76, kq_77, kq_78, kq_79, kq_80, kq_81, pq_0_0, pq_0_1, pq_0_2, pq_0_3, pq_0_4, pq_0_5, pq_0_6, pq_0_7, pq_1_0, pq_1_1, pq_1_2, pq_1_3, pq_1_4, pq_1_5, pq_1_6, pq_1_7, pq_10_0, pq_10_1, pq_10_2, pq_10_3, pq_15_0, pq_17_0, pq_19_0, pq_21_0, pq_21_1, pq_21_2, pq_21_3, pq_21_4, pq_21_5, pq_28_0, pq_30_0, pq_30_1, pq_30_2, pq_31_0, pq_35_0, pq_35_1, pq_35_2, pq_36_0, pq_40_0, pq_40_1, pq_40_2, pq_41_0, pq_45_0, pq_45_1, pq_45_2, pq_46_0, pq_50_0, pq_52_0, pq_52_1, pq_52_2, pq_52_3, pq_52_4, pq_52_5, pq_52_6, pq_52_8, pq_52_10, pq_52_11, pq_52_14, pq_52_15, pq_52_16, pq_52_17, pq_52_18, pq_52_27, pq_52_29, pq_52_30, pq_52_31, pq_52_32, pq_52_33, pq_52_34, pq_52_35, pq_52_36, pq_52_37, pq_52_38, pq_52_39, pq_52_40, pq_52_41, aq_1, aq_11, aq_12, aq_13, aq_14, aq_16, aq_18, aq_20, aq_22, aq_23, aq_24, aq_25, aq_26, aq_27, aq_29, aq_32, aq_33, aq_34, aq_37, aq_38, aq_39, aq_42, aq_43, aq_44, aq_47, aq_48, aq_49, aq_51, aq_53, aq_54, aq_55, aq_56, aq_57, aq_58, aq_59, aq_60, aq_61, aq_62, aq_63, aq_64, aq_65, aq_66, aq_67, aq_68, aq_69, aq_70, aq_71, aq_72, aq_73, aq_74, aq_75, aq_76, aq_77, aq_78, aq_79, aq_80, aq_81]
theorem lp_99a {l1 : Int32} {l2 l3 : Nat} (h1 : l2 + l3 ≤ 4100) : ∀ (q k g : Nat) (z : Nat → Nat → Int32), k + q ≤ l3 → B_99_54 f  (g + q) 52 l1 (nI l2) (nI l3) (nI k) (hq z w c s) = B_99_54 f  g 52 l1 (nI l2) (nI l3) (nI (k + q)) (hq (cpz z 62 61 (l2 + k) (20 + k) q) w c s) := by
  intro q
  induction q with
  | zero => intro k g z h; rw [cpz_0]; rfl
  | succ q ih =>
    intro k g z h
    have e1 := ih (k + 1) g (va_up z 62 (upd (z 62) (20 + k) (z 61 (l2 + k)))) (by omega)
    rw [show l2 + (k + 1) = l2 + k + 1 from rfl, show 20 + (k + 1) = 20 + k + 1 from rfl, cpz_s (Or.inl (by decide)), show k + 1 + q = k + (q + 1) by omega] at e1
    rw [← e1, show g + (q + 1) = (g + q) + 1 from rfl]
    have y0 : ¬ nI (l3) ≤ nI k := nI_ge (by omega) (by omega)
    have y1 : ev_in (nI (l2 + k)) 4100 = true := ev_in_nI (by omega) (by omega)
    have y2 : ev_in (nI (20 + k)) 4200 = true := ev_in_nI (by omega) (by omega)
    have y3 : (nI (l2 + k)).toNatClampNeg = l2 + k := nI_clamp (by omega)
    have y4 : (nI (20 + k)).toNatClampNeg = 20 + k := nI_clamp (by omega)
    simp only [B_99_54, y0, y1, y2, y3, y4, nI_add, nI_1, show (20 : Int32) = nI 20 from rfl, dg_1, db_1, db_0, dl_1, dp_1, dv_1, dv_x, di_1, di_x, dw_1, ec_eq, ec_ne, ec_lt, ec_ge, ec_gt, ec_le, hq_z, hq_wz, hq_wc, hq_thr, hq_p29, hq_pw, eq_self, decide_true, decide_false, not_true_eq_false, not_false_eq_true, kq_0, kq_1, kq_2, kq_3, kq_4, kq_5, kq_6, kq_7, kq_8, kq_9, kq_10, kq_11, kq_12, kq_13, kq_14, kq_15, kq_16, kq_17, kq_18, kq_19, kq_20, kq_21, kq_22, kq_23, kq_24, kq_25, kq_26, kq_27, kq_28, kq_29, kq_30, kq_31, kq_32, kq_33, kq_34, kq_35, kq_36, kq_37, kq_38, kq_39, kq_40, kq_41, kq_42, kq_43, kq_44, kq_45, kq_46, kq_47, kq_48, kq_49, kq_50, kq_51, kq_52, kq_53, kq_54, kq_55, kq_56, kq_57, kq_58, kq_59, kq_60, kq_61, kq_62, kq_63, kq_64, kq_65, kq_66, kq_67, kq_68, kq_69, kq_70, kq_71, kq_72, kq_73, kq_74, kq_75, kq_76, kq_77, kq_78, kq_79, kq_80, kq_81, pq_0_0, pq_0_1, pq_0_2, pq_0_3, pq_0_4, pq_0_5, pq_0_6, pq_0_7, pq_1_0, pq_1_1, pq_1_2, pq_1_3, pq_1_4, pq_1_5, pq_1_6, pq_1_7, pq_10_0, pq_10_1, pq_10_2, pq_10_3, pq_15_0, pq_17_0, pq_19_0, pq_21_0, pq_21_1, pq_21_2, pq_21_3, pq_21_4, pq_21_5, pq_28_0, pq_30_0, pq_30_1, pq_30_2, pq_31_0, pq_35_0, pq_35_1, pq_35_2, pq_36_0, pq_40_0, pq_40_1, pq_40_2, pq_41_0, pq_45_0, pq_45_1, pq_45_2, pq_46_0, pq_50_0, pq_52_0, pq_52_1, pq_52_2, pq_52_3, pq_52_4, pq_52_5, pq_52_6, pq_52_8, pq_52_10, pq_52_11, pq_52_14, pq_52_15, pq_52_16, pq_52_17, pq_52_18, pq_52_27, pq_52_29, pq_52_30, pq_52_31, pq_52_32, pq_52_33, pq_52_34, pq_52_35, pq_52_36, pq_52_37, pq_52_38, pq_52_39, pq_52_40, pq_52_41, aq_1, aq_11, aq_12, aq_13, aq_14, aq_16, aq_18, aq_20, aq_22, aq_23, aq_24, aq_25, aq_26, aq_27, aq_29, aq_32, aq_33, aq_34, aq_37, aq_38, aq_39, aq_42, aq_43, aq_44, aq_47, aq_48, aq_49, aq_51, aq_53, aq_54, aq_55, aq_56, aq_57, aq_58, aq_59, aq_60, aq_61, aq_62, aq_63, aq_64, aq_65, aq_66, aq_67, aq_68, aq_69, aq_70, aq_71, aq_72, aq_73, aq_74, aq_75, aq_76, aq_77, aq_78, aq_79, aq_80, aq_81]
theorem lp_99b {l1 : Int32} {sz : Nat} (h1 : sz ≤ 4100) : ∀ (q k g : Nat) (z : Nat → Nat → Int32) (x0 : z 52 12 = nI sz), k + q ≤ sz → B_99_124 f  (g + q) 52 l1 (nI k) (hq z w c s) = B_99_124 f  g 52 l1 (nI (k + q)) (hq (cpz z 61 62 (0 + k) (0 + k) q) w c s) := by
  intro q
  induction q with
  | zero => intro k g z x0 h; rw [cpz_0]; rfl
  | succ q ih =>
    intro k g z x0 h
    have e1 := ih (k + 1) g (va_up z 61 (upd (z 61) (0 + k) (z 62 (0 + k)))) ((congrFun (va_up_ne _ _ (by decide)) _).trans x0) (by omega)
    rw [show 0 + (k + 1) = 0 + k + 1 from rfl, cpz_s (Or.inl (by decide)), show k + 1 + q = k + (q + 1) by omega] at e1
    rw [← e1, show g + (q + 1) = (g + q) + 1 from rfl]
    have y0 : ¬ nI (sz) ≤ nI k := nI_ge (by omega) (by omega)
    have y1 : ev_in (nI (0 + k)) 4200 = true := ev_in_nI (by omega) (by omega)
    have y2 : ev_in (nI (0 + k)) 4100 = true := ev_in_nI (by omega) (by omega)
    have y3 : (nI (0 + k)).toNatClampNeg = 0 + k := nI_clamp (by omega)
    have y4 : (nI (0 + k)).toNatClampNeg = 0 + k := nI_clamp (by omega)
    rw [show (0 : Nat) + k = k by omega] at y1 y2 y3 y4 ⊢
    simp only [B_99_124, y0, y1, y2, y3, y4, x0, nI_add, nI_1, dg_1, db_1, db_0, dl_1, dp_1, dv_1, dv_x, di_1, di_x, dw_1, ec_eq, ec_ne, ec_lt, ec_ge, ec_gt, ec_le, hq_z, hq_wz, hq_wc, hq_thr, hq_p29, hq_pw, eq_self, decide_true, decide_false, not_true_eq_false, not_false_eq_true, kq_0, kq_1, kq_2, kq_3, kq_4, kq_5, kq_6, kq_7, kq_8, kq_9, kq_10, kq_11, kq_12, kq_13, kq_14, kq_15, kq_16, kq_17, kq_18, kq_19, kq_20, kq_21, kq_22, kq_23, kq_24, kq_25, kq_26, kq_27, kq_28, kq_29, kq_30, kq_31, kq_32, kq_33, kq_34, kq_35, kq_36, kq_37, kq_38, kq_39, kq_40, kq_41, kq_42, kq_43, kq_44, kq_45, kq_46, kq_47, kq_48, kq_49, kq_50, kq_51, kq_52, kq_53, kq_54, kq_55, kq_56, kq_57, kq_58, kq_59, kq_60, kq_61, kq_62, kq_63, kq_64, kq_65, kq_66, kq_67, kq_68, kq_69, kq_70, kq_71, kq_72, kq_73, kq_74, kq_75, kq_76, kq_77, kq_78, kq_79, kq_80, kq_81, pq_0_0, pq_0_1, pq_0_2, pq_0_3, pq_0_4, pq_0_5, pq_0_6, pq_0_7, pq_1_0, pq_1_1, pq_1_2, pq_1_3, pq_1_4, pq_1_5, pq_1_6, pq_1_7, pq_10_0, pq_10_1, pq_10_2, pq_10_3, pq_15_0, pq_17_0, pq_19_0, pq_21_0, pq_21_1, pq_21_2, pq_21_3, pq_21_4, pq_21_5, pq_28_0, pq_30_0, pq_30_1, pq_30_2, pq_31_0, pq_35_0, pq_35_1, pq_35_2, pq_36_0, pq_40_0, pq_40_1, pq_40_2, pq_41_0, pq_45_0, pq_45_1, pq_45_2, pq_46_0, pq_50_0, pq_52_0, pq_52_1, pq_52_2, pq_52_3, pq_52_4, pq_52_5, pq_52_6, pq_52_8, pq_52_10, pq_52_11, pq_52_14, pq_52_15, pq_52_16, pq_52_17, pq_52_18, pq_52_27, pq_52_29, pq_52_30, pq_52_31, pq_52_32, pq_52_33, pq_52_34, pq_52_35, pq_52_36, pq_52_37, pq_52_38, pq_52_39, pq_52_40, pq_52_41, aq_1, aq_11, aq_12, aq_13, aq_14, aq_16, aq_18, aq_20, aq_22, aq_23, aq_24, aq_25, aq_26, aq_27, aq_29, aq_32, aq_33, aq_34, aq_37, aq_38, aq_39, aq_42, aq_43, aq_44, aq_47, aq_48, aq_49, aq_51, aq_53, aq_54, aq_55, aq_56, aq_57, aq_58, aq_59, aq_60, aq_61, aq_62, aq_63, aq_64, aq_65, aq_66, aq_67, aq_68, aq_69, aq_70, aq_71, aq_72, aq_73, aq_74, aq_75, aq_76, aq_77, aq_78, aq_79, aq_80, aq_81]
theorem lp_112 {l1 : Int32} {l2 : Nat} (h1 : l2 ≤ 2000) : ∀ (q k g : Nat) (z : Nat → Nat → Int32), k + q ≤ l2 → B_112_29 f  (g + q) 52 l1 (nI l2) (nI k) (hq z w c s) = B_112_29 f  g 52 l1 (nI l2) (nI (k + q)) (hq (cpz z 61 60 (0 + k) (0 + k) q) w c s) := by
  intro q
  induction q with
  | zero => intro k g z h; rw [cpz_0]; rfl
  | succ q ih =>
    intro k g z h
    have e1 := ih (k + 1) g (va_up z 61 (upd (z 61) (0 + k) (z 60 (0 + k)))) (by omega)
    rw [show 0 + (k + 1) = 0 + k + 1 from rfl, cpz_s (Or.inl (by decide)), show k + 1 + q = k + (q + 1) by omega] at e1
    rw [← e1, show g + (q + 1) = (g + q) + 1 from rfl]
    have y0 : ¬ nI (l2) ≤ nI k := nI_ge (by omega) (by omega)
    have y1 : ev_in (nI (0 + k)) 2000 = true := ev_in_nI (by omega) (by omega)
    have y2 : ev_in (nI (0 + k)) 4100 = true := ev_in_nI (by omega) (by omega)
    have y3 : (nI (0 + k)).toNatClampNeg = 0 + k := nI_clamp (by omega)
    have y4 : (nI (0 + k)).toNatClampNeg = 0 + k := nI_clamp (by omega)
    rw [show (0 : Nat) + k = k by omega] at y1 y2 y3 y4 ⊢
    simp only [B_112_29, y0, y1, y2, y3, y4, nI_add, nI_1, dg_1, db_1, db_0, dl_1, dp_1, dv_1, dv_x, di_1, di_x, dw_1, ec_eq, ec_ne, ec_lt, ec_ge, ec_gt, ec_le, hq_z, hq_wz, hq_wc, hq_thr, hq_p29, hq_pw, eq_self, decide_true, decide_false, not_true_eq_false, not_false_eq_true, kq_0, kq_1, kq_2, kq_3, kq_4, kq_5, kq_6, kq_7, kq_8, kq_9, kq_10, kq_11, kq_12, kq_13, kq_14, kq_15, kq_16, kq_17, kq_18, kq_19, kq_20, kq_21, kq_22, kq_23, kq_24, kq_25, kq_26, kq_27, kq_28, kq_29, kq_30, kq_31, kq_32, kq_33, kq_34, kq_35, kq_36, kq_37, kq_38, kq_39, kq_40, kq_41, kq_42, kq_43, kq_44, kq_45, kq_46, kq_47, kq_48, kq_49, kq_50, kq_51, kq_52, kq_53, kq_54, kq_55, kq_56, kq_57, kq_58, kq_59, kq_60, kq_61, kq_62, kq_63, kq_64, kq_65, kq_66, kq_67, kq_68, kq_69, kq_70, kq_71, kq_72, kq_73, kq_74, kq_75, kq_76, kq_77, kq_78, kq_79, kq_80, kq_81, pq_0_0, pq_0_1, pq_0_2, pq_0_3, pq_0_4, pq_0_5, pq_0_6, pq_0_7, pq_1_0, pq_1_1, pq_1_2, pq_1_3, pq_1_4, pq_1_5, pq_1_6, pq_1_7, pq_10_0, pq_10_1, pq_10_2, pq_10_3, pq_15_0, pq_17_0, pq_19_0, pq_21_0, pq_21_1, pq_21_2, pq_21_3, pq_21_4, pq_21_5, pq_28_0, pq_30_0, pq_30_1, pq_30_2, pq_31_0, pq_35_0, pq_35_1, pq_35_2, pq_36_0, pq_40_0, pq_40_1, pq_40_2, pq_41_0, pq_45_0, pq_45_1, pq_45_2, pq_46_0, pq_50_0, pq_52_0, pq_52_1, pq_52_2, pq_52_3, pq_52_4, pq_52_5, pq_52_6, pq_52_8, pq_52_10, pq_52_11, pq_52_14, pq_52_15, pq_52_16, pq_52_17, pq_52_18, pq_52_27, pq_52_29, pq_52_30, pq_52_31, pq_52_32, pq_52_33, pq_52_34, pq_52_35, pq_52_36, pq_52_37, pq_52_38, pq_52_39, pq_52_40, pq_52_41, aq_1, aq_11, aq_12, aq_13, aq_14, aq_16, aq_18, aq_20, aq_22, aq_23, aq_24, aq_25, aq_26, aq_27, aq_29, aq_32, aq_33, aq_34, aq_37, aq_38, aq_39, aq_42, aq_43, aq_44, aq_47, aq_48, aq_49, aq_51, aq_53, aq_54, aq_55, aq_56, aq_57, aq_58, aq_59, aq_60, aq_61, aq_62, aq_63, aq_64, aq_65, aq_66, aq_67, aq_68, aq_69, aq_70, aq_71, aq_72, aq_73, aq_74, aq_75, aq_76, aq_77, aq_78, aq_79, aq_80, aq_81]
end Copy56
