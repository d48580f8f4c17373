-- the reference's later header, in its own row
section Later61
variable {f c s : Nat} {w : Nat → Option Nat}
theorem lp_96 {C : Nat → Int32 → Int32 → Int32 → hp_T → Option ev_O} {l1 : Int32} {l2 l3 l4 : Nat} (h1 : l3 + l4 ≤ 4100) (h2 : l2 + l4 ≤ 4200) (hds : l2 + 0 ≤ l3 + 0) : ∀ (q k g : Nat) (z : Nat → Nat → Int32), k + q ≤ l4 → B_96_66 f C (g + q) 52 l1 (nI l2) (nI l3) (nI l4) 1 (nI k) (hq z w c s) = B_96_66 f C g 52 l1 (nI l2) (nI l3) (nI l4) 1 (nI (k + q)) (hq (cpz z 62 62 (l3 + k) (l2 + k) q) w c s) := by
  intro q
  induction q with
  | zero => intro k g z h; rw [cpz_0]; rfl
  | succ q ih =>
    intro k g z h
    have e1 := ih (k + 1) g (va_up z 62 (upd (z 62) (l2 + k) (z 62 (l3 + k)))) (by omega)
    rw [show l3 + (k + 1) = l3 + k + 1 from rfl, show l2 + (k + 1) = l2 + k + 1 from rfl, cpz_s (Or.inr (by omega)), show k + 1 + q = k + (q + 1) by omega] at e1
    rw [← e1, show g + (q + 1) = (g + q) + 1 from rfl]
    have y0 : ¬ nI (l4) ≤ nI k := nI_ge (by omega) (by omega)
    have y1 : ev_in (nI (l3 + k)) 4200 = true := ev_in_nI (by omega) (by omega)
    have y2 : ev_in (nI (l2 + k)) 4200 = true := ev_in_nI (by omega) (by omega)
    have y3 : (nI (l3 + k)).toNatClampNeg = l3 + k := nI_clamp (by omega)
    have y4 : (nI (l2 + k)).toNatClampNeg = l2 + k := nI_clamp (by omega)
    simp only [B_96_66, y0, y1, y2, y3, y4, nI_add, nI_1, show ¬ (1 : Int32) = 0 by decide, dg_1, db_1, db_0, dl_1, dp_1, dv_1, dv_x, di_1, di_x, dw_1, ec_eq, ec_ne, ec_lt, ec_ge, ec_gt, ec_le, hq_z, hq_wz, hq_wc, hq_thr, hq_p29, hq_pw, eq_self, decide_true, decide_false, not_true_eq_false, not_false_eq_true, kq_0, kq_1, kq_2, kq_3, kq_4, kq_5, kq_6, kq_7, kq_8, kq_9, kq_10, kq_11, kq_12, kq_13, kq_14, kq_15, kq_16, kq_17, kq_18, kq_19, kq_20, kq_21, kq_22, kq_23, kq_24, kq_25, kq_26, kq_27, kq_28, kq_29, kq_30, kq_31, kq_32, kq_33, kq_34, kq_35, kq_36, kq_37, kq_38, kq_39, kq_40, kq_41, kq_42, kq_43, kq_44, kq_45, kq_46, kq_47, kq_48, kq_49, kq_50, kq_51, kq_52, kq_53, kq_54, kq_55, kq_56, kq_57, kq_58, kq_59, kq_60, kq_61, kq_62, kq_63, kq_64, kq_65, kq_66, kq_67, kq_68, kq_69, kq_70, kq_71, kq_72, kq_73, kq_74, kq_75, kq_76, kq_77, kq_78, kq_79, kq_80, kq_81, pq_0_0, pq_0_1, pq_0_2, pq_0_3, pq_0_4, pq_0_5, pq_0_6, pq_0_7, pq_1_0, pq_1_1, pq_1_2, pq_1_3, pq_1_4, pq_1_5, pq_1_6, pq_1_7, pq_10_0, pq_10_1, pq_10_2, pq_10_3, pq_15_0, pq_17_0, pq_19_0, pq_21_0, pq_21_1, pq_21_2, pq_21_3, pq_21_4, pq_21_5, pq_28_0, pq_30_0, pq_30_1, pq_30_2, pq_31_0, pq_35_0, pq_35_1, pq_35_2, pq_36_0, pq_40_0, pq_40_1, pq_40_2, pq_41_0, pq_45_0, pq_45_1, pq_45_2, pq_46_0, pq_50_0, pq_52_0, pq_52_1, pq_52_2, pq_52_3, pq_52_4, pq_52_5, pq_52_6, pq_52_8, pq_52_10, pq_52_11, pq_52_14, pq_52_15, pq_52_16, pq_52_17, pq_52_18, pq_52_27, pq_52_29, pq_52_30, pq_52_31, pq_52_32, pq_52_33, pq_52_34, pq_52_35, pq_52_36, pq_52_37, pq_52_38, pq_52_39, pq_52_40, pq_52_41, aq_1, aq_11, aq_12, aq_13, aq_14, aq_16, aq_18, aq_20, aq_22, aq_23, aq_24, aq_25, aq_26, aq_27, aq_29, aq_32, aq_33, aq_34, aq_37, aq_38, aq_39, aq_42, aq_43, aq_44, aq_47, aq_48, aq_49, aq_51, aq_53, aq_54, aq_55, aq_56, aq_57, aq_58, aq_59, aq_60, aq_61, aq_62, aq_63, aq_64, aq_65, aq_66, aq_67, aq_68, aq_69, aq_70, aq_71, aq_72, aq_73, aq_74, aq_75, aq_76, aq_77, aq_78, aq_79, aq_80, aq_81]
variable {B : Nat → Nat} {e : Nat}
theorem m96_l (he6 : e ≤ 60) (hB : ∀ i, B i < 256) (hf : 300 < f) : ∀ (gS t to : Nat) (H : Nat → Nat) (gC : Nat) (z : Nat → Nat → Int32), (∀ j, t ≤ j → j < e → z 62 j = nI (B j)) → (∀ i, H i < 256) → (∀ j, j < to → z 62 j = nI (H j)) → to ≤ t → t ≤ e → e < t + gS → e < t + gC → woN B e gS t = none → ∃ z', B_96_6 f gC 52 (nI e) (nI to) (nI t) (hq z w c s) = B_96_124 f f 52 (nI (lhF B e gS t to H).2) (hq z' w c s) ∧ (∀ a, a ≠ 62 → z' a = z a) ∧ ∀ j, j < (lhF B e gS t to H).2 → z' 62 j = nI ((lhF B e gS t to H).1 j) := by
  intro gS
  induction gS with
  | zero => intro t to H gC z _ _ _ _ h1 h2; omega
  | succ gS ih =>
    intro t to H gC z hb hHl hH hto hte hS hC hw
    obtain ⟨g, rfl⟩ : ∃ g, gC = g + 1 := ⟨gC - 1, by omega⟩
    by_cases h1 : e ≤ t
    · have h1' : nI e ≤ nI t := nI_le h1 (by omega)
      refine ⟨z, ?_, fun _ _ => rfl, ?_⟩
      · simp only [B_96_6, ec_ge, h1', decide_true, db_1, lhF, h1, true_or, if_true]
      · simp only [lhF, h1, true_or, if_true]; exact hH
    · have h1' : ¬ nI e ≤ nI t := nI_ge (by omega) (by omega)
      have v0 := hb t (by omega) (by omega)
      have b0 := hB t
      have b1' := hB (t + 1)
      have a0 : ev_in (nI t) 4200 = true := ev_in_nI (by omega) (by omega)
      have c0 : (nI t).toNatClampNeg = t := nI_clamp (by omega)
      by_cases h2 : B t = 0
      · refine ⟨z, ?_, fun _ _ => rfl, ?_⟩
        · simp only [B_96_6, h1', a0, c0, v0, h2, nI_0, lhF, or_true, if_true, dg_1, db_1, db_0, dl_1, dp_1, dv_1, dv_x, di_1, di_x, dw_1, ec_eq, ec_ne, ec_lt, ec_ge, ec_gt, ec_le, hq_z, hq_wz, hq_wc, hq_thr, hq_p29, hq_pw, eq_self, decide_true, decide_false, not_true_eq_false, not_false_eq_true, kq_0, kq_1, kq_2, kq_3, kq_4, kq_5, kq_6, kq_7, kq_8, kq_9, kq_10, kq_11, kq_12, kq_13, kq_14, kq_15, kq_16, kq_17, kq_18, kq_19, kq_20, kq_21, kq_22, kq_23, kq_24, kq_25, kq_26, kq_27, kq_28, kq_29, kq_30, kq_31, kq_32, kq_33, kq_34, kq_35, kq_36, kq_37, kq_38, kq_39, kq_40, kq_41, kq_42, kq_43, kq_44, kq_45, kq_46, kq_47, kq_48, kq_49, kq_50, kq_51, kq_52, kq_53, kq_54, kq_55, kq_56, kq_57, kq_58, kq_59, kq_60, kq_61, kq_62, kq_63, kq_64, kq_65, kq_66, kq_67, kq_68, kq_69, kq_70, kq_71, kq_72, kq_73, kq_74, kq_75, kq_76, kq_77, kq_78, kq_79, kq_80, kq_81, pq_0_0, pq_0_1, pq_0_2, pq_0_3, pq_0_4, pq_0_5, pq_0_6, pq_0_7, pq_1_0, pq_1_1, pq_1_2, pq_1_3, pq_1_4, pq_1_5, pq_1_6, pq_1_7, pq_10_0, pq_10_1, pq_10_2, pq_10_3, pq_15_0, pq_17_0, pq_19_0, pq_21_0, pq_21_1, pq_21_2, pq_21_3, pq_21_4, pq_21_5, pq_28_0, pq_30_0, pq_30_1, pq_30_2, pq_31_0, pq_35_0, pq_35_1, pq_35_2, pq_36_0, pq_40_0, pq_40_1, pq_40_2, pq_41_0, pq_45_0, pq_45_1, pq_45_2, pq_46_0, pq_50_0, pq_52_0, pq_52_1, pq_52_2, pq_52_3, pq_52_4, pq_52_5, pq_52_6, pq_52_8, pq_52_10, pq_52_11, pq_52_14, pq_52_15, pq_52_16, pq_52_17, pq_52_18, pq_52_27, pq_52_29, pq_52_30, pq_52_31, pq_52_32, pq_52_33, pq_52_34, pq_52_35, pq_52_36, pq_52_37, pq_52_38, pq_52_39, pq_52_40, pq_52_41, aq_1, aq_11, aq_12, aq_13, aq_14, aq_16, aq_18, aq_20, aq_22, aq_23, aq_24, aq_25, aq_26, aq_27, aq_29, aq_32, aq_33, aq_34, aq_37, aq_38, aq_39, aq_42, aq_43, aq_44, aq_47, aq_48, aq_49, aq_51, aq_53, aq_54, aq_55, aq_56, aq_57, aq_58, aq_59, aq_60, aq_61, aq_62, aq_63, aq_64, aq_65, aq_66, aq_67, aq_68, aq_69, aq_70, aq_71, aq_72, aq_73, aq_74, aq_75, aq_76, aq_77, aq_78, aq_79, aq_80, aq_81]
        · simp only [lhF, h2, or_true, if_true]; exact hH
      · have h2' : ¬ nI (B t) = 0 := nI_ne0 (by omega) (by omega)
        have h0 : ¬ (e ≤ t ∨ B t = 0) := by omega
        have hz := opz_le (B := B) (t := t) (e := e) (by omega)
        have ho : ¬ opz B t e = 0 := by
          intro h9
          simp only [woN, h0, if_false, h9, if_true] at hw
          cases hw
        simp only [woN, h0, if_false, ho] at hw
        -- the option's length
        have s1 : B_96_6 f (g + 1) 52 (nI e) (nI to) (nI t) (hq z w c s) = B_96_42 f (B_96_6 f g) 52 (nI e) (nI to) (nI t) (nI (opz B t e)) (hq z w c s) := by
          by_cases h3 : B t = 1
          · have h3' : nI (B t) = 1 := by rw [h3]; rfl
            have ho1 : opz B t e = 1 := by unfold opz; rw [if_pos h3]
            simp only [B_96_6, h1', a0, c0, v0, h3', show ¬ (1 : Int32) = 0 by decide, ho1, dg_1, db_1, db_0, dl_1, dp_1, dv_1, dv_x, di_1, di_x, dw_1, ec_eq, ec_ne, ec_lt, ec_ge, ec_gt, ec_le, hq_z, hq_wz, hq_wc, hq_thr, hq_p29, hq_pw, eq_self, decide_true, decide_false, not_true_eq_false, not_false_eq_true, kq_0, kq_1, kq_2, kq_3, kq_4, kq_5, kq_6, kq_7, kq_8, kq_9, kq_10, kq_11, kq_12, kq_13, kq_14, kq_15, kq_16, kq_17, kq_18, kq_19, kq_20, kq_21, kq_22, kq_23, kq_24, kq_25, kq_26, kq_27, kq_28, kq_29, kq_30, kq_31, kq_32, kq_33, kq_34, kq_35, kq_36, kq_37, kq_38, kq_39, kq_40, kq_41, kq_42, kq_43, kq_44, kq_45, kq_46, kq_47, kq_48, kq_49, kq_50, kq_51, kq_52, kq_53, kq_54, kq_55, kq_56, kq_57, kq_58, kq_59, kq_60, kq_61, kq_62, kq_63, kq_64, kq_65, kq_66, kq_67, kq_68, kq_69, kq_70, kq_71, kq_72, kq_73, kq_74, kq_75, kq_76, kq_77, kq_78, kq_79, kq_80, kq_81, pq_0_0, pq_0_1, pq_0_2, pq_0_3, pq_0_4, pq_0_5, pq_0_6, pq_0_7, pq_1_0, pq_1_1, pq_1_2, pq_1_3, pq_1_4, pq_1_5, pq_1_6, pq_1_7, pq_10_0, pq_10_1, pq_10_2, pq_10_3, pq_15_0, pq_17_0, pq_19_0, pq_21_0, pq_21_1, pq_21_2, pq_21_3, pq_21_4, pq_21_5, pq_28_0, pq_30_0, pq_30_1, pq_30_2, pq_31_0, pq_35_0, pq_35_1, pq_35_2, pq_36_0, pq_40_0, pq_40_1, pq_40_2, pq_41_0, pq_45_0, pq_45_1, pq_45_2, pq_46_0, pq_50_0, pq_52_0, pq_52_1, pq_52_2, pq_52_3, pq_52_4, pq_52_5, pq_52_6, pq_52_8, pq_52_10, pq_52_11, pq_52_14, pq_52_15, pq_52_16, pq_52_17, pq_52_18, pq_52_27, pq_52_29, pq_52_30, pq_52_31, pq_52_32, pq_52_33, pq_52_34, pq_52_35, pq_52_36, pq_52_37, pq_52_38, pq_52_39, pq_52_40, pq_52_41, aq_1, aq_11, aq_12, aq_13, aq_14, aq_16, aq_18, aq_20, aq_22, aq_23, aq_24, aq_25, aq_26, aq_27, aq_29, aq_32, aq_33, aq_34, aq_37, aq_38, aq_39, aq_42, aq_43, aq_44, aq_47, aq_48, aq_49, aq_51, aq_53, aq_54, aq_55, aq_56, aq_57, aq_58, aq_59, aq_60, aq_61, aq_62, aq_63, aq_64, aq_65, aq_66, aq_67, aq_68, aq_69, aq_70, aq_71, aq_72, aq_73, aq_74, aq_75, aq_76, aq_77, aq_78, aq_79, aq_80, aq_81]; rfl
          · have h3' : ¬ nI (B t) = 1 := fun h => h3 ((nI_eq (b := 1) (by omega) (by omega)).mp h)
            have h4 : t + 1 < e ∧ opz B t e = B (t + 1) := by
              unfold opz at ho ⊢
              rw [if_neg h3] at ho ⊢
              by_cases h5 : e ≤ t + 1
              · rw [if_pos h5] at ho; omega
              · rw [if_neg h5] at ho ⊢
                by_cases h6 : B (t + 1) < 2 ∨ e < t + B (t + 1)
                · rw [if_pos h6] at ho; omega
                · rw [if_neg h6]; omega
            have v1 := hb (t + 1) (by omega) (by omega)
            have a1 : ev_in (nI (t + 1)) 4200 = true := ev_in_nI (by omega) (by omega)
            have c1 : (nI (t + 1)).toNatClampNeg = t + 1 := nI_clamp (by omega)
            simp only [B_96_6, h1', a0, c0, v0, h2', h3', nI_1, a1, c1, v1, h4.2, dg_1, db_1, db_0, dl_1, dp_1, dv_1, dv_x, di_1, di_x, dw_1, ec_eq, ec_ne, ec_lt, ec_ge, ec_gt, ec_le, hq_z, hq_wz, hq_wc, hq_thr, hq_p29, hq_pw, eq_self, decide_true, decide_false, not_true_eq_false, not_false_eq_true, kq_0, kq_1, kq_2, kq_3, kq_4, kq_5, kq_6, kq_7, kq_8, kq_9, kq_10, kq_11, kq_12, kq_13, kq_14, kq_15, kq_16, kq_17, kq_18, kq_19, kq_20, kq_21, kq_22, kq_23, kq_24, kq_25, kq_26, kq_27, kq_28, kq_29, kq_30, kq_31, kq_32, kq_33, kq_34, kq_35, kq_36, kq_37, kq_38, kq_39, kq_40, kq_41, kq_42, kq_43, kq_44, kq_45, kq_46, kq_47, kq_48, kq_49, kq_50, kq_51, kq_52, kq_53, kq_54, kq_55, kq_56, kq_57, kq_58, kq_59, kq_60, kq_61, kq_62, kq_63, kq_64, kq_65, kq_66, kq_67, kq_68, kq_69, kq_70, kq_71, kq_72, kq_73, kq_74, kq_75, kq_76, kq_77, kq_78, kq_79, kq_80, kq_81, pq_0_0, pq_0_1, pq_0_2, pq_0_3, pq_0_4, pq_0_5, pq_0_6, pq_0_7, pq_1_0, pq_1_1, pq_1_2, pq_1_3, pq_1_4, pq_1_5, pq_1_6, pq_1_7, pq_10_0, pq_10_1, pq_10_2, pq_10_3, pq_15_0, pq_17_0, pq_19_0, pq_21_0, pq_21_1, pq_21_2, pq_21_3, pq_21_4, pq_21_5, pq_28_0, pq_30_0, pq_30_1, pq_30_2, pq_31_0, pq_35_0, pq_35_1, pq_35_2, pq_36_0, pq_40_0, pq_40_1, pq_40_2, pq_41_0, pq_45_0, pq_45_1, pq_45_2, pq_46_0, pq_50_0, pq_52_0, pq_52_1, pq_52_2, pq_52_3, pq_52_4, pq_52_5, pq_52_6, pq_52_8, pq_52_10, pq_52_11, pq_52_14, pq_52_15, pq_52_16, pq_52_17, pq_52_18, pq_52_27, pq_52_29, pq_52_30, pq_52_31, pq_52_32, pq_52_33, pq_52_34, pq_52_35, pq_52_36, pq_52_37, pq_52_38, pq_52_39, pq_52_40, pq_52_41, aq_1, aq_11, aq_12, aq_13, aq_14, aq_16, aq_18, aq_20, aq_22, aq_23, aq_24, aq_25, aq_26, aq_27, aq_29, aq_32, aq_33, aq_34, aq_37, aq_38, aq_39, aq_42, aq_43, aq_44, aq_47, aq_48, aq_49, aq_51, aq_53, aq_54, aq_55, aq_56, aq_57, aq_58, aq_59, aq_60, aq_61, aq_62, aq_63, aq_64, aq_65, aq_66, aq_67, aq_68, aq_69, aq_70, aq_71, aq_72, aq_73, aq_74, aq_75, aq_76, aq_77, aq_78, aq_79, aq_80, aq_81]
        rw [s1]
        by_cases h4 : 128 ≤ B t
        · have h4' : ¬ nI (B t) < 128 := nI_nlt (b := 128) (by omega) (by omega)
          have s2 := lp_96 (f := f) (w := w) (c := c) (s := s) (C := B_96_6 f g) (l1 := nI e) (l2 := to) (l3 := t) (l4 := opz B t e) (by omega) (by omega) (by omega) (opz B t e) 0 (f - opz B t e) z (by omega)
          rw [show f - opz B t e + opz B t e = f by omega] at s2
          obtain ⟨z1, e1⟩ : ∃ x, x = cpz z 62 62 (t + 0) (to + 0) (opz B t e) := ⟨_, rfl⟩
          rw [← e1] at s2
          have n1 : ∀ a, a ≠ 62 → z1 a = z a := fun a ha => by rw [e1]; exact cpz_ne ha
          have t1 : ∀ i, z1 62 i = if to + 0 ≤ i ∧ i < to + 0 + opz B t e then z 62 (t + 0 + (i - (to + 0))) else z 62 i := fun i => by rw [e1]; exact cpz_at
          obtain ⟨g', hg'⟩ : ∃ g', f - opz B t e = g' + 1 := ⟨f - opz B t e - 1, by omega⟩
          rw [hg'] at s2
          have y0 : nI (opz B t e) ≤ nI (0 + opz B t e) := nI_le (by omega) (by omega)
          obtain ⟨z2, g1, g2, g3⟩ := ih (t + opz B t e) (to + opz B t e) (fun i => if to ≤ i ∧ i < to + opz B t e then B (t + (i - to)) else H i) g z1 (fun j h7 h8 => by rw [t1, if_neg (by omega)]; exact hb j (by omega) h8) (fun i => by show (if _ then _ else _) < 256; split; exact hB _; exact hHl _) (fun j h7 => by
            rw [t1]
            show _ = nI (if _ then _ else _)
            by_cases h : to ≤ j ∧ j < to + opz B t e
            · rw [if_pos (by omega), if_pos h, show t + 0 + (j - (to + 0)) = t + (j - to) by omega]; exact hb _ (by omega) (by omega)
            · rw [if_neg (by omega), if_neg h]; exact hH j (by omega)) (by omega) hz (by omega) (by omega) hw
          refine ⟨z2, ?_, fun a ha => by rw [g2 a ha, n1 a ha], ?_⟩
          · simp only [lhF, h0, if_false, h4, if_true]
            rw [← g1]
            have s3 : B_96_66 f (B_96_6 f g) f 52 (nI e) (nI to) (nI t) (nI (opz B t e)) (1 : Int32) (0 : Int32) (hq z w c s) = B_96_6 f g 52 (nI e) (nI (to + opz B t e)) (nI (t + opz B t e)) (hq z1 w c s) := by
              refine Eq.trans s2 ?_
              simp only [B_96_66, B_96_102, B_96_114, y0, show ¬ (1 : Int32) = 0 by decide, nI_add, dg_1, db_1, db_0, dl_1, dp_1, dv_1, dv_x, di_1, di_x, dw_1, ec_eq, ec_ne, ec_lt, ec_ge, ec_gt, ec_le, hq_z, hq_wz, hq_wc, hq_thr, hq_p29, hq_pw, eq_self, decide_true, decide_false, not_true_eq_false, not_false_eq_true, kq_0, kq_1, kq_2, kq_3, kq_4, kq_5, kq_6, kq_7, kq_8, kq_9, kq_10, kq_11, kq_12, kq_13, kq_14, kq_15, kq_16, kq_17, kq_18, kq_19, kq_20, kq_21, kq_22, kq_23, kq_24, kq_25, kq_26, kq_27, kq_28, kq_29, kq_30, kq_31, kq_32, kq_33, kq_34, kq_35, kq_36, kq_37, kq_38, kq_39, kq_40, kq_41, kq_42, kq_43, kq_44, kq_45, kq_46, kq_47, kq_48, kq_49, kq_50, kq_51, kq_52, kq_53, kq_54, kq_55, kq_56, kq_57, kq_58, kq_59, kq_60, kq_61, kq_62, kq_63, kq_64, kq_65, kq_66, kq_67, kq_68, kq_69, kq_70, kq_71, kq_72, kq_73, kq_74, kq_75, kq_76, kq_77, kq_78, kq_79, kq_80, kq_81, pq_0_0, pq_0_1, pq_0_2, pq_0_3, pq_0_4, pq_0_5, pq_0_6, pq_0_7, pq_1_0, pq_1_1, pq_1_2, pq_1_3, pq_1_4, pq_1_5, pq_1_6, pq_1_7, pq_10_0, pq_10_1, pq_10_2, pq_10_3, pq_15_0, pq_17_0, pq_19_0, pq_21_0, pq_21_1, pq_21_2, pq_21_3, pq_21_4, pq_21_5, pq_28_0, pq_30_0, pq_30_1, pq_30_2, pq_31_0, pq_35_0, pq_35_1, pq_35_2, pq_36_0, pq_40_0, pq_40_1, pq_40_2, pq_41_0, pq_45_0, pq_45_1, pq_45_2, pq_46_0, pq_50_0, pq_52_0, pq_52_1, pq_52_2, pq_52_3, pq_52_4, pq_52_5, pq_52_6, pq_52_8, pq_52_10, pq_52_11, pq_52_14, pq_52_15, pq_52_16, pq_52_17, pq_52_18, pq_52_27, pq_52_29, pq_52_30, pq_52_31, pq_52_32, pq_52_33, pq_52_34, pq_52_35, pq_52_36, pq_52_37, pq_52_38, pq_52_39, pq_52_40, pq_52_41, aq_1, aq_11, aq_12, aq_13, aq_14, aq_16, aq_18, aq_20, aq_22, aq_23, aq_24, aq_25, aq_26, aq_27, aq_29, aq_32, aq_33, aq_34, aq_37, aq_38, aq_39, aq_42, aq_43, aq_44, aq_47, aq_48, aq_49, aq_51, aq_53, aq_54, aq_55, aq_56, aq_57, aq_58, aq_59, aq_60, aq_61, aq_62, aq_63, aq_64, aq_65, aq_66, aq_67, aq_68, aq_69, aq_70, aq_71, aq_72, aq_73, aq_74, aq_75, aq_76, aq_77, aq_78, aq_79, aq_80, aq_81]
            simp only [B_96_42, B_96_61, a0, c0, v0, h4', s3, dg_1, db_1, db_0, dl_1, dp_1, dv_1, dv_x, di_1, di_x, dw_1, ec_eq, ec_ne, ec_lt, ec_ge, ec_gt, ec_le, hq_z, hq_wz, hq_wc, hq_thr, hq_p29, hq_pw, eq_self, decide_true, decide_false, not_true_eq_false, not_false_eq_true, kq_0, kq_1, kq_2, kq_3, kq_4, kq_5, kq_6, kq_7, kq_8, kq_9, kq_10, kq_11, kq_12, kq_13, kq_14, kq_15, kq_16, kq_17, kq_18, kq_19, kq_20, kq_21, kq_22, kq_23, kq_24, kq_25, kq_26, kq_27, kq_28, kq_29, kq_30, kq_31, kq_32, kq_33, kq_34, kq_35, kq_36, kq_37, kq_38, kq_39, kq_40, kq_41, kq_42, kq_43, kq_44, kq_45, kq_46, kq_47, kq_48, kq_49, kq_50, kq_51, kq_52, kq_53, kq_54, kq_55, kq_56, kq_57, kq_58, kq_59, kq_60, kq_61, kq_62, kq_63, kq_64, kq_65, kq_66, kq_67, kq_68, kq_69, kq_70, kq_71, kq_72, kq_73, kq_74, kq_75, kq_76, kq_77, kq_78, kq_79, kq_80, kq_81, pq_0_0, pq_0_1, pq_0_2, pq_0_3, pq_0_4, pq_0_5, pq_0_6, pq_0_7, pq_1_0, pq_1_1, pq_1_2, pq_1_3, pq_1_4, pq_1_5, pq_1_6, pq_1_7, pq_10_0, pq_10_1, pq_10_2, pq_10_3, pq_15_0, pq_17_0, pq_19_0, pq_21_0, pq_21_1, pq_21_2, pq_21_3, pq_21_4, pq_21_5, pq_28_0, pq_30_0, pq_30_1, pq_30_2, pq_31_0, pq_35_0, pq_35_1, pq_35_2, pq_36_0, pq_40_0, pq_40_1, pq_40_2, pq_41_0, pq_45_0, pq_45_1, pq_45_2, pq_46_0, pq_50_0, pq_52_0, pq_52_1, pq_52_2, pq_52_3, pq_52_4, pq_52_5, pq_52_6, pq_52_8, pq_52_10, pq_52_11, pq_52_14, pq_52_15, pq_52_16, pq_52_17, pq_52_18, pq_52_27, pq_52_29, pq_52_30, pq_52_31, pq_52_32, pq_52_33, pq_52_34, pq_52_35, pq_52_36, pq_52_37, pq_52_38, pq_52_39, pq_52_40, pq_52_41, aq_1, aq_11, aq_12, aq_13, aq_14, aq_16, aq_18, aq_20, aq_22, aq_23, aq_24, aq_25, aq_26, aq_27, aq_29, aq_32, aq_33, aq_34, aq_37, aq_38, aq_39, aq_42, aq_43, aq_44, aq_47, aq_48, aq_49, aq_51, aq_53, aq_54, aq_55, aq_56, aq_57, aq_58, aq_59, aq_60, aq_61, aq_62, aq_63, aq_64, aq_65, aq_66, aq_67, aq_68, aq_69, aq_70, aq_71, aq_72, aq_73, aq_74, aq_75, aq_76, aq_77, aq_78, aq_79, aq_80, aq_81]
          · simp only [lhF, h0, if_false, h4, if_true]; exact g3
        · have h4' : nI (B t) < 128 := nI_lt (b := 128) (by omega) (by omega)
          obtain ⟨z2, g1, g2, g3⟩ := ih (t + opz B t e) to H g z (fun j h7 h8 => hb j (by omega) h8) hHl hH (by omega) hz (by omega) (by omega) hw
          refine ⟨z2, ?_, g2, ?_⟩
          · simp only [lhF, h0, if_false, h4]
            rw [← g1]
            obtain ⟨g', hg'⟩ : ∃ g', f = g' + 1 := ⟨f - 1, by omega⟩
            have y0 : ¬ nI (opz B t e) ≤ 0 := nI_nle (by omega) (by omega)
            have s3 : B_96_66 f (B_96_6 f g) f 52 (nI e) (nI to) (nI t) (nI (opz B t e)) (0 : Int32) (0 : Int32) (hq z w c s) = B_96_6 f g 52 (nI e) (nI to) (nI (t + opz B t e)) (hq z w c s) := by
              have h9 : nI to + 0 = nI to := by rw [show (0 : Int32) = nI 0 from rfl, nI_add]; rfl
              rw [show B_96_66 f (B_96_6 f g) f = B_96_66 f (B_96_6 f g) (g' + 1) by rw [← hg']]
              simp only [B_96_66, B_96_102, B_96_114, y0, nI_add, h9, dg_1, db_1, db_0, dl_1, dp_1, dv_1, dv_x, di_1, di_x, dw_1, ec_eq, ec_ne, ec_lt, ec_ge, ec_gt, ec_le, hq_z, hq_wz, hq_wc, hq_thr, hq_p29, hq_pw, eq_self, decide_true, decide_false, not_true_eq_false, not_false_eq_true, kq_0, kq_1, kq_2, kq_3, kq_4, kq_5, kq_6, kq_7, kq_8, kq_9, kq_10, kq_11, kq_12, kq_13, kq_14, kq_15, kq_16, kq_17, kq_18, kq_19, kq_20, kq_21, kq_22, kq_23, kq_24, kq_25, kq_26, kq_27, kq_28, kq_29, kq_30, kq_31, kq_32, kq_33, kq_34, kq_35, kq_36, kq_37, kq_38, kq_39, kq_40, kq_41, kq_42, kq_43, kq_44, kq_45, kq_46, kq_47, kq_48, kq_49, kq_50, kq_51, kq_52, kq_53, kq_54, kq_55, kq_56, kq_57, kq_58, kq_59, kq_60, kq_61, kq_62, kq_63, kq_64, kq_65, kq_66, kq_67, kq_68, kq_69, kq_70, kq_71, kq_72, kq_73, kq_74, kq_75, kq_76, kq_77, kq_78, kq_79, kq_80, kq_81, pq_0_0, pq_0_1, pq_0_2, pq_0_3, pq_0_4, pq_0_5, pq_0_6, pq_0_7, pq_1_0, pq_1_1, pq_1_2, pq_1_3, pq_1_4, pq_1_5, pq_1_6, pq_1_7, pq_10_0, pq_10_1, pq_10_2, pq_10_3, pq_15_0, pq_17_0, pq_19_0, pq_21_0, pq_21_1, pq_21_2, pq_21_3, pq_21_4, pq_21_5, pq_28_0, pq_30_0, pq_30_1, pq_30_2, pq_31_0, pq_35_0, pq_35_1, pq_35_2, pq_36_0, pq_40_0, pq_40_1, pq_40_2, pq_41_0, pq_45_0, pq_45_1, pq_45_2, pq_46_0, pq_50_0, pq_52_0, pq_52_1, pq_52_2, pq_52_3, pq_52_4, pq_52_5, pq_52_6, pq_52_8, pq_52_10, pq_52_11, pq_52_14, pq_52_15, pq_52_16, pq_52_17, pq_52_18, pq_52_27, pq_52_29, pq_52_30, pq_52_31, pq_52_32, pq_52_33, pq_52_34, pq_52_35, pq_52_36, pq_52_37, pq_52_38, pq_52_39, pq_52_40, pq_52_41, aq_1, aq_11, aq_12, aq_13, aq_14, aq_16, aq_18, aq_20, aq_22, aq_23, aq_24, aq_25, aq_26, aq_27, aq_29, aq_32, aq_33, aq_34, aq_37, aq_38, aq_39, aq_42, aq_43, aq_44, aq_47, aq_48, aq_49, aq_51, aq_53, aq_54, aq_55, aq_56, aq_57, aq_58, aq_59, aq_60, aq_61, aq_62, aq_63, aq_64, aq_65, aq_66, aq_67, aq_68, aq_69, aq_70, aq_71, aq_72, aq_73, aq_74, aq_75, aq_76, aq_77, aq_78, aq_79, aq_80, aq_81]
            simp only [B_96_42, B_96_61, a0, c0, v0, h4', s3, dg_1, db_1, db_0, dl_1, dp_1, dv_1, dv_x, di_1, di_x, dw_1, ec_eq, ec_ne, ec_lt, ec_ge, ec_gt, ec_le, hq_z, hq_wz, hq_wc, hq_thr, hq_p29, hq_pw, eq_self, decide_true, decide_false, not_true_eq_false, not_false_eq_true, kq_0, kq_1, kq_2, kq_3, kq_4, kq_5, kq_6, kq_7, kq_8, kq_9, kq_10, kq_11, kq_12, kq_13, kq_14, kq_15, kq_16, kq_17, kq_18, kq_19, kq_20, kq_21, kq_22, kq_23, kq_24, kq_25, kq_26, kq_27, kq_28, kq_29, kq_30, kq_31, kq_32, kq_33, kq_34, kq_35, kq_36, kq_37, kq_38, kq_39, kq_40, kq_41, kq_42, kq_43, kq_44, kq_45, kq_46, kq_47, kq_48, kq_49, kq_50, kq_51, kq_52, kq_53, kq_54, kq_55, kq_56, kq_57, kq_58, kq_59, kq_60, kq_61, kq_62, kq_63, kq_64, kq_65, kq_66, kq_67, kq_68, kq_69, kq_70, kq_71, kq_72, kq_73, kq_74, kq_75, kq_76, kq_77, kq_78, kq_79, kq_80, kq_81, pq_0_0, pq_0_1, pq_0_2, pq_0_3, pq_0_4, pq_0_5, pq_0_6, pq_0_7, pq_1_0, pq_1_1, pq_1_2, pq_1_3, pq_1_4, pq_1_5, pq_1_6, pq_1_7, pq_10_0, pq_10_1, pq_10_2, pq_10_3, pq_15_0, pq_17_0, pq_19_0, pq_21_0, pq_21_1, pq_21_2, pq_21_3, pq_21_4, pq_21_5, pq_28_0, pq_30_0, pq_30_1, pq_30_2, pq_31_0, pq_35_0, pq_35_1, pq_35_2, pq_36_0, pq_40_0, pq_40_1, pq_40_2, pq_41_0, pq_45_0, pq_45_1, pq_45_2, pq_46_0, pq_50_0, pq_52_0, pq_52_1, pq_52_2, pq_52_3, pq_52_4, pq_52_5, pq_52_6, pq_52_8, pq_52_10, pq_52_11, pq_52_14, pq_52_15, pq_52_16, pq_52_17, pq_52_18, pq_52_27, pq_52_29, pq_52_30, pq_52_31, pq_52_32, pq_52_33, pq_52_34, pq_52_35, pq_52_36, pq_52_37, pq_52_38, pq_52_39, pq_52_40, pq_52_41, aq_1, aq_11, aq_12, aq_13, aq_14, aq_16, aq_18, aq_20, aq_22, aq_23, aq_24, aq_25, aq_26, aq_27, aq_29, aq_32, aq_33, aq_34, aq_37, aq_38, aq_39, aq_42, aq_43, aq_44, aq_47, aq_48, aq_49, aq_51, aq_53, aq_54, aq_55, aq_56, aq_57, aq_58, aq_59, aq_60, aq_61, aq_62, aq_63, aq_64, aq_65, aq_66, aq_67, aq_68, aq_69, aq_70, aq_71, aq_72, aq_73, aq_74, aq_75, aq_76, aq_77, aq_78, aq_79, aq_80, aq_81]
          · simp only [lhF, h0, if_false, h4]; exact g3
theorem m96_p {T : Nat} (hT : T ≤ 60) (hT4 : T % 4 = 0) : ∀ (k to g : Nat) (H : Nat → Nat) (z : Nat → Nat → Int32), to + k = T → k < 4 → k < g → (∀ j, j < to → z 62 j = nI (H j)) → ∃ z', B_96_124 f g 52 (nI to) (hq z w c s) = some (.inl (some (.int (nI T))), hq (va_up z' 62 (upd (z' 62) 0 (64 ||| nI T / 4))) w c s) ∧ (∀ a, a ≠ 62 → z' a = z a) ∧ ∀ j, j < T → z' 62 j = nI (if to ≤ j then 0 else H j) := by
  intro k
  induction k with
  | zero =>
    intro to g H z h1 _ h3 hH
    obtain ⟨g, rfl⟩ : ∃ g', g = g' + 1 := ⟨g - 1, by omega⟩
    have e1 : to = T := by omega
    subst e1
    have h4 : nI to - nI to / (4 : Int32) * (4 : Int32) = 0 := by rw [nI_rem4 (by omega), hT4]; rfl
    have i0 : ev_in 0 4200 = true := by decide
    have c0 : Int32.toNatClampNeg 0 = 0 := rfl
    refine ⟨z, ?_, fun _ _ => rfl, fun j hj => by rw [if_neg (by omega)]; exact hH j hj⟩
    simp only [B_96_124, h4, show (0 : Int32) ≤ 0 by decide, i0, c0, dg_1, db_1, db_0, dl_1, dp_1, dv_1, dv_x, di_1, di_x, dw_1, ec_eq, ec_ne, ec_lt, ec_ge, ec_gt, ec_le, hq_z, hq_wz, hq_wc, hq_thr, hq_p29, hq_pw, eq_self, decide_true, decide_false, not_true_eq_false, not_false_eq_true, kq_0, kq_1, kq_2, kq_3, kq_4, kq_5, kq_6, kq_7, kq_8, kq_9, kq_10, kq_11, kq_12, kq_13, kq_14, kq_15, kq_16, kq_17, kq_18, kq_19, kq_20, kq_21, kq_22, kq_23, kq_24, kq_25, kq_26, kq_27, kq_28, kq_29, kq_30, kq_31, kq_32, kq_33, kq_34, kq_35, kq_36, kq_37, kq_38, kq_39, kq_40, kq_41, kq_42, kq_43, kq_44, kq_45, kq_46, kq_47, kq_48, kq_49, kq_50, kq_51, kq_52, kq_53, kq_54, kq_55, kq_56, kq_57, kq_58, kq_59, kq_60, kq_61, kq_62, kq_63, kq_64, kq_65, kq_66, kq_67, kq_68, kq_69, kq_70, kq_71, kq_72, kq_73, kq_74, kq_75, kq_76, kq_77, kq_78, kq_79, kq_80, kq_81, pq_0_0, pq_0_1, pq_0_2, pq_0_3, pq_0_4, pq_0_5, pq_0_6, pq_0_7, pq_1_0, pq_1_1, pq_1_2, pq_1_3, pq_1_4, pq_1_5, pq_1_6, pq_1_7, pq_10_0, pq_10_1, pq_10_2, pq_10_3, pq_15_0, pq_17_0, pq_19_0, pq_21_0, pq_21_1, pq_21_2, pq_21_3, pq_21_4, pq_21_5, pq_28_0, pq_30_0, pq_30_1, pq_30_2, pq_31_0, pq_35_0, pq_35_1, pq_35_2, pq_36_0, pq_40_0, pq_40_1, pq_40_2, pq_41_0, pq_45_0, pq_45_1, pq_45_2, pq_46_0, pq_50_0, pq_52_0, pq_52_1, pq_52_2, pq_52_3, pq_52_4, pq_52_5, pq_52_6, pq_52_8, pq_52_10, pq_52_11, pq_52_14, pq_52_15, pq_52_16, pq_52_17, pq_52_18, pq_52_27, pq_52_29, pq_52_30, pq_52_31, pq_52_32, pq_52_33, pq_52_34, pq_52_35, pq_52_36, pq_52_37, pq_52_38, pq_52_39, pq_52_40, pq_52_41, aq_1, aq_11, aq_12, aq_13, aq_14, aq_16, aq_18, aq_20, aq_22, aq_23, aq_24, aq_25, aq_26, aq_27, aq_29, aq_32, aq_33, aq_34, aq_37, aq_38, aq_39, aq_42, aq_43, aq_44, aq_47, aq_48, aq_49, aq_51, aq_53, aq_54, aq_55, aq_56, aq_57, aq_58, aq_59, aq_60, aq_61, aq_62, aq_63, aq_64, aq_65, aq_66, aq_67, aq_68, aq_69, aq_70, aq_71, aq_72, aq_73, aq_74, aq_75, aq_76, aq_77, aq_78, aq_79, aq_80, aq_81]
  | succ k ih =>
    intro to g H z h1 h2 h3 hH
    obtain ⟨g, rfl⟩ : ∃ g', g = g' + 1 := ⟨g - 1, by omega⟩
    have h4 : ¬ nI to - nI to / (4 : Int32) * (4 : Int32) ≤ 0 := by rw [nI_rem4 (by omega)]; exact nI_nle (by omega) (by omega)
    have i1 : ev_in (nI to) 4200 = true := ev_in_nI (by omega) (by omega)
    have i2 : (nI to).toNatClampNeg = to := nI_clamp (by omega)
    obtain ⟨z1, e1⟩ : ∃ x, x = va_up z 62 (upd (z 62) to 0) := ⟨_, rfl⟩
    obtain ⟨z2, g1, g2, g3⟩ := ih (to + 1) g (fun i => if to ≤ i then 0 else H i) z1 (by omega) (by omega) (by omega) (fun j hj => by
      rw [e1, va_up_self, upd_if]
      show _ = nI (if _ then _ else _)
      by_cases h : j = to
      · rw [if_pos h, if_pos (by omega)]; rfl
      · rw [if_neg h, if_neg (by omega)]; exact hH j (by omega))
    refine ⟨z2, ?_, fun a ha => by rw [g2 a ha, e1, va_up_ne _ _ ha], fun j hj => ?_⟩
    · rw [← g1, e1]
      simp only [B_96_124, h4, i1, i2, nI_1, dg_1, db_1, db_0, dl_1, dp_1, dv_1, dv_x, di_1, di_x, dw_1, ec_eq, ec_ne, ec_lt, ec_ge, ec_gt, ec_le, hq_z, hq_wz, hq_wc, hq_thr, hq_p29, hq_pw, eq_self, decide_true, decide_false, not_true_eq_false, not_false_eq_true, kq_0, kq_1, kq_2, kq_3, kq_4, kq_5, kq_6, kq_7, kq_8, kq_9, kq_10, kq_11, kq_12, kq_13, kq_14, kq_15, kq_16, kq_17, kq_18, kq_19, kq_20, kq_21, kq_22, kq_23, kq_24, kq_25, kq_26, kq_27, kq_28, kq_29, kq_30, kq_31, kq_32, kq_33, kq_34, kq_35, kq_36, kq_37, kq_38, kq_39, kq_40, kq_41, kq_42, kq_43, kq_44, kq_45, kq_46, kq_47, kq_48, kq_49, kq_50, kq_51, kq_52, kq_53, kq_54, kq_55, kq_56, kq_57, kq_58, kq_59, kq_60, kq_61, kq_62, kq_63, kq_64, kq_65, kq_66, kq_67, kq_68, kq_69, kq_70, kq_71, kq_72, kq_73, kq_74, kq_75, kq_76, kq_77, kq_78, kq_79, kq_80, kq_81, pq_0_0, pq_0_1, pq_0_2, pq_0_3, pq_0_4, pq_0_5, pq_0_6, pq_0_7, pq_1_0, pq_1_1, pq_1_2, pq_1_3, pq_1_4, pq_1_5, pq_1_6, pq_1_7, pq_10_0, pq_10_1, pq_10_2, pq_10_3, pq_15_0, pq_17_0, pq_19_0, pq_21_0, pq_21_1, pq_21_2, pq_21_3, pq_21_4, pq_21_5, pq_28_0, pq_30_0, pq_30_1, pq_30_2, pq_31_0, pq_35_0, pq_35_1, pq_35_2, pq_36_0, pq_40_0, pq_40_1, pq_40_2, pq_41_0, pq_45_0, pq_45_1, pq_45_2, pq_46_0, pq_50_0, pq_52_0, pq_52_1, pq_52_2, pq_52_3, pq_52_4, pq_52_5, pq_52_6, pq_52_8, pq_52_10, pq_52_11, pq_52_14, pq_52_15, pq_52_16, pq_52_17, pq_52_18, pq_52_27, pq_52_29, pq_52_30, pq_52_31, pq_52_32, pq_52_33, pq_52_34, pq_52_35, pq_52_36, pq_52_37, pq_52_38, pq_52_39, pq_52_40, pq_52_41, aq_1, aq_11, aq_12, aq_13, aq_14, aq_16, aq_18, aq_20, aq_22, aq_23, aq_24, aq_25, aq_26, aq_27, aq_29, aq_32, aq_33, aq_34, aq_37, aq_38, aq_39, aq_42, aq_43, aq_44, aq_47, aq_48, aq_49, aq_51, aq_53, aq_54, aq_55, aq_56, aq_57, aq_58, aq_59, aq_60, aq_61, aq_62, aq_63, aq_64, aq_65, aq_66, aq_67, aq_68, aq_69, aq_70, aq_71, aq_72, aq_73, aq_74, aq_75, aq_76, aq_77, aq_78, aq_79, aq_80, aq_81]
    · rw [g3 j hj]
      congr 1
      by_cases h : to ≤ j
      · rw [if_pos h]; split; rfl; rfl
      · rw [if_neg h, if_neg (by omega)]
theorem m96 {z : Nat → Nat → Int32} (hb : mb z 62 (hl B) B) (h0 : 20 ≤ hl B) (hw : wo B = none) (hf : 300 < f) : ∃ z', F_96 f 52 (nI (hl B)) (hq z w c s) = some (.inl (some (.int (nI (ll B)))), hq z' w c s) ∧ (∀ a, a ≠ 62 → z' a = z a) ∧ mb z' 62 (ll B) (LH B) := by
  have hL := hl_le B
  have hlb := ll_b h0
  obtain ⟨z2, g1, g2, g3⟩ := m96_l (f := f) (w := w) (c := c) (s := s) hL hb.1 hf 100 20 20 B f z (fun j _ h => hb.2 j h) hb.1 (fun j h => hb.2 j (by omega)) (by omega) h0 (by omega) (by omega) hw
  obtain ⟨z3, k1, k2, k3⟩ := m96_p (f := f) (w := w) (c := c) (s := s) (T := ll B) (by omega) hlb.2.2.2.2.1 (ll B - (lh B).2) (lh B).2 f (lh B).1 z2 (by omega) (by omega) (by omega) g3
  have d1 : (64 : Int32) ||| nI (ll B) / (4 : Int32) = nI (64 + ll B / 4) := by
    rw [show (4 : Int32) = nI 4 from rfl, nI_divN (by omega) (by omega), show (64 : Int32) = nI 64 from rfl, nI_orN (by omega) (by omega)]
    exact congrArg nI (or_N (a := 1) (k := 6) (by omega))
  refine ⟨_, (show F_96 f 52 (nI (hl B)) (hq z w c s) = _ from g1.trans k1), ?_, ?_⟩
  · intro a ha; rw [va_up_ne _ _ ha, k2 a ha, g2 a ha]
  · refine ⟨LH_lt hb.1 h0, fun i hi => ?_⟩
    rw [va_up_self, upd_if, d1]
    unfold LH b1
    by_cases h : i = 0
    · rw [if_pos h, if_pos h]
    · rw [if_neg h, if_neg h]; exact k3 i hi
end Later61
