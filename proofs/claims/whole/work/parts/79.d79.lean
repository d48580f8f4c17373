-- waits of the reference: moving, dropping, finding
section Wait79
variable {S : St9} {z : Nat → Nat → Int32} {w : Nat → Option Nat} {f c s n data p t : Nat} {P : Nat → Nat} {E : Nat → Int32}
def eMz (E : Nat → Int32) (z : Nat → Nat → Int32) (e : Nat) : Prop := eM E (z 69) (z 70) (z 71) (z 72) (z 73) (z 74) (z 75) (z 76) (z 77) (z 78) (z 79) (z 80) (z 81) e
theorem nar_dz {v : Int32} (h : dz v) : vp_nar .boolean v = v := by rcases h with rfl | rfl <;> rfl
theorem lp_100a {a b : Nat} (ha : a < 4) (hb : b < 4) (hds : 60 * a + 0 ≤ 60 * b + 0) : ∀ (q k g : Nat) (z : Nat → Nat → Int32), k + q ≤ 60 → B_100_110 f  (g + q) 52 (nI a) (nI b) (nI k) (hq z w c s) = B_100_110 f  g 52 (nI a) (nI b) (nI (k + q)) (hq (cpz z 76 76 (60 * b + k) (60 * a + k) q) w c s) := by
  intro q
  induction q with
  | zero => intro k g z h; rw [cpz_0]; rfl
  | succ q ih =>
    intro k g z h
    have e1 := ih (k + 1) g (va_up z 76 (upd (z 76) (60 * a + k) (z 76 (60 * b + k)))) (by omega)
    rw [show 60 * b + (k + 1) = 60 * b + k + 1 from rfl, show 60 * a + (k + 1) = 60 * a + k + 1 from rfl, cpz_s (Or.inr (by omega)), show k + 1 + q = k + (q + 1) by omega] at e1
    rw [← e1, show g + (q + 1) = (g + q) + 1 from rfl]
    have y0 : ¬ nI 60 ≤ nI k := nI_ge (by omega) (by omega)
    have y1 : ev_in (nI (60 * b + k)) 240 = true := ev_in_nI (by omega) (by omega)
    have y2 : ev_in (nI (60 * a + k)) 240 = true := ev_in_nI (by omega) (by omega)
    have y3 : (nI (60 * b + k)).toNatClampNeg = 60 * b + k := nI_clamp (by omega)
    have y4 : (nI (60 * a + k)).toNatClampNeg = 60 * a + k := nI_clamp (by omega)
    simp only [B_100_110, y0, y1, y2, y3, y4, nI_add, nI_1, show (60 : Int32) = nI 60 from rfl, nI_mulN, dg_1, db_1, db_0, dl_1, dp_1, dv_1, dv_x, di_1, di_x, dw_1, ec_eq, ec_ne, ec_lt, ec_ge, ec_gt, ec_le, hq_z, hq_wz, hq_wc, hq_thr, hq_p29, hq_pw, eq_self, decide_true, decide_false, not_true_eq_false, not_false_eq_true, kq_0, kq_1, kq_2, kq_3, kq_4, kq_5, kq_6, kq_7, kq_8, kq_9, kq_10, kq_11, kq_12, kq_13, kq_14, kq_15, kq_16, kq_17, kq_18, kq_19, kq_20, kq_21, kq_22, kq_23, kq_24, kq_25, kq_26, kq_27, kq_28, kq_29, kq_30, kq_31, kq_32, kq_33, kq_34, kq_35, kq_36, kq_37, kq_38, kq_39, kq_40, kq_41, kq_42, kq_43, kq_44, kq_45, kq_46, kq_47, kq_48, kq_49, kq_50, kq_51, kq_52, kq_53, kq_54, kq_55, kq_56, kq_57, kq_58, kq_59, kq_60, kq_61, kq_62, kq_63, kq_64, kq_65, kq_66, kq_67, kq_68, kq_69, kq_70, kq_71, kq_72, kq_73, kq_74, kq_75, kq_76, kq_77, kq_78, kq_79, kq_80, kq_81, pq_0_0, pq_0_1, pq_0_2, pq_0_3, pq_0_4, pq_0_5, pq_0_6, pq_0_7, pq_1_0, pq_1_1, pq_1_2, pq_1_3, pq_1_4, pq_1_5, pq_1_6, pq_1_7, pq_10_0, pq_10_1, pq_10_2, pq_10_3, pq_15_0, pq_17_0, pq_19_0, pq_21_0, pq_21_1, pq_21_2, pq_21_3, pq_21_4, pq_21_5, pq_28_0, pq_30_0, pq_30_1, pq_30_2, pq_31_0, pq_35_0, pq_35_1, pq_35_2, pq_36_0, pq_40_0, pq_40_1, pq_40_2, pq_41_0, pq_45_0, pq_45_1, pq_45_2, pq_46_0, pq_50_0, pq_52_0, pq_52_1, pq_52_2, pq_52_3, pq_52_4, pq_52_5, pq_52_6, pq_52_8, pq_52_10, pq_52_11, pq_52_14, pq_52_15, pq_52_16, pq_52_17, pq_52_18, pq_52_27, pq_52_29, pq_52_30, pq_52_31, pq_52_32, pq_52_33, pq_52_34, pq_52_35, pq_52_36, pq_52_37, pq_52_38, pq_52_39, pq_52_40, pq_52_41, aq_1, aq_11, aq_12, aq_13, aq_14, aq_16, aq_18, aq_20, aq_22, aq_23, aq_24, aq_25, aq_26, aq_27, aq_29, aq_32, aq_33, aq_34, aq_37, aq_38, aq_39, aq_42, aq_43, aq_44, aq_47, aq_48, aq_49, aq_51, aq_53, aq_54, aq_55, aq_56, aq_57, aq_58, aq_59, aq_60, aq_61, aq_62, aq_63, aq_64, aq_65, aq_66, aq_67, aq_68, aq_69, aq_70, aq_71, aq_72, aq_73, aq_74, aq_75, aq_76, aq_77, aq_78, aq_79, aq_80, aq_81]
theorem lp_100b {a b : Nat} (ha : a < 4) (hb : b < 4) (hds : 8 * a + 0 ≤ 8 * b + 0) : ∀ (q k g : Nat) (z : Nat → Nat → Int32), k + q ≤ 8 → B_100_146 f  (g + q) 52 (nI a) (nI b) (nI k) (hq z w c s) = B_100_146 f  g 52 (nI a) (nI b) (nI (k + q)) (hq (cpz z 77 77 (8 * b + k) (8 * a + k) q) w c s) := by
  intro q
  induction q with
  | zero => intro k g z h; rw [cpz_0]; rfl
  | succ q ih =>
    intro k g z h
    have e1 := ih (k + 1) g (va_up z 77 (upd (z 77) (8 * a + k) (z 77 (8 * b + k)))) (by omega)
    rw [show 8 * b + (k + 1) = 8 * b + k + 1 from rfl, show 8 * a + (k + 1) = 8 * a + k + 1 from rfl, cpz_s (Or.inr (by omega)), show k + 1 + q = k + (q + 1) by omega] at e1
    rw [← e1, show g + (q + 1) = (g + q) + 1 from rfl]
    have y0 : ¬ nI 8 ≤ nI k := nI_ge (by omega) (by omega)
    have y1 : ev_in (nI (8 * b + k)) 32 = true := ev_in_nI (by omega) (by omega)
    have y2 : ev_in (nI (8 * a + k)) 32 = true := ev_in_nI (by omega) (by omega)
    have y3 : (nI (8 * b + k)).toNatClampNeg = 8 * b + k := nI_clamp (by omega)
    have y4 : (nI (8 * a + k)).toNatClampNeg = 8 * a + k := nI_clamp (by omega)
    simp only [B_100_146, y0, y1, y2, y3, y4, nI_add, nI_1, show (8 : Int32) = nI 8 from rfl, nI_mulN, dg_1, db_1, db_0, dl_1, dp_1, dv_1, dv_x, di_1, di_x, dw_1, ec_eq, ec_ne, ec_lt, ec_ge, ec_gt, ec_le, hq_z, hq_wz, hq_wc, hq_thr, hq_p29, hq_pw, eq_self, decide_true, decide_false, not_true_eq_false, not_false_eq_true, kq_0, kq_1, kq_2, kq_3, kq_4, kq_5, kq_6, kq_7, kq_8, kq_9, kq_10, kq_11, kq_12, kq_13, kq_14, kq_15, kq_16, kq_17, kq_18, kq_19, kq_20, kq_21, kq_22, kq_23, kq_24, kq_25, kq_26, kq_27, kq_28, kq_29, kq_30, kq_31, kq_32, kq_33, kq_34, kq_35, kq_36, kq_37, kq_38, kq_39, kq_40, kq_41, kq_42, kq_43, kq_44, kq_45, kq_46, kq_47, kq_48, kq_49, kq_50, kq_51, kq_52, kq_53, kq_54, kq_55, kq_56, kq_57, kq_58, kq_59, kq_60, kq_61, kq_62, kq_63, kq_64, kq_65, kq_66, kq_67, kq_68, kq_69, kq_70, kq_71, kq_72, kq_73, kq_74, kq_75, kq_76, kq_77, kq_78, kq_79, kq_80, kq_81, pq_0_0, pq_0_1, pq_0_2, pq_0_3, pq_0_4, pq_0_5, pq_0_6, pq_0_7, pq_1_0, pq_1_1, pq_1_2, pq_1_3, pq_1_4, pq_1_5, pq_1_6, pq_1_7, pq_10_0, pq_10_1, pq_10_2, pq_10_3, pq_15_0, pq_17_0, pq_19_0, pq_21_0, pq_21_1, pq_21_2, pq_21_3, pq_21_4, pq_21_5, pq_28_0, pq_30_0, pq_30_1, pq_30_2, pq_31_0, pq_35_0, pq_35_1, pq_35_2, pq_36_0, pq_40_0, pq_40_1, pq_40_2, pq_41_0, pq_45_0, pq_45_1, pq_45_2, pq_46_0, pq_50_0, pq_52_0, pq_52_1, pq_52_2, pq_52_3, pq_52_4, pq_52_5, pq_52_6, pq_52_8, pq_52_10, pq_52_11, pq_52_14, pq_52_15, pq_52_16, pq_52_17, pq_52_18, pq_52_27, pq_52_29, pq_52_30, pq_52_31, pq_52_32, pq_52_33, pq_52_34, pq_52_35, pq_52_36, pq_52_37, pq_52_38, pq_52_39, pq_52_40, pq_52_41, aq_1, aq_11, aq_12, aq_13, aq_14, aq_16, aq_18, aq_20, aq_22, aq_23, aq_24, aq_25, aq_26, aq_27, aq_29, aq_32, aq_33, aq_34, aq_37, aq_38, aq_39, aq_42, aq_43, aq_44, aq_47, aq_48, aq_49, aq_51, aq_53, aq_54, aq_55, aq_56, aq_57, aq_58, aq_59, aq_60, aq_61, aq_62, aq_63, aq_64, aq_65, aq_66, aq_67, aq_68, aq_69, aq_70, aq_71, aq_72, aq_73, aq_74, aq_75, aq_76, aq_77, aq_78, aq_79, aq_80, aq_81]
theorem lp_100c {a b : Nat} (hab : a ≤ b) (hb : b < 4) : ∀ (q k g : Nat) (z : Nat → Nat → Int32), (∀ i, i < 4000 → dz (z 81 (4000 * b + i))) → (∀ i, k ≤ i → i < 4000 → dz (z 81 (4000 * b + i))) → k + q ≤ 4000 → B_100_182 f (g + q) 52 (nI a) (nI b) (nI k) (hq z w c s) = B_100_182 f g 52 (nI a) (nI b) (nI (k + q)) (hq (cpz (cpz z 80 80 (4000 * b + k) (4000 * a + k) q) 81 81 (4000 * b + k) (4000 * a + k) q) w c s) := by
  intro q
  induction q with
  | zero => intro k g z _ _ h; rw [cpz_0, cpz_0]; rfl
  | succ q ih =>
    intro k g z hd0 hd h
    obtain ⟨z1, e1⟩ : ∃ x, x = va_up (va_up z 80 (upd (z 80) (4000 * a + k) (z 80 (4000 * b + k)))) 81 (upd (z 81) (4000 * a + k) (z 81 (4000 * b + k))) := ⟨_, rfl⟩
    have t81 : z1 81 = upd (z 81) (4000 * a + k) (z 81 (4000 * b + k)) := by rw [e1, va_up_self]
    have hdd : ∀ i, i < 4000 → dz (z1 81 (4000 * b + i)) := fun i hi => by
      rw [t81, upd_if]
      by_cases h9 : 4000 * b + i = 4000 * a + k
      · rw [if_pos h9]; exact hd k (by omega) (by omega)
      · rw [if_neg h9]; exact hd0 i hi
    have e2 := ih (k + 1) g z1 hdd (fun i _ hi => hdd i hi) (by omega)
    have c80 : cpz (cpz z1 80 80 (4000 * b + (k + 1)) (4000 * a + (k + 1)) q) 81 81 (4000 * b + (k + 1)) (4000 * a + (k + 1)) q = cpz (cpz z 80 80 (4000 * b + k) (4000 * a + k) (q + 1)) 81 81 (4000 * b + k) (4000 * a + k) (q + 1) := by
      have h1 : cpz z1 80 80 (4000 * b + (k + 1)) (4000 * a + (k + 1)) q = va_up (cpz z 80 80 (4000 * b + k) (4000 * a + k) (q + 1)) 81 (upd (z 81) (4000 * a + k) (z 81 (4000 * b + k))) := by
        rw [← cpz_s (z := z) (X := 80) (Y := 80) (s := 4000 * b + k) (d := 4000 * a + k) (q := q) (Or.inr (by omega))]
        funext j
        by_cases h80 : j = 80
        · subst h80
          rw [va_up_ne _ _ (by decide)]
          funext i
          rw [show 4000 * b + (k + 1) = 4000 * b + k + 1 from rfl, show 4000 * a + (k + 1) = 4000 * a + k + 1 from rfl, cpz_at, cpz_at, e1, va_up_ne _ _ (by decide)]
        · rw [cpz_ne h80, e1]
          by_cases h81 : j = 81
          · subst h81; rw [va_up_self, va_up_self]
          · rw [va_up_ne _ _ h81, va_up_ne _ _ h81, cpz_ne h80]
      rw [h1]
      have h2 : z 81 = cpz z 80 80 (4000 * b + k) (4000 * a + k) (q + 1) 81 := (cpz_ne (by decide)).symm
      rw [h2]
      exact cpz_s (Or.inr (by omega))
    rw [c80, show k + 1 + q = k + (q + 1) by omega] at e2
    rw [← e2, show g + (q + 1) = (g + q) + 1 from rfl, e1]
    have y0 : ¬ nI 4000 ≤ nI k := nI_ge (by omega) (by omega)
    have y1 : ev_in (nI (4000 * b + k)) 16000 = true := ev_in_nI (by omega) (by omega)
    have y2 : ev_in (nI (4000 * a + k)) 16000 = true := ev_in_nI (by omega) (by omega)
    have y3 : (nI (4000 * b + k)).toNatClampNeg = 4000 * b + k := nI_clamp (by omega)
    have y4 : (nI (4000 * a + k)).toNatClampNeg = 4000 * a + k := nI_clamp (by omega)
    have y5 := nar_dz (hd k (by omega) (by omega))
    simp (decide := true) only [B_100_182, l_4000, nI_mulN, y0, y1, y2, y3, y4, nI_add, va_up_ne, y5, l_1, dg_1, db_1, db_0, dl_1, dp_1, dv_1, dv_x, di_1, di_x, dw_1, ec_eq, ec_ne, ec_lt, ec_ge, ec_gt, ec_le, hq_z, hq_wz, hq_wc, hq_thr, hq_p29, hq_pw, eq_self, decide_true, decide_false, not_true_eq_false, not_false_eq_true, kq_0, kq_1, kq_2, kq_3, kq_4, kq_5, kq_6, kq_7, kq_8, kq_9, kq_10, kq_11, kq_12, kq_13, kq_14, kq_15, kq_16, kq_17, kq_18, kq_19, kq_20, kq_21, kq_22, kq_23, kq_24, kq_25, kq_26, kq_27, kq_28, kq_29, kq_30, kq_31, kq_32, kq_33, kq_34, kq_35, kq_36, kq_37, kq_38, kq_39, kq_40, kq_41, kq_42, kq_43, kq_44, kq_45, kq_46, kq_47, kq_48, kq_49, kq_50, kq_51, kq_52, kq_53, kq_54, kq_55, kq_56, kq_57, kq_58, kq_59, kq_60, kq_61, kq_62, kq_63, kq_64, kq_65, kq_66, kq_67, kq_68, kq_69, kq_70, kq_71, kq_72, kq_73, kq_74, kq_75, kq_76, kq_77, kq_78, kq_79, kq_80, kq_81, pq_0_0, pq_0_1, pq_0_2, pq_0_3, pq_0_4, pq_0_5, pq_0_6, pq_0_7, pq_1_0, pq_1_1, pq_1_2, pq_1_3, pq_1_4, pq_1_5, pq_1_6, pq_1_7, pq_10_0, pq_10_1, pq_10_2, pq_10_3, pq_15_0, pq_17_0, pq_19_0, pq_21_0, pq_21_1, pq_21_2, pq_21_3, pq_21_4, pq_21_5, pq_28_0, pq_30_0, pq_30_1, pq_30_2, pq_31_0, pq_35_0, pq_35_1, pq_35_2, pq_36_0, pq_40_0, pq_40_1, pq_40_2, pq_41_0, pq_45_0, pq_45_1, pq_45_2, pq_46_0, pq_50_0, pq_52_0, pq_52_1, pq_52_2, pq_52_3, pq_52_4, pq_52_5, pq_52_6, pq_52_8, pq_52_10, pq_52_11, pq_52_14, pq_52_15, pq_52_16, pq_52_17, pq_52_18, pq_52_27, pq_52_29, pq_52_30, pq_52_31, pq_52_32, pq_52_33, pq_52_34, pq_52_35, pq_52_36, pq_52_37, pq_52_38, pq_52_39, pq_52_40, pq_52_41, aq_1, aq_11, aq_12, aq_13, aq_14, aq_16, aq_18, aq_20, aq_22, aq_23, aq_24, aq_25, aq_26, aq_27, aq_29, aq_32, aq_33, aq_34, aq_37, aq_38, aq_39, aq_42, aq_43, aq_44, aq_47, aq_48, aq_49, aq_51, aq_53, aq_54, aq_55, aq_56, aq_57, aq_58, aq_59, aq_60, aq_61, aq_62, aq_63, aq_64, aq_65, aq_66, aq_67, aq_68, aq_69, aq_70, aq_71, aq_72, aq_73, aq_74, aq_75, aq_76, aq_77, aq_78, aq_79, aq_80, aq_81]
theorem eM_mv {a b : Nat} {z z' : Nat → Nat → Int32} (h : eMz E z b) (hs : ∀ r, r < 76 ∨ r = 78 ∨ r = 79 → 69 ≤ r → z' r a = z r b) (h76 : ∀ i, i < 60 → z' 76 (60 * a + i) = z 76 (60 * b + i)) (h77 : ∀ i, i < 8 → z' 77 (8 * a + i) = z 77 (8 * b + i)) (h80 : ∀ i, i < 4000 → z' 80 (4000 * a + i) = z 80 (4000 * b + i)) (h81 : ∀ i, i < 4000 → z' 81 (4000 * a + i) = z 81 (4000 * b + i)) (hl7 : E 7 = 1 → hl (fq E) ≤ 60) : eMz E z' a := by
  obtain ⟨⟨m0, m1, m2, m3, m4, m5⟩, m6, m7, m8, m9⟩ := h
  refine ⟨⟨?_, ?_, ?_, ?_, ?_, ?_⟩, ?_, ?_, ?_, ?_⟩
  · rw [hs 69 (by omega) (by omega)]; exact m0
  · rw [hs 70 (by omega) (by omega)]; exact m1
  · rw [hs 71 (by omega) (by omega)]; exact m2
  · rw [hs 72 (by omega) (by omega)]; exact m3
  · rw [hs 73 (by omega) (by omega)]; exact m4
  · rw [hs 74 (by omega) (by omega)]; exact m5
  · rw [hs 75 (by omega) (by omega)]; exact m6
  · intro h7
    obtain ⟨k1, k2, k3, k4, k5⟩ := m7 h7
    have := hl7 h7
    rw [hs 75 (by omega) (by omega), hs 78 (by omega) (by omega), hs 79 (by omega) (by omega)]
    exact ⟨k1, k2, k3, fun i hi => by rw [h76 i (by omega)]; exact k4 i hi, fun i hi => by rw [h77 i hi]; exact k5 i hi⟩
  · intro i hi ht; rw [h80 i hi]; exact m8 i hi ht
  · intro i hi; rw [h81 i hi]; exact m9 i hi
theorem m100 {a b : Nat} (hab : a < b) (hb : b < 4) (hd : ∀ i, i < 4000 → dz (z 81 (4000 * b + i))) (hf : 5000 < f) : ∃ z', F_100 f 52 (nI a) (nI b) (hq z w c s) = some (.inl none, hq z' w c s) ∧ (∀ r, r < 69 ∨ 81 < r → z' r = z r) ∧ (∀ r, r < 76 ∨ r = 78 ∨ r = 79 → 69 ≤ r → z' r = upd (z r) a (z r b)) ∧ (∀ i, z' 76 i = if 60 * a ≤ i ∧ i < 60 * a + 60 then z 76 (60 * b + (i - 60 * a)) else z 76 i) ∧ (∀ i, z' 77 i = if 8 * a ≤ i ∧ i < 8 * a + 8 then z 77 (8 * b + (i - 8 * a)) else z 77 i) ∧ (∀ i, z' 80 i = if 4000 * a ≤ i ∧ i < 4000 * a + 4000 then z 80 (4000 * b + (i - 4000 * a)) else z 80 i) ∧ ∀ i, z' 81 i = if 4000 * a ≤ i ∧ i < 4000 * a + 4000 then z 81 (4000 * b + (i - 4000 * a)) else z 81 i := by
  have ia : ev_in (nI a) 4 = true := ev_in_nI (by omega) (by omega)
  have ib : ev_in (nI b) 4 = true := ev_in_nI (by omega) (by omega)
  have ca : (nI a).toNatClampNeg = a := nI_clamp (by omega)
  have cb' : (nI b).toNatClampNeg = b := nI_clamp (by omega)
  obtain ⟨z1, e1⟩ : ∃ x, x = fun r => if r < 76 ∧ 69 ≤ r ∨ r = 78 ∨ r = 79 then upd (z r) a (z r b) else z r := ⟨_, rfl⟩
  have t1 : ∀ r, r < 76 ∨ r = 78 ∨ r = 79 → 69 ≤ r → z1 r = upd (z r) a (z r b) := fun r h1 h2 => by rw [e1]; dsimp only; rw [if_pos (by omega)]
  have t2 : ∀ r, r < 69 ∨ r = 76 ∨ r = 77 ∨ 79 < r → z1 r = z r := fun r h1 => by rw [e1]; dsimp only; rw [if_neg (by omega)]
  have ez : va_up (va_up (va_up (va_up (va_up (va_up (va_up (va_up (va_up z 69 (upd (z 69) a (z 69 b))) 70 (upd (z 70) a (z 70 b))) 71 (upd (z 71) a (z 71 b))) 72 (upd (z 72) a (z 72 b))) 73 (upd (z 73) a (z 73 b))) 74 (upd (z 74) a (z 74 b))) 75 (upd (z 75) a (z 75 b))) 78 (upd (z 78) a (z 78 b))) 79 (upd (z 79) a (z 79 b)) = z1 := by
    rw [e1]
    funext r
    unfold va_up
    by_cases h79 : r = 79
    · subst h79; rw [if_pos rfl, if_pos (by omega)]
    · rw [if_neg h79]
      by_cases h78 : r = 78
      · subst h78; rw [if_pos rfl, if_pos (by omega)]
      · rw [if_neg h78]
        by_cases h75 : r = 75
        · subst h75; rw [if_pos rfl, if_pos (by omega)]
        · rw [if_neg h75]
          by_cases h74 : r = 74
          · subst h74; rw [if_pos rfl, if_pos (by omega)]
          · rw [if_neg h74]
            by_cases h73 : r = 73
            · subst h73; rw [if_pos rfl, if_pos (by omega)]
            · rw [if_neg h73]
              by_cases h72 : r = 72
              · subst h72; rw [if_pos rfl, if_pos (by omega)]
              · rw [if_neg h72]
                by_cases h71 : r = 71
                · subst h71; rw [if_pos rfl, if_pos (by omega)]
                · rw [if_neg h71]
                  by_cases h70 : r = 70
                  · subst h70; rw [if_pos rfl, if_pos (by omega)]
                  · rw [if_neg h70]
                    by_cases h69 : r = 69
                    · subst h69; rw [if_pos rfl, if_pos (by omega)]
                    · rw [if_neg h69, if_neg (by omega)]
  have s1 : F_100 f 52 (nI a) (nI b) (hq z w c s) = B_100_110 f f 52 (nI a) (nI b) 0 (hq z1 w c s) := by
    rw [← ez]
    simp (decide := true) only [F_100, ia, ib, ca, cb', va_up_ne, dg_1, db_1, db_0, dl_1, dp_1, dv_1, dv_x, di_1, di_x, dw_1, ec_eq, ec_ne, ec_lt, ec_ge, ec_gt, ec_le, hq_z, hq_wz, hq_wc, hq_thr, hq_p29, hq_pw, eq_self, decide_true, decide_false, not_true_eq_false, not_false_eq_true, kq_0, kq_1, kq_2, kq_3, kq_4, kq_5, kq_6, kq_7, kq_8, kq_9, kq_10, kq_11, kq_12, kq_13, kq_14, kq_15, kq_16, kq_17, kq_18, kq_19, kq_20, kq_21, kq_22, kq_23, kq_24, kq_25, kq_26, kq_27, kq_28, kq_29, kq_30, kq_31, kq_32, kq_33, kq_34, kq_35, kq_36, kq_37, kq_38, kq_39, kq_40, kq_41, kq_42, kq_43, kq_44, kq_45, kq_46, kq_47, kq_48, kq_49, kq_50, kq_51, kq_52, kq_53, kq_54, kq_55, kq_56, kq_57, kq_58, kq_59, kq_60, kq_61, kq_62, kq_63, kq_64, kq_65, kq_66, kq_67, kq_68, kq_69, kq_70, kq_71, kq_72, kq_73, kq_74, kq_75, kq_76, kq_77, kq_78, kq_79, kq_80, kq_81, pq_0_0, pq_0_1, pq_0_2, pq_0_3, pq_0_4, pq_0_5, pq_0_6, pq_0_7, pq_1_0, pq_1_1, pq_1_2, pq_1_3, pq_1_4, pq_1_5, pq_1_6, pq_1_7, pq_10_0, pq_10_1, pq_10_2, pq_10_3, pq_15_0, pq_17_0, pq_19_0, pq_21_0, pq_21_1, pq_21_2, pq_21_3, pq_21_4, pq_21_5, pq_28_0, pq_30_0, pq_30_1, pq_30_2, pq_31_0, pq_35_0, pq_35_1, pq_35_2, pq_36_0, pq_40_0, pq_40_1, pq_40_2, pq_41_0, pq_45_0, pq_45_1, pq_45_2, pq_46_0, pq_50_0, pq_52_0, pq_52_1, pq_52_2, pq_52_3, pq_52_4, pq_52_5, pq_52_6, pq_52_8, pq_52_10, pq_52_11, pq_52_14, pq_52_15, pq_52_16, pq_52_17, pq_52_18, pq_52_27, pq_52_29, pq_52_30, pq_52_31, pq_52_32, pq_52_33, pq_52_34, pq_52_35, pq_52_36, pq_52_37, pq_52_38, pq_52_39, pq_52_40, pq_52_41, aq_1, aq_11, aq_12, aq_13, aq_14, aq_16, aq_18, aq_20, aq_22, aq_23, aq_24, aq_25, aq_26, aq_27, aq_29, aq_32, aq_33, aq_34, aq_37, aq_38, aq_39, aq_42, aq_43, aq_44, aq_47, aq_48, aq_49, aq_51, aq_53, aq_54, aq_55, aq_56, aq_57, aq_58, aq_59, aq_60, aq_61, aq_62, aq_63, aq_64, aq_65, aq_66, aq_67, aq_68, aq_69, aq_70, aq_71, aq_72, aq_73, aq_74, aq_75, aq_76, aq_77, aq_78, aq_79, aq_80, aq_81]
  have s2 := lp_100a (f := f) (w := w) (c := c) (s := s) (a := a) (b := b) (by omega) hb (by omega) 60 0 (f - 60) z1 (by omega)
  rw [show f - 60 + 60 = f by omega] at s2
  obtain ⟨z2, e2⟩ : ∃ x, x = cpz z1 76 76 (60 * b + 0) (60 * a + 0) 60 := ⟨_, rfl⟩
  rw [← e2] at s2
  have s3 := lp_100b (f := f) (w := w) (c := c) (s := s) (a := a) (b := b) (by omega) hb (by omega) 8 0 (f - 8) z2 (by omega)
  rw [show f - 8 + 8 = f by omega] at s3
  obtain ⟨z3, e3⟩ : ∃ x, x = cpz z2 77 77 (8 * b + 0) (8 * a + 0) 8 := ⟨_, rfl⟩
  rw [← e3] at s3
  have n3 : ∀ r, r ≠ 76 → r ≠ 77 → z3 r = z1 r := fun r h1 h2 => by rw [e3, cpz_ne h2, e2, cpz_ne h1]
  have hd3 : ∀ i, i < 4000 → dz (z3 81 (4000 * b + i)) := fun i hi => by rw [n3 81 (by omega) (by omega), t2 81 (by omega)]; exact hd i hi
  have s4 := lp_100c (f := f) (w := w) (c := c) (s := s) (a := a) (b := b) (by omega) hb 4000 0 (f - 4000) z3 hd3 (fun i _ hi => hd3 i hi) (by omega)
  rw [show f - 4000 + 4000 = f by omega] at s4
  obtain ⟨z4, e4⟩ : ∃ x, x = cpz z3 80 80 (4000 * b + 0) (4000 * a + 0) 4000 := ⟨_, rfl⟩
  obtain ⟨z5, e5⟩ : ∃ x, x = cpz z4 81 81 (4000 * b + 0) (4000 * a + 0) 4000 := ⟨_, rfl⟩
  rw [← e4, ← e5] at s4
  have n5' : ∀ r, r ≠ 80 → r ≠ 81 → z5 r = z3 r := fun r h1 h2 => by rw [e5, cpz_ne h2, e4, cpz_ne h1]
  obtain ⟨g1, hg1⟩ : ∃ g, f - 60 = g + 1 := ⟨f - 61, by omega⟩
  obtain ⟨g2, hg2⟩ : ∃ g, f - 8 = g + 1 := ⟨f - 9, by omega⟩
  obtain ⟨g3, hg3⟩ : ∃ g, f - 4000 = g + 1 := ⟨f - 4001, by omega⟩
  rw [hg1] at s2
  rw [hg2] at s3
  rw [hg3] at s4
  have s5 : B_100_182 f f 52 (nI a) (nI b) 0 (hq z3 w c s) = some (.inl none, hq z5 w c s) := by
    refine Eq.trans s4 ?_
    simp only [B_100_182, show (4000 : Int32) ≤ nI (0 + 4000) from nI_le (a := 4000) (by omega) (by omega), dg_1, db_1, db_0, dl_1, dp_1, dv_1, dv_x, di_1, di_x, dw_1, ec_eq, ec_ne, ec_lt, ec_ge, ec_gt, ec_le, hq_z, hq_wz, hq_wc, hq_thr, hq_p29, hq_pw, eq_self, decide_true, decide_false, not_true_eq_false, not_false_eq_true, kq_0, kq_1, kq_2, kq_3, kq_4, kq_5, kq_6, kq_7, kq_8, kq_9, kq_10, kq_11, kq_12, kq_13, kq_14, kq_15, kq_16, kq_17, kq_18, kq_19, kq_20, kq_21, kq_22, kq_23, kq_24, kq_25, kq_26, kq_27, kq_28, kq_29, kq_30, kq_31, kq_32, kq_33, kq_34, kq_35, kq_36, kq_37, kq_38, kq_39, kq_40, kq_41, kq_42, kq_43, kq_44, kq_45, kq_46, kq_47, kq_48, kq_49, kq_50, kq_51, kq_52, kq_53, kq_54, kq_55, kq_56, kq_57, kq_58, kq_59, kq_60, kq_61, kq_62, kq_63, kq_64, kq_65, kq_66, kq_67, kq_68, kq_69, kq_70, kq_71, kq_72, kq_73, kq_74, kq_75, kq_76, kq_77, kq_78, kq_79, kq_80, kq_81, pq_0_0, pq_0_1, pq_0_2, pq_0_3, pq_0_4, pq_0_5, pq_0_6, pq_0_7, pq_1_0, pq_1_1, pq_1_2, pq_1_3, pq_1_4, pq_1_5, pq_1_6, pq_1_7, pq_10_0, pq_10_1, pq_10_2, pq_10_3, pq_15_0, pq_17_0, pq_19_0, pq_21_0, pq_21_1, pq_21_2, pq_21_3, pq_21_4, pq_21_5, pq_28_0, pq_30_0, pq_30_1, pq_30_2, pq_31_0, pq_35_0, pq_35_1, pq_35_2, pq_36_0, pq_40_0, pq_40_1, pq_40_2, pq_41_0, pq_45_0, pq_45_1, pq_45_2, pq_46_0, pq_50_0, pq_52_0, pq_52_1, pq_52_2, pq_52_3, pq_52_4, pq_52_5, pq_52_6, pq_52_8, pq_52_10, pq_52_11, pq_52_14, pq_52_15, pq_52_16, pq_52_17, pq_52_18, pq_52_27, pq_52_29, pq_52_30, pq_52_31, pq_52_32, pq_52_33, pq_52_34, pq_52_35, pq_52_36, pq_52_37, pq_52_38, pq_52_39, pq_52_40, pq_52_41, aq_1, aq_11, aq_12, aq_13, aq_14, aq_16, aq_18, aq_20, aq_22, aq_23, aq_24, aq_25, aq_26, aq_27, aq_29, aq_32, aq_33, aq_34, aq_37, aq_38, aq_39, aq_42, aq_43, aq_44, aq_47, aq_48, aq_49, aq_51, aq_53, aq_54, aq_55, aq_56, aq_57, aq_58, aq_59, aq_60, aq_61, aq_62, aq_63, aq_64, aq_65, aq_66, aq_67, aq_68, aq_69, aq_70, aq_71, aq_72, aq_73, aq_74, aq_75, aq_76, aq_77, aq_78, aq_79, aq_80, aq_81]
  have s6 : B_100_146 f f 52 (nI a) (nI b) 0 (hq z2 w c s) = some (.inl none, hq z5 w c s) := by
    refine Eq.trans s3 ?_
    simp only [B_100_146, show (8 : Int32) ≤ nI (0 + 8) from nI_le (a := 8) (by omega) (by omega), s5, dg_1, db_1, db_0, dl_1, dp_1, dv_1, dv_x, di_1, di_x, dw_1, ec_eq, ec_ne, ec_lt, ec_ge, ec_gt, ec_le, hq_z, hq_wz, hq_wc, hq_thr, hq_p29, hq_pw, eq_self, decide_true, decide_false, not_true_eq_false, not_false_eq_true, kq_0, kq_1, kq_2, kq_3, kq_4, kq_5, kq_6, kq_7, kq_8, kq_9, kq_10, kq_11, kq_12, kq_13, kq_14, kq_15, kq_16, kq_17, kq_18, kq_19, kq_20, kq_21, kq_22, kq_23, kq_24, kq_25, kq_26, kq_27, kq_28, kq_29, kq_30, kq_31, kq_32, kq_33, kq_34, kq_35, kq_36, kq_37, kq_38, kq_39, kq_40, kq_41, kq_42, kq_43, kq_44, kq_45, kq_46, kq_47, kq_48, kq_49, kq_50, kq_51, kq_52, kq_53, kq_54, kq_55, kq_56, kq_57, kq_58, kq_59, kq_60, kq_61, kq_62, kq_63, kq_64, kq_65, kq_66, kq_67, kq_68, kq_69, kq_70, kq_71, kq_72, kq_73, kq_74, kq_75, kq_76, kq_77, kq_78, kq_79, kq_80, kq_81, pq_0_0, pq_0_1, pq_0_2, pq_0_3, pq_0_4, pq_0_5, pq_0_6, pq_0_7, pq_1_0, pq_1_1, pq_1_2, pq_1_3, pq_1_4, pq_1_5, pq_1_6, pq_1_7, pq_10_0, pq_10_1, pq_10_2, pq_10_3, pq_15_0, pq_17_0, pq_19_0, pq_21_0, pq_21_1, pq_21_2, pq_21_3, pq_21_4, pq_21_5, pq_28_0, pq_30_0, pq_30_1, pq_30_2, pq_31_0, pq_35_0, pq_35_1, pq_35_2, pq_36_0, pq_40_0, pq_40_1, pq_40_2, pq_41_0, pq_45_0, pq_45_1, pq_45_2, pq_46_0, pq_50_0, pq_52_0, pq_52_1, pq_52_2, pq_52_3, pq_52_4, pq_52_5, pq_52_6, pq_52_8, pq_52_10, pq_52_11, pq_52_14, pq_52_15, pq_52_16, pq_52_17, pq_52_18, pq_52_27, pq_52_29, pq_52_30, pq_52_31, pq_52_32, pq_52_33, pq_52_34, pq_52_35, pq_52_36, pq_52_37, pq_52_38, pq_52_39, pq_52_40, pq_52_41, aq_1, aq_11, aq_12, aq_13, aq_14, aq_16, aq_18, aq_20, aq_22, aq_23, aq_24, aq_25, aq_26, aq_27, aq_29, aq_32, aq_33, aq_34, aq_37, aq_38, aq_39, aq_42, aq_43, aq_44, aq_47, aq_48, aq_49, aq_51, aq_53, aq_54, aq_55, aq_56, aq_57, aq_58, aq_59, aq_60, aq_61, aq_62, aq_63, aq_64, aq_65, aq_66, aq_67, aq_68, aq_69, aq_70, aq_71, aq_72, aq_73, aq_74, aq_75, aq_76, aq_77, aq_78, aq_79, aq_80, aq_81]
  have s7 : B_100_110 f f 52 (nI a) (nI b) 0 (hq z1 w c s) = some (.inl none, hq z5 w c s) := by
    refine Eq.trans s2 ?_
    simp only [B_100_110, show (60 : Int32) ≤ nI (0 + 60) from nI_le (a := 60) (by omega) (by omega), s6, dg_1, db_1, db_0, dl_1, dp_1, dv_1, dv_x, di_1, di_x, dw_1, ec_eq, ec_ne, ec_lt, ec_ge, ec_gt, ec_le, hq_z, hq_wz, hq_wc, hq_thr, hq_p29, hq_pw, eq_self, decide_true, decide_false, not_true_eq_false, not_false_eq_true, kq_0, kq_1, kq_2, kq_3, kq_4, kq_5, kq_6, kq_7, kq_8, kq_9, kq_10, kq_11, kq_12, kq_13, kq_14, kq_15, kq_16, kq_17, kq_18, kq_19, kq_20, kq_21, kq_22, kq_23, kq_24, kq_25, kq_26, kq_27, kq_28, kq_29, kq_30, kq_31, kq_32, kq_33, kq_34, kq_35, kq_36, kq_37, kq_38, kq_39, kq_40, kq_41, kq_42, kq_43, kq_44, kq_45, kq_46, kq_47, kq_48, kq_49, kq_50, kq_51, kq_52, kq_53, kq_54, kq_55, kq_56, kq_57, kq_58, kq_59, kq_60, kq_61, kq_62, kq_63, kq_64, kq_65, kq_66, kq_67, kq_68, kq_69, kq_70, kq_71, kq_72, kq_73, kq_74, kq_75, kq_76, kq_77, kq_78, kq_79, kq_80, kq_81, pq_0_0, pq_0_1, pq_0_2, pq_0_3, pq_0_4, pq_0_5, pq_0_6, pq_0_7, pq_1_0, pq_1_1, pq_1_2, pq_1_3, pq_1_4, pq_1_5, pq_1_6, pq_1_7, pq_10_0, pq_10_1, pq_10_2, pq_10_3, pq_15_0, pq_17_0, pq_19_0, pq_21_0, pq_21_1, pq_21_2, pq_21_3, pq_21_4, pq_21_5, pq_28_0, pq_30_0, pq_30_1, pq_30_2, pq_31_0, pq_35_0, pq_35_1, pq_35_2, pq_36_0, pq_40_0, pq_40_1, pq_40_2, pq_41_0, pq_45_0, pq_45_1, pq_45_2, pq_46_0, pq_50_0, pq_52_0, pq_52_1, pq_52_2, pq_52_3, pq_52_4, pq_52_5, pq_52_6, pq_52_8, pq_52_10, pq_52_11, pq_52_14, pq_52_15, pq_52_16, pq_52_17, pq_52_18, pq_52_27, pq_52_29, pq_52_30, pq_52_31, pq_52_32, pq_52_33, pq_52_34, pq_52_35, pq_52_36, pq_52_37, pq_52_38, pq_52_39, pq_52_40, pq_52_41, aq_1, aq_11, aq_12, aq_13, aq_14, aq_16, aq_18, aq_20, aq_22, aq_23, aq_24, aq_25, aq_26, aq_27, aq_29, aq_32, aq_33, aq_34, aq_37, aq_38, aq_39, aq_42, aq_43, aq_44, aq_47, aq_48, aq_49, aq_51, aq_53, aq_54, aq_55, aq_56, aq_57, aq_58, aq_59, aq_60, aq_61, aq_62, aq_63, aq_64, aq_65, aq_66, aq_67, aq_68, aq_69, aq_70, aq_71, aq_72, aq_73, aq_74, aq_75, aq_76, aq_77, aq_78, aq_79, aq_80, aq_81]
  refine ⟨z5, s1.trans s7, fun r hr => by rw [n5' r (by omega) (by omega), n3 r (by omega) (by omega), t2 r (by omega)], fun r h1 h2 => by rw [n5' r (by omega) (by omega), n3 r (by omega) (by omega), t1 r h1 h2], fun i => ?_, fun i => ?_, fun i => ?_, fun i => ?_⟩
  · rw [n5' 76 (by omega) (by omega), e3, cpz_ne (by decide), e2, cpz_at, t2 76 (by omega)]; rfl
  · rw [n5' 77 (by omega) (by omega), e3, cpz_at, e2, cpz_ne (by decide), t2 77 (by omega)]; rfl
  · rw [e5, cpz_ne (by decide), e4, cpz_at, n3 80 (by omega) (by omega), t2 80 (by omega)]; rfl
  · rw [e5, cpz_at, e4, cpz_ne (by decide), n3 81 (by omega) (by omega), t2 81 (by omega)]; rfl
def wM (S : St9) (z : Nat → Nat → Int32) : Prop := (∀ e, e < cn S 10 → eMz (S (15 + e)) z e) ∧ z 52 28 = nI (cn S 10)
theorem m101_l {m e : Nat} (hX : wX S) (hm : m = cn S 10) : ∀ (q k g : Nat) (z : Nat → Nat → Int32), z 52 28 = nI m → e ≤ k → k + 1 + q = m → q < g → (∀ i, i < m → eMz (if e ≤ i ∧ i < k then S (15 + (i + 1)) else S (15 + i)) z i) → 6000 < f → ∃ z', B_101_2 f g 52 (nI k) (hq z w c s) = some (.inl none, hq z' w c s) ∧ (∀ r, r ≠ 52 → r < 69 ∨ 81 < r → z' r = z r) ∧ (∀ j, j ≠ 28 → z' 52 j = z 52 j) ∧ z' 52 28 = nI (m - 1) ∧ ∀ i, i < m - 1 → eMz (if e ≤ i then S (15 + (i + 1)) else S (15 + i)) z' i := by
  obtain ⟨X1, X2⟩ := hX
  intro q
  induction q with
  | zero =>
    intro k g z h28 hek h1 h2 hI hf
    obtain ⟨g, rfl⟩ : ∃ g', g = g' + 1 := ⟨g - 1, by omega⟩
    have e1 : nI m ≤ nI (k + 1) := nI_le (by omega) (by omega)
    have x1 : nI m - 1 = nI (m - 1) := nI_subN (b := 1) (by omega)
    refine ⟨va_up z 52 (upd (z 52) 28 (nI (m - 1))), ?_, fun r h52 _ => va_up_ne _ _ h52, fun j hj => by rw [va_up_self, pk_un hj], by rw [va_up_self, pk_us], fun i hi => ?_⟩
    · simp only [B_101_2, nI_1, h28, e1, x1, dg_1, db_1, db_0, dl_1, dp_1, dv_1, dv_x, di_1, di_x, dw_1, ec_eq, ec_ne, ec_lt, ec_ge, ec_gt, ec_le, hq_z, hq_wz, hq_wc, hq_thr, hq_p29, hq_pw, eq_self, decide_true, decide_false, not_true_eq_false, not_false_eq_true, kq_0, kq_1, kq_2, kq_3, kq_4, kq_5, kq_6, kq_7, kq_8, kq_9, kq_10, kq_11, kq_12, kq_13, kq_14, kq_15, kq_16, kq_17, kq_18, kq_19, kq_20, kq_21, kq_22, kq_23, kq_24, kq_25, kq_26, kq_27, kq_28, kq_29, kq_30, kq_31, kq_32, kq_33, kq_34, kq_35, kq_36, kq_37, kq_38, kq_39, kq_40, kq_41, kq_42, kq_43, kq_44, kq_45, kq_46, kq_47, kq_48, kq_49, kq_50, kq_51, kq_52, kq_53, kq_54, kq_55, kq_56, kq_57, kq_58, kq_59, kq_60, kq_61, kq_62, kq_63, kq_64, kq_65, kq_66, kq_67, kq_68, kq_69, kq_70, kq_71, kq_72, kq_73, kq_74, kq_75, kq_76, kq_77, kq_78, kq_79, kq_80, kq_81, pq_0_0, pq_0_1, pq_0_2, pq_0_3, pq_0_4, pq_0_5, pq_0_6, pq_0_7, pq_1_0, pq_1_1, pq_1_2, pq_1_3, pq_1_4, pq_1_5, pq_1_6, pq_1_7, pq_10_0, pq_10_1, pq_10_2, pq_10_3, pq_15_0, pq_17_0, pq_19_0, pq_21_0, pq_21_1, pq_21_2, pq_21_3, pq_21_4, pq_21_5, pq_28_0, pq_30_0, pq_30_1, pq_30_2, pq_31_0, pq_35_0, pq_35_1, pq_35_2, pq_36_0, pq_40_0, pq_40_1, pq_40_2, pq_41_0, pq_45_0, pq_45_1, pq_45_2, pq_46_0, pq_50_0, pq_52_0, pq_52_1, pq_52_2, pq_52_3, pq_52_4, pq_52_5, pq_52_6, pq_52_8, pq_52_10, pq_52_11, pq_52_14, pq_52_15, pq_52_16, pq_52_17, pq_52_18, pq_52_27, pq_52_29, pq_52_30, pq_52_31, pq_52_32, pq_52_33, pq_52_34, pq_52_35, pq_52_36, pq_52_37, pq_52_38, pq_52_39, pq_52_40, pq_52_41, aq_1, aq_11, aq_12, aq_13, aq_14, aq_16, aq_18, aq_20, aq_22, aq_23, aq_24, aq_25, aq_26, aq_27, aq_29, aq_32, aq_33, aq_34, aq_37, aq_38, aq_39, aq_42, aq_43, aq_44, aq_47, aq_48, aq_49, aq_51, aq_53, aq_54, aq_55, aq_56, aq_57, aq_58, aq_59, aq_60, aq_61, aq_62, aq_63, aq_64, aq_65, aq_66, aq_67, aq_68, aq_69, aq_70, aq_71, aq_72, aq_73, aq_74, aq_75, aq_76, aq_77, aq_78, aq_79, aq_80, aq_81]
    · have := hI i (by omega)
      have hc : (if e ≤ i ∧ i < k then S (15 + (i + 1)) else S (15 + i)) = if e ≤ i then S (15 + (i + 1)) else S (15 + i) := by
        by_cases h : e ≤ i
        · rw [if_pos ⟨h, by omega⟩, if_pos h]
        · rw [if_neg (by omega), if_neg h]
      rw [hc] at this
      unfold eMz at this ⊢
      rw [va_up_ne _ _ (by decide), va_up_ne _ _ (by decide), va_up_ne _ _ (by decide), va_up_ne _ _ (by decide), va_up_ne _ _ (by decide), va_up_ne _ _ (by decide), va_up_ne _ _ (by decide), va_up_ne _ _ (by decide), va_up_ne _ _ (by decide), va_up_ne _ _ (by decide), va_up_ne _ _ (by decide), va_up_ne _ _ (by decide), va_up_ne _ _ (by decide)]
      exact this
  | succ q ih =>
    intro k g z h28 hek h1 h2 hI hf
    obtain ⟨g, rfl⟩ : ∃ g', g = g' + 1 := ⟨g - 1, by omega⟩
    have e1 : ¬ nI m ≤ nI (k + 1) := nI_ge (by omega) (by omega)
    have hk1 := hI (k + 1) (by omega)
    rw [if_neg (by omega)] at hk1
    have hWk := X2 (k + 1) (by omega)
    obtain ⟨z1, g1, g2, g3, g4, g5, g6, g7⟩ := m100 (f := f) (w := w) (c := c) (s := s) (z := z) (a := k) (b := k + 1) (by omega) (by omega) (fun i hi => by
      rw [hk1.2.2.2.2 i hi]; split; exact dz_1; exact dz_0) (by omega)
    obtain ⟨z2, k1, k2, k3, k4, k5⟩ := ih (k + 1) g z1 (by rw [g2 52 (by omega)]; exact h28) (by omega) (by omega) (by omega) (fun i hi => by
      by_cases h9 : i = k
      · rw [h9, if_pos (by omega)]
        exact eM_mv hk1 (fun r h1 h2 => by rw [g3 r h1 h2, pk_us]) (fun i hi => by rw [g4, if_pos (by omega), show 60 * (k + 1) + (60 * k + i - 60 * k) = 60 * (k + 1) + i by omega]) (fun i hi => by rw [g5, if_pos (by omega), show 8 * (k + 1) + (8 * k + i - 8 * k) = 8 * (k + 1) + i by omega]) (fun i hi => by rw [g6, if_pos (by omega), show 4000 * (k + 1) + (4000 * k + i - 4000 * k) = 4000 * (k + 1) + i by omega]) (fun i hi => by rw [g7, if_pos (by omega), show 4000 * (k + 1) + (4000 * k + i - 4000 * k) = 4000 * (k + 1) + i by omega]) (fun _ => hl_le _)
      · have hi' := hI i hi
        have hc : (if e ≤ i ∧ i < k then S (15 + (i + 1)) else S (15 + i)) = if e ≤ i ∧ i < k + 1 then S (15 + (i + 1)) else S (15 + i) := by
          by_cases h : e ≤ i ∧ i < k
          · rw [if_pos h, if_pos (by omega)]
          · rw [if_neg h, if_neg (by omega)]
        rw [hc] at hi'
        exact eM_mv hi' (fun r h1 h2 => by rw [g3 r h1 h2, pk_un h9]) (fun j hj => by rw [g4, if_neg (by omega)]) (fun j hj => by rw [g5, if_neg (by omega)]) (fun j hj => by rw [g6, if_neg (by omega)]) (fun j hj => by rw [g7, if_neg (by omega)]) (fun _ => hl_le _)) hf
    refine ⟨z2, ?_, fun r h52 hr => by rw [k2 r h52 hr, g2 r hr], fun j hj => by rw [k3 j hj, g2 52 (by omega)], k4, k5⟩
    rw [← k1]
    simp only [B_101_2, nI_1, h28, e1, g1, dg_1, db_1, db_0, dl_1, dp_1, dv_1, dv_x, di_1, di_x, dw_1, ec_eq, ec_ne, ec_lt, ec_ge, ec_gt, ec_le, hq_z, hq_wz, hq_wc, hq_thr, hq_p29, hq_pw, eq_self, decide_true, decide_false, not_true_eq_false, not_false_eq_true, kq_0, kq_1, kq_2, kq_3, kq_4, kq_5, kq_6, kq_7, kq_8, kq_9, kq_10, kq_11, kq_12, kq_13, kq_14, kq_15, kq_16, kq_17, kq_18, kq_19, kq_20, kq_21, kq_22, kq_23, kq_24, kq_25, kq_26, kq_27, kq_28, kq_29, kq_30, kq_31, kq_32, kq_33, kq_34, kq_35, kq_36, kq_37, kq_38, kq_39, kq_40, kq_41, kq_42, kq_43, kq_44, kq_45, kq_46, kq_47, kq_48, kq_49, kq_50, kq_51, kq_52, kq_53, kq_54, kq_55, kq_56, kq_57, kq_58, kq_59, kq_60, kq_61, kq_62, kq_63, kq_64, kq_65, kq_66, kq_67, kq_68, kq_69, kq_70, kq_71, kq_72, kq_73, kq_74, kq_75, kq_76, kq_77, kq_78, kq_79, kq_80, kq_81, pq_0_0, pq_0_1, pq_0_2, pq_0_3, pq_0_4, pq_0_5, pq_0_6, pq_0_7, pq_1_0, pq_1_1, pq_1_2, pq_1_3, pq_1_4, pq_1_5, pq_1_6, pq_1_7, pq_10_0, pq_10_1, pq_10_2, pq_10_3, pq_15_0, pq_17_0, pq_19_0, pq_21_0, pq_21_1, pq_21_2, pq_21_3, pq_21_4, pq_21_5, pq_28_0, pq_30_0, pq_30_1, pq_30_2, pq_31_0, pq_35_0, pq_35_1, pq_35_2, pq_36_0, pq_40_0, pq_40_1, pq_40_2, pq_41_0, pq_45_0, pq_45_1, pq_45_2, pq_46_0, pq_50_0, pq_52_0, pq_52_1, pq_52_2, pq_52_3, pq_52_4, pq_52_5, pq_52_6, pq_52_8, pq_52_10, pq_52_11, pq_52_14, pq_52_15, pq_52_16, pq_52_17, pq_52_18, pq_52_27, pq_52_29, pq_52_30, pq_52_31, pq_52_32, pq_52_33, pq_52_34, pq_52_35, pq_52_36, pq_52_37, pq_52_38, pq_52_39, pq_52_40, pq_52_41, aq_1, aq_11, aq_12, aq_13, aq_14, aq_16, aq_18, aq_20, aq_22, aq_23, aq_24, aq_25, aq_26, aq_27, aq_29, aq_32, aq_33, aq_34, aq_37, aq_38, aq_39, aq_42, aq_43, aq_44, aq_47, aq_48, aq_49, aq_51, aq_53, aq_54, aq_55, aq_56, aq_57, aq_58, aq_59, aq_60, aq_61, aq_62, aq_63, aq_64, aq_65, aq_66, aq_67, aq_68, aq_69, aq_70, aq_71, aq_72, aq_73, aq_74, aq_75, aq_76, aq_77, aq_78, aq_79, aq_80, aq_81]
theorem m101 {e : Nat} (hM : wM S z) (hX : wX S) (he : e < cn S 10) (hf : 6000 < f) : ∃ z', F_101 f 52 (nI e) (hq z w c s) = some (.inl none, hq z' w c s) ∧ wM (rmS S e) z' ∧ (∀ r, r ≠ 52 → r < 69 ∨ 81 < r → z' r = z r) ∧ ∀ j, j ≠ 28 → z' 52 j = z 52 j := by
  obtain ⟨z1, g1, g2, g3, g4, g5⟩ := m101_l (f := f) (w := w) (c := c) (s := s) (m := cn S 10) (e := e) hX rfl (cn S 10 - 1 - e) e f z hM.2 (by omega) (by omega) (by have := hX.1; omega) (fun i hi => by rw [if_neg (by omega)]; exact hM.1 i hi) hf
  refine ⟨z1, g1, ⟨fun i hi => ?_, by rw [g4, rmS_c hX.1]⟩, g2, g3⟩
  rw [rmS_c hX.1] at hi
  have hx := hX.1
  by_cases h : e ≤ i
  · have := g5 i hi; rw [if_pos h] at this; rw [rmS_e h (by omega)]; exact this
  · have := g5 i hi; rw [if_neg h] at this; rw [rmS_k (by omega) (by omega)]; exact this
end Wait79
