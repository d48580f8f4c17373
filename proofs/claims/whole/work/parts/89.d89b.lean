-- pass: the reference, and both sides as a whole
section Pass89b
variable {S T : St9} {z z' : Nat → Nat → Int32} {w : Nat → Option Nat} {f c s n p t r : Nat} {P : Nat → Nat} {E : Nat → Int32}
theorem lp_113a {l1 : Nat} (h1 : l1 ≤ 60) : ∀ (q k g : Nat) (z : Nat → Nat → Int32), k + q ≤ l1 → B_113_13 f  (g + q) 52 (nI l1) (nI k) (hq z w c s) = B_113_13 f  g 52 (nI l1) (nI (k + q)) (hq (cpz z 61 76 (0 + k) (0 + k) q) w c s) := by
  intro q
  induction q with
  | zero => intro k g z h; rw [cpz_0]; rfl
  | succ q ih =>
    intro k g z h
    have e1 := ih (k + 1) g (va_up z 61 (upd (z 61) (0 + k) (z 76 (0 + k)))) (by omega)
    rw [show 0 + (k + 1) = 0 + k + 1 from rfl, cpz_s (Or.inl (by decide)), show k + 1 + q = k + (q + 1) by omega] at e1
    rw [← e1, show g + (q + 1) = (g + q) + 1 from rfl]
    have y0 : ¬ nI (l1) ≤ nI k := nI_ge (by omega) (by omega)
    have y1 : ev_in (nI (0 + k)) 240 = true := ev_in_nI (by omega) (by omega)
    have y2 : ev_in (nI (0 + k)) 4100 = true := ev_in_nI (by omega) (by omega)
    have y3 : (nI (0 + k)).toNatClampNeg = 0 + k := nI_clamp (by omega)
    have y4 : (nI (0 + k)).toNatClampNeg = 0 + k := nI_clamp (by omega)
    rw [show (0 : Nat) + k = k by omega] at y1 y2 y3 y4 ⊢
    simp only [B_113_13, y0, y1, y2, y3, y4, nI_add, nI_1, dg_1, db_1, db_0, dl_1, dp_1, dv_1, dv_x, di_1, di_x, dw_1, ec_eq, ec_ne, ec_lt, ec_ge, ec_gt, ec_le, hq_z, hq_wz, hq_wc, hq_thr, hq_p29, hq_pw, eq_self, decide_true, decide_false, not_true_eq_false, not_false_eq_true, kq_0, kq_1, kq_2, kq_3, kq_4, kq_5, kq_6, kq_7, kq_8, kq_9, kq_10, kq_11, kq_12, kq_13, kq_14, kq_15, kq_16, kq_17, kq_18, kq_19, kq_20, kq_21, kq_22, kq_23, kq_24, kq_25, kq_26, kq_27, kq_28, kq_29, kq_30, kq_31, kq_32, kq_33, kq_34, kq_35, kq_36, kq_37, kq_38, kq_39, kq_40, kq_41, kq_42, kq_43, kq_44, kq_45, kq_46, kq_47, kq_48, kq_49, kq_50, kq_51, kq_52, kq_53, kq_54, kq_55, kq_56, kq_57, kq_58, kq_59, kq_60, kq_61, kq_62, kq_63, kq_64, kq_65, kq_66, kq_67, kq_68, kq_69, kq_70, kq_71, kq_72, kq_73, kq_74, kq_75, kq_76, kq_77, kq_78, kq_79, kq_80, kq_81, pq_0_0, pq_0_1, pq_0_2, pq_0_3, pq_0_4, pq_0_5, pq_0_6, pq_0_7, pq_1_0, pq_1_1, pq_1_2, pq_1_3, pq_1_4, pq_1_5, pq_1_6, pq_1_7, pq_10_0, pq_10_1, pq_10_2, pq_10_3, pq_15_0, pq_17_0, pq_19_0, pq_21_0, pq_21_1, pq_21_2, pq_21_3, pq_21_4, pq_21_5, pq_28_0, pq_30_0, pq_30_1, pq_30_2, pq_31_0, pq_35_0, pq_35_1, pq_35_2, pq_36_0, pq_40_0, pq_40_1, pq_40_2, pq_41_0, pq_45_0, pq_45_1, pq_45_2, pq_46_0, pq_50_0, pq_52_0, pq_52_1, pq_52_2, pq_52_3, pq_52_4, pq_52_5, pq_52_6, pq_52_8, pq_52_10, pq_52_11, pq_52_14, pq_52_15, pq_52_16, pq_52_17, pq_52_18, pq_52_27, pq_52_29, pq_52_30, pq_52_31, pq_52_32, pq_52_33, pq_52_34, pq_52_35, pq_52_36, pq_52_37, pq_52_38, pq_52_39, pq_52_40, pq_52_41, aq_1, aq_11, aq_12, aq_13, aq_14, aq_16, aq_18, aq_20, aq_22, aq_23, aq_24, aq_25, aq_26, aq_27, aq_29, aq_32, aq_33, aq_34, aq_37, aq_38, aq_39, aq_42, aq_43, aq_44, aq_47, aq_48, aq_49, aq_51, aq_53, aq_54, aq_55, aq_56, aq_57, aq_58, aq_59, aq_60, aq_61, aq_62, aq_63, aq_64, aq_65, aq_66, aq_67, aq_68, aq_69, aq_70, aq_71, aq_72, aq_73, aq_74, aq_75, aq_76, aq_77, aq_78, aq_79, aq_80, aq_81]
theorem lp_113b {l1 : Nat} (h1 : l1 ≤ 60) : ∀ (q k g : Nat) (z : Nat → Nat → Int32) (x0 : z 78 0 = nI 8), k + q ≤ 8 → B_113_38 f  (g + q) 52 (nI l1) (nI k) (hq z w c s) = B_113_38 f  g 52 (nI l1) (nI (k + q)) (hq (cpz z 61 77 (0 + k) (l1 + k) q) w c s) := by
  intro q
  induction q with
  | zero => intro k g z x0 h; rw [cpz_0]; rfl
  | succ q ih =>
    intro k g z x0 h
    have e1 := ih (k + 1) g (va_up z 61 (upd (z 61) (l1 + k) (z 77 (0 + k)))) ((congrFun (va_up_ne _ _ (by decide)) _).trans x0) (by omega)
    rw [show 0 + (k + 1) = 0 + k + 1 from rfl, show l1 + (k + 1) = l1 + k + 1 from rfl, cpz_s (Or.inl (by decide)), show k + 1 + q = k + (q + 1) by omega] at e1
    rw [← e1, show g + (q + 1) = (g + q) + 1 from rfl]
    have y0 : ¬ nI 8 ≤ nI k := nI_ge (by omega) (by omega)
    have y1 : ev_in (nI (0 + k)) 32 = true := ev_in_nI (by omega) (by omega)
    have y2 : ev_in (nI (l1 + k)) 4100 = true := ev_in_nI (by omega) (by omega)
    have y3 : (nI (0 + k)).toNatClampNeg = 0 + k := nI_clamp (by omega)
    have y4 : (nI (l1 + k)).toNatClampNeg = l1 + k := nI_clamp (by omega)
    rw [show (0 : Nat) + k = k by omega] at y1 y3 ⊢
    have y5 : ev_in 0 4 = true := by decide
    have y6 : Int32.toNatClampNeg 0 = 0 := rfl
    simp only [B_113_38, y0, y1, y2, y3, y4, x0, nI_add, nI_1, y5, y6, dg_1, db_1, db_0, dl_1, dp_1, dv_1, dv_x, di_1, di_x, dw_1, ec_eq, ec_ne, ec_lt, ec_ge, ec_gt, ec_le, hq_z, hq_wz, hq_wc, hq_thr, hq_p29, hq_pw, eq_self, decide_true, decide_false, not_true_eq_false, not_false_eq_true, kq_0, kq_1, kq_2, kq_3, kq_4, kq_5, kq_6, kq_7, kq_8, kq_9, kq_10, kq_11, kq_12, kq_13, kq_14, kq_15, kq_16, kq_17, kq_18, kq_19, kq_20, kq_21, kq_22, kq_23, kq_24, kq_25, kq_26, kq_27, kq_28, kq_29, kq_30, kq_31, kq_32, kq_33, kq_34, kq_35, kq_36, kq_37, kq_38, kq_39, kq_40, kq_41, kq_42, kq_43, kq_44, kq_45, kq_46, kq_47, kq_48, kq_49, kq_50, kq_51, kq_52, kq_53, kq_54, kq_55, kq_56, kq_57, kq_58, kq_59, kq_60, kq_61, kq_62, kq_63, kq_64, kq_65, kq_66, kq_67, kq_68, kq_69, kq_70, kq_71, kq_72, kq_73, kq_74, kq_75, kq_76, kq_77, kq_78, kq_79, kq_80, kq_81, pq_0_0, pq_0_1, pq_0_2, pq_0_3, pq_0_4, pq_0_5, pq_0_6, pq_0_7, pq_1_0, pq_1_1, pq_1_2, pq_1_3, pq_1_4, pq_1_5, pq_1_6, pq_1_7, pq_10_0, pq_10_1, pq_10_2, pq_10_3, pq_15_0, pq_17_0, pq_19_0, pq_21_0, pq_21_1, pq_21_2, pq_21_3, pq_21_4, pq_21_5, pq_28_0, pq_30_0, pq_30_1, pq_30_2, pq_31_0, pq_35_0, pq_35_1, pq_35_2, pq_36_0, pq_40_0, pq_40_1, pq_40_2, pq_41_0, pq_45_0, pq_45_1, pq_45_2, pq_46_0, pq_50_0, pq_52_0, pq_52_1, pq_52_2, pq_52_3, pq_52_4, pq_52_5, pq_52_6, pq_52_8, pq_52_10, pq_52_11, pq_52_14, pq_52_15, pq_52_16, pq_52_17, pq_52_18, pq_52_27, pq_52_29, pq_52_30, pq_52_31, pq_52_32, pq_52_33, pq_52_34, pq_52_35, pq_52_36, pq_52_37, pq_52_38, pq_52_39, pq_52_40, pq_52_41, aq_1, aq_11, aq_12, aq_13, aq_14, aq_16, aq_18, aq_20, aq_22, aq_23, aq_24, aq_25, aq_26, aq_27, aq_29, aq_32, aq_33, aq_34, aq_37, aq_38, aq_39, aq_42, aq_43, aq_44, aq_47, aq_48, aq_49, aq_51, aq_53, aq_54, aq_55, aq_56, aq_57, aq_58, aq_59, aq_60, aq_61, aq_62, aq_63, aq_64, aq_65, aq_66, aq_67, aq_68, aq_69, aq_70, aq_71, aq_72, aq_73, aq_74, aq_75, aq_76, aq_77, aq_78, aq_79, aq_80, aq_81]
theorem m_ex (hK : kM S z) (hI : PI S t r) (hr : r ≤ 3000) (hod : odS S t) (hf : 30000 < f) : ∃ z', F_113 f 52 (hq z w c s) = some (.inl none, hq z' w c s) ∧ kM (exS S) z' ∧ (∀ a, a < 52 → z' a = z a) ∧ z' 60 = z 60 ∧ ∀ k, k = 9 ∨ k = 42 → z' 52 k = z 52 k := by
  have hm := ex_mid hI hr hod.1
  obtain ⟨K1, K2, K3, K4, K5⟩ := id hK
  obtain ⟨I1, I2, I3, I4, I5, I6, I7, I8⟩ := id hI
  have hMe := K3.1 0 hod.1
  obtain ⟨-, m6, m7, -, -⟩ := hMe
  have i0 : ev_in 0 4 = true := by decide
  have c0 : Int32.toNatClampNeg 0 = 0 := rfl
  have hmid : ∃ z1, F_113 f 52 (hq z w c s) = B_113_94 f 52 (hq z1 w c s) ∧ kM (if S 15 7 = 1 then erS S (S 15 8).toNatClampNeg (fq (S 15)) 8 11 1 0 else S) z1 ∧ (∀ a, a < 52 → z1 a = z a) ∧ z1 60 = z 60 ∧ ∀ k, k = 9 ∨ k = 42 → z1 52 k = z 52 k := by
    by_cases h7 : S 15 7 = 1
    · rw [if_pos h7]
      obtain ⟨p, hp, h8, hc8, v1, v2, v3⟩ := hm.1 h7
      have hl6 := hl_le (fq (S 15))
      obtain ⟨k1, k2, k3, k4, k5⟩ := m7 h7
      have k1' : z 75 0 = nI (hl (fq (S 15))) := k1
      have k2' : z 78 0 = 8 := k2
      have k3' : z 79 0 = nI p := by rw [show z 79 0 = S (15 + 0) 8 from k3]; exact h8
      have s1 := lp_113a (f := f) (w := w) (c := c) (s := s) (l1 := hl (fq (S 15))) hl6 (hl (fq (S 15))) 0 (f - hl (fq (S 15))) z (by omega)
      rw [show f - hl (fq (S 15)) + hl (fq (S 15)) = f by omega] at s1
      obtain ⟨z1, e1⟩ : ∃ x, x = cpz z 61 76 (0 + 0) (0 + 0) (hl (fq (S 15))) := ⟨_, rfl⟩
      rw [← e1] at s1
      have n1 : ∀ a, a ≠ 61 → z1 a = z a := fun a ha => by rw [e1, cpz_ne ha]
      have s2 := lp_113b (f := f) (w := w) (c := c) (s := s) (l1 := hl (fq (S 15))) hl6 8 0 (f - 8) z1 (by rw [n1 78 (by omega)]; exact k2') (by omega)
      rw [show f - 8 + 8 = f by omega] at s2
      obtain ⟨z2, e2⟩ : ∃ x, x = cpz z1 61 77 (0 + 0) (hl (fq (S 15)) + 0) 8 := ⟨_, rfl⟩
      rw [← e2] at s2
      have n2' : ∀ a, a ≠ 61 → z2 a = z a := fun a ha => by rw [e2, cpz_ne ha, n1 a ha]
      obtain ⟨z3, e3⟩ : ∃ x, x = va_up z2 52 (upd (z2 52) 12 (nI (hl (fq (S 15)) + 8))) := ⟨_, rfl⟩
      have n3 : ∀ a, a ≠ 52 → z3 a = z2 a := fun a ha => by rw [e3, va_up_ne _ _ ha]
      have b3 : ∀ k, k ≠ 12 → z3 52 k = z 52 k := fun k hk => by rw [e3, va_up_self, pk_un hk, n2' 52 (by omega)]
      have hP3 : mb z3 61 (hl (fq (S 15)) + 8) (fq (S 15)) := ⟨fq_lt _, fun i hi => by
        rw [n3 61 (by omega), e2, cpz_at]
        by_cases h : i < hl (fq (S 15))
        · rw [if_neg (by omega), e1, cpz_at, if_pos (by omega), show 0 + 0 + (i - (0 + 0)) = 60 * 0 + i by omega, k4 i h]
          exact v3 i (by omega)
        · rw [if_pos (by omega), n1 77 (by omega), show 0 + 0 + (i - (hl (fq (S 15)) + 0)) = 8 * 0 + (i - hl (fq (S 15))) by omega, k5 _ (by omega)]
          have := v3 i hi
          rw [show hl (fq (S (15 + 0))) + (i - hl (fq (S 15))) = i by show hl (fq (S 15)) + (i - hl (fq (S 15))) = i; omega]
          exact this⟩
      have N1 : mE S z3 := mE_of K1 (fun _ _ _ => rfl) (fun _ _ => rfl) (fun a h1 h2 h3 h4 => by rw [n3 a (by omega), n2' a h3]) (fun k h1 h2 => b3 k (by omega))
      obtain ⟨z4, j1, j2, j3, j4⟩ := m98 (f := f) (w := w) (c := c) (s := s) (z := z3) (S := S) (p := p) (P := fq (S 15)) (M := hl (fq (S 15)) + 8) (sz := hl (fq (S 15)) + 8) (q := 8) (ty := 11) (co := 1) (re := 0) N1 I1 hp hP3 (by omega) v1 (by rw [e3, va_up_self, pk_us]) (by omega) (by omega) (by rw [if_neg (by omega)]) (by omega) (by omega) (by omega) (by omega) (by omega) (by omega) (by omega)
      have j1' : F_98 f 52 (nI p) 11 1 0 (hq z3 w c s) = some (.inl none, hq z4 w c s) := j1
      rw [hc8]
      have hk := erS_k (S := S) (p := p) (P := fq (S 15)) (q := 8) (ty := 11) (co := 1) (re := 0) I1 hp (by omega) (by omega) (by omega)
      obtain ⟨L1, L2, L3, L4, L5, L6⟩ := lv_er (S := S) (p := p) (P := fq (S 15)) (q := 8) (ty := 11) (co := 1) (re := 0) I1 hp (by omega) (by omega) (by omega)
      have a4 : ∀ a, a ≠ 52 → a < 61 ∨ 67 < a → z4 a = z a := fun a h52 ha => by rw [j3 a h52 (by omega), n3 a h52, n2' a (by omega)]
      have b4 : ∀ k, k ≠ 12 → k ≠ 13 → k ≠ 19 → k ≠ 20 → k ≠ 21 → z4 52 k = z 52 k := fun k h12 h13 h19 h20 h21 => by rw [j4 k h13 h19 h20 h21, b3 k h12]
      refine ⟨z4, ?_, ⟨j2, dM_of K2 (fun k h1 h2 => hk.2.1 k (by omega) (by omega) (by omega) (by omega)) (hk.1 14 (by omega) (by omega)) (fun k h1 h2 => b4 k (by omega) (by omega) (by omega) (by omega) (by omega)) (a4 68 (by omega) (by omega)), wM_of K3 L6 L2 (fun a h1 h2 => a4 a (by omega) (by omega)) (b4 28 (by omega) (by omega) (by omega) (by omega) (by omega)), rtM_of K4 L3 (fun k h1 h2 => L1 k (by omega) (by omega)) (fun a h1 h2 => a4 a (by omega) (by omega)) (b4 7 (by omega) (by omega) (by omega) (by omega) (by omega)), by rw [b4 22 (by omega) (by omega) (by omega) (by omega) (by omega), L5]; exact K5⟩, fun a ha => a4 a (by omega) (by omega), a4 60 (by omega) (by omega), fun k hk9 => b4 k (by omega) (by omega) (by omega) (by omega) (by omega)⟩
      obtain ⟨g1, hg1⟩ : ∃ g, f - hl (fq (S 15)) = g + 1 := ⟨f - hl (fq (S 15)) - 1, by omega⟩
      obtain ⟨g2, hg2⟩ : ∃ g, f - 8 = g + 1 := ⟨f - 9, by omega⟩
      rw [hg1] at s1
      rw [hg2] at s2
      have y0 : ¬ nI (hl (fq (S 15))) ≤ 0 := nI_nle (by omega) (by omega)
      have y1 : nI (hl (fq (S 15))) ≤ nI (0 + hl (fq (S 15))) := nI_le (by omega) (by omega)
      have y2 : z2 78 0 = 8 := by rw [n2' 78 (by omega)]; exact k2'
      have y3 : (8 : Int32) ≤ nI (0 + 8) := nI_le (a := 8) (by omega) (by omega)
      have y4 : z3 79 0 = nI p := by rw [n3 79 (by omega), n2' 79 (by omega)]; exact k3'
      have s3 : B_113_38 f f 52 (nI (hl (fq (S 15)))) 0 (hq z1 w c s) = B_113_94 f 52 (hq z4 w c s) := by
        refine Eq.trans s2 ?_
        simp only [B_113_38, i0, c0, y2, y3, nI_k8, ← e3, y4, j1', dg_1, db_1, db_0, dl_1, dp_1, dv_1, dv_x, di_1, di_x, dw_1, ec_eq, ec_ne, ec_lt, ec_ge, ec_gt, ec_le, hq_z, hq_wz, hq_wc, hq_thr, hq_p29, hq_pw, eq_self, decide_true, decide_false, not_true_eq_false, not_false_eq_true, kq_0, kq_1, kq_2, kq_3, kq_4, kq_5, kq_6, kq_7, kq_8, kq_9, kq_10, kq_11, kq_12, kq_13, kq_14, kq_15, kq_16, kq_17, kq_18, kq_19, kq_20, kq_21, kq_22, kq_23, kq_24, kq_25, kq_26, kq_27, kq_28, kq_29, kq_30, kq_31, kq_32, kq_33, kq_34, kq_35, kq_36, kq_37, kq_38, kq_39, kq_40, kq_41, kq_42, kq_43, kq_44, kq_45, kq_46, kq_47, kq_48, kq_49, kq_50, kq_51, kq_52, kq_53, kq_54, kq_55, kq_56, kq_57, kq_58, kq_59, kq_60, kq_61, kq_62, kq_63, kq_64, kq_65, kq_66, kq_67, kq_68, kq_69, kq_70, kq_71, kq_72, kq_73, kq_74, kq_75, kq_76, kq_77, kq_78, kq_79, kq_80, kq_81, pq_0_0, pq_0_1, pq_0_2, pq_0_3, pq_0_4, pq_0_5, pq_0_6, pq_0_7, pq_1_0, pq_1_1, pq_1_2, pq_1_3, pq_1_4, pq_1_5, pq_1_6, pq_1_7, pq_10_0, pq_10_1, pq_10_2, pq_10_3, pq_15_0, pq_17_0, pq_19_0, pq_21_0, pq_21_1, pq_21_2, pq_21_3, pq_21_4, pq_21_5, pq_28_0, pq_30_0, pq_30_1, pq_30_2, pq_31_0, pq_35_0, pq_35_1, pq_35_2, pq_36_0, pq_40_0, pq_40_1, pq_40_2, pq_41_0, pq_45_0, pq_45_1, pq_45_2, pq_46_0, pq_50_0, pq_52_0, pq_52_1, pq_52_2, pq_52_3, pq_52_4, pq_52_5, pq_52_6, pq_52_8, pq_52_10, pq_52_11, pq_52_14, pq_52_15, pq_52_16, pq_52_17, pq_52_18, pq_52_27, pq_52_29, pq_52_30, pq_52_31, pq_52_32, pq_52_33, pq_52_34, pq_52_35, pq_52_36, pq_52_37, pq_52_38, pq_52_39, pq_52_40, pq_52_41, aq_1, aq_11, aq_12, aq_13, aq_14, aq_16, aq_18, aq_20, aq_22, aq_23, aq_24, aq_25, aq_26, aq_27, aq_29, aq_32, aq_33, aq_34, aq_37, aq_38, aq_39, aq_42, aq_43, aq_44, aq_47, aq_48, aq_49, aq_51, aq_53, aq_54, aq_55, aq_56, aq_57, aq_58, aq_59, aq_60, aq_61, aq_62, aq_63, aq_64, aq_65, aq_66, aq_67, aq_68, aq_69, aq_70, aq_71, aq_72, aq_73, aq_74, aq_75, aq_76, aq_77, aq_78, aq_79, aq_80, aq_81]
      have s4 : B_113_13 f f 52 (nI (hl (fq (S 15)))) 0 (hq z w c s) = B_113_94 f 52 (hq z4 w c s) := by
        refine Eq.trans s1 ?_
        simp only [B_113_13, y1, s3, dg_1, db_1, db_0, dl_1, dp_1, dv_1, dv_x, di_1, di_x, dw_1, ec_eq, ec_ne, ec_lt, ec_ge, ec_gt, ec_le, hq_z, hq_wz, hq_wc, hq_thr, hq_p29, hq_pw, eq_self, decide_true, decide_false, not_true_eq_false, not_false_eq_true, kq_0, kq_1, kq_2, kq_3, kq_4, kq_5, kq_6, kq_7, kq_8, kq_9, kq_10, kq_11, kq_12, kq_13, kq_14, kq_15, kq_16, kq_17, kq_18, kq_19, kq_20, kq_21, kq_22, kq_23, kq_24, kq_25, kq_26, kq_27, kq_28, kq_29, kq_30, kq_31, kq_32, kq_33, kq_34, kq_35, kq_36, kq_37, kq_38, kq_39, kq_40, kq_41, kq_42, kq_43, kq_44, kq_45, kq_46, kq_47, kq_48, kq_49, kq_50, kq_51, kq_52, kq_53, kq_54, kq_55, kq_56, kq_57, kq_58, kq_59, kq_60, kq_61, kq_62, kq_63, kq_64, kq_65, kq_66, kq_67, kq_68, kq_69, kq_70, kq_71, kq_72, kq_73, kq_74, kq_75, kq_76, kq_77, kq_78, kq_79, kq_80, kq_81, pq_0_0, pq_0_1, pq_0_2, pq_0_3, pq_0_4, pq_0_5, pq_0_6, pq_0_7, pq_1_0, pq_1_1, pq_1_2, pq_1_3, pq_1_4, pq_1_5, pq_1_6, pq_1_7, pq_10_0, pq_10_1, pq_10_2, pq_10_3, pq_15_0, pq_17_0, pq_19_0, pq_21_0, pq_21_1, pq_21_2, pq_21_3, pq_21_4, pq_21_5, pq_28_0, pq_30_0, pq_30_1, pq_30_2, pq_31_0, pq_35_0, pq_35_1, pq_35_2, pq_36_0, pq_40_0, pq_40_1, pq_40_2, pq_41_0, pq_45_0, pq_45_1, pq_45_2, pq_46_0, pq_50_0, pq_52_0, pq_52_1, pq_52_2, pq_52_3, pq_52_4, pq_52_5, pq_52_6, pq_52_8, pq_52_10, pq_52_11, pq_52_14, pq_52_15, pq_52_16, pq_52_17, pq_52_18, pq_52_27, pq_52_29, pq_52_30, pq_52_31, pq_52_32, pq_52_33, pq_52_34, pq_52_35, pq_52_36, pq_52_37, pq_52_38, pq_52_39, pq_52_40, pq_52_41, aq_1, aq_11, aq_12, aq_13, aq_14, aq_16, aq_18, aq_20, aq_22, aq_23, aq_24, aq_25, aq_26, aq_27, aq_29, aq_32, aq_33, aq_34, aq_37, aq_38, aq_39, aq_42, aq_43, aq_44, aq_47, aq_48, aq_49, aq_51, aq_53, aq_54, aq_55, aq_56, aq_57, aq_58, aq_59, aq_60, aq_61, aq_62, aq_63, aq_64, aq_65, aq_66, aq_67, aq_68, aq_69, aq_70, aq_71, aq_72, aq_73, aq_74, aq_75, aq_76, aq_77, aq_78, aq_79, aq_80, aq_81]
      simp only [F_113, i0, c0, k1', y0, s4, dg_1, db_1, db_0, dl_1, dp_1, dv_1, dv_x, di_1, di_x, dw_1, ec_eq, ec_ne, ec_lt, ec_ge, ec_gt, ec_le, hq_z, hq_wz, hq_wc, hq_thr, hq_p29, hq_pw, eq_self, decide_true, decide_false, not_true_eq_false, not_false_eq_true, kq_0, kq_1, kq_2, kq_3, kq_4, kq_5, kq_6, kq_7, kq_8, kq_9, kq_10, kq_11, kq_12, kq_13, kq_14, kq_15, kq_16, kq_17, kq_18, kq_19, kq_20, kq_21, kq_22, kq_23, kq_24, kq_25, kq_26, kq_27, kq_28, kq_29, kq_30, kq_31, kq_32, kq_33, kq_34, kq_35, kq_36, kq_37, kq_38, kq_39, kq_40, kq_41, kq_42, kq_43, kq_44, kq_45, kq_46, kq_47, kq_48, kq_49, kq_50, kq_51, kq_52, kq_53, kq_54, kq_55, kq_56, kq_57, kq_58, kq_59, kq_60, kq_61, kq_62, kq_63, kq_64, kq_65, kq_66, kq_67, kq_68, kq_69, kq_70, kq_71, kq_72, kq_73, kq_74, kq_75, kq_76, kq_77, kq_78, kq_79, kq_80, kq_81, pq_0_0, pq_0_1, pq_0_2, pq_0_3, pq_0_4, pq_0_5, pq_0_6, pq_0_7, pq_1_0, pq_1_1, pq_1_2, pq_1_3, pq_1_4, pq_1_5, pq_1_6, pq_1_7, pq_10_0, pq_10_1, pq_10_2, pq_10_3, pq_15_0, pq_17_0, pq_19_0, pq_21_0, pq_21_1, pq_21_2, pq_21_3, pq_21_4, pq_21_5, pq_28_0, pq_30_0, pq_30_1, pq_30_2, pq_31_0, pq_35_0, pq_35_1, pq_35_2, pq_36_0, pq_40_0, pq_40_1, pq_40_2, pq_41_0, pq_45_0, pq_45_1, pq_45_2, pq_46_0, pq_50_0, pq_52_0, pq_52_1, pq_52_2, pq_52_3, pq_52_4, pq_52_5, pq_52_6, pq_52_8, pq_52_10, pq_52_11, pq_52_14, pq_52_15, pq_52_16, pq_52_17, pq_52_18, pq_52_27, pq_52_29, pq_52_30, pq_52_31, pq_52_32, pq_52_33, pq_52_34, pq_52_35, pq_52_36, pq_52_37, pq_52_38, pq_52_39, pq_52_40, pq_52_41, aq_1, aq_11, aq_12, aq_13, aq_14, aq_16, aq_18, aq_20, aq_22, aq_23, aq_24, aq_25, aq_26, aq_27, aq_29, aq_32, aq_33, aq_34, aq_37, aq_38, aq_39, aq_42, aq_43, aq_44, aq_47, aq_48, aq_49, aq_51, aq_53, aq_54, aq_55, aq_56, aq_57, aq_58, aq_59, aq_60, aq_61, aq_62, aq_63, aq_64, aq_65, aq_66, aq_67, aq_68, aq_69, aq_70, aq_71, aq_72, aq_73, aq_74, aq_75, aq_76, aq_77, aq_78, aq_79, aq_80, aq_81]
    · rw [if_neg h7]
      have h70 : S 15 7 = 0 := ((I2.2 0 hod.1).2.2.2.2.2.1).resolve_right h7
      have k1' : z 75 0 = 0 := m6 h70
      refine ⟨z, ?_, hK, fun _ _ => rfl, rfl, fun _ _ => rfl⟩
      simp only [F_113, i0, c0, k1', show (0 : Int32) ≤ 0 by decide, dg_1, db_1, db_0, dl_1, dp_1, dv_1, dv_x, di_1, di_x, dw_1, ec_eq, ec_ne, ec_lt, ec_ge, ec_gt, ec_le, hq_z, hq_wz, hq_wc, hq_thr, hq_p29, hq_pw, eq_self, decide_true, decide_false, not_true_eq_false, not_false_eq_true, kq_0, kq_1, kq_2, kq_3, kq_4, kq_5, kq_6, kq_7, kq_8, kq_9, kq_10, kq_11, kq_12, kq_13, kq_14, kq_15, kq_16, kq_17, kq_18, kq_19, kq_20, kq_21, kq_22, kq_23, kq_24, kq_25, kq_26, kq_27, kq_28, kq_29, kq_30, kq_31, kq_32, kq_33, kq_34, kq_35, kq_36, kq_37, kq_38, kq_39, kq_40, kq_41, kq_42, kq_43, kq_44, kq_45, kq_46, kq_47, kq_48, kq_49, kq_50, kq_51, kq_52, kq_53, kq_54, kq_55, kq_56, kq_57, kq_58, kq_59, kq_60, kq_61, kq_62, kq_63, kq_64, kq_65, kq_66, kq_67, kq_68, kq_69, kq_70, kq_71, kq_72, kq_73, kq_74, kq_75, kq_76, kq_77, kq_78, kq_79, kq_80, kq_81, pq_0_0, pq_0_1, pq_0_2, pq_0_3, pq_0_4, pq_0_5, pq_0_6, pq_0_7, pq_1_0, pq_1_1, pq_1_2, pq_1_3, pq_1_4, pq_1_5, pq_1_6, pq_1_7, pq_10_0, pq_10_1, pq_10_2, pq_10_3, pq_15_0, pq_17_0, pq_19_0, pq_21_0, pq_21_1, pq_21_2, pq_21_3, pq_21_4, pq_21_5, pq_28_0, pq_30_0, pq_30_1, pq_30_2, pq_31_0, pq_35_0, pq_35_1, pq_35_2, pq_36_0, pq_40_0, pq_40_1, pq_40_2, pq_41_0, pq_45_0, pq_45_1, pq_45_2, pq_46_0, pq_50_0, pq_52_0, pq_52_1, pq_52_2, pq_52_3, pq_52_4, pq_52_5, pq_52_6, pq_52_8, pq_52_10, pq_52_11, pq_52_14, pq_52_15, pq_52_16, pq_52_17, pq_52_18, pq_52_27, pq_52_29, pq_52_30, pq_52_31, pq_52_32, pq_52_33, pq_52_34, pq_52_35, pq_52_36, pq_52_37, pq_52_38, pq_52_39, pq_52_40, pq_52_41, aq_1, aq_11, aq_12, aq_13, aq_14, aq_16, aq_18, aq_20, aq_22, aq_23, aq_24, aq_25, aq_26, aq_27, aq_29, aq_32, aq_33, aq_34, aq_37, aq_38, aq_39, aq_42, aq_43, aq_44, aq_47, aq_48, aq_49, aq_51, aq_53, aq_54, aq_55, aq_56, aq_57, aq_58, aq_59, aq_60, aq_61, aq_62, aq_63, aq_64, aq_65, aq_66, aq_67, aq_68, aq_69, aq_70, aq_71, aq_72, aq_73, aq_74, aq_75, aq_76, aq_77, aq_78, aq_79, aq_80, aq_81]
  obtain ⟨z1, s1, hK1, n1, e60, e9⟩ := hmid
  have hm2 := hm.2 _ rfl
  unfold exS
  generalize (if S 15 7 = 1 then erS S (S 15 8).toNatClampNeg (fq (S 15)) 8 11 1 0 else S) = U at hm2 hK1 ⊢
  obtain ⟨U1, ⟨L1, L2, L3, L4, L5, L6⟩, U3, U4, U5, U6, U7, U8⟩ := hm2
  obtain ⟨N1, N2, N3, N4, N5⟩ := hK1
  have hXU : wX U := wX_of I2 L6 L2
  obtain ⟨z2, k1, k2, k3, k4⟩ := m101 (f := f) (w := w) (c := c) (s := s) (e := 0) N3 hXU (by rw [cn_of L6]; exact hod.1) (by omega)
  have k1' : F_101 f 52 0 (hq z1 w c s) = some (.inl none, hq z2 w c s) := k1
  refine ⟨z2, ?_, ⟨mE_of N1 (rmS_b).1 (fun k hk => (rmS_b).2 k (by omega)) (fun a h1 h2 h3 h4 => k3 a (by omega) (by omega)) (fun k h1 h2 => k4 k (by omega)), dM_of N2 (fun k h1 h2 => rmS_3 (by omega)) (rmS_k (by omega) (by omega)) (fun k h1 h2 => k4 k (by omega)) (k3 68 (by omega) (by omega)), k2, rtM_of N4 (rmS_3 (by omega)) (fun k h1 h2 => rmS_k (by omega) (by omega)) (fun a h1 h2 => k3 a (by omega) (by omega)) (k4 7 (by omega)), by rw [k4 22 (by omega), rmS_3 (by omega)]; exact N5⟩, fun a ha => by rw [k3 a (by omega) (by omega), n1 a ha], by rw [k3 60 (by omega) (by omega), e60], fun k hk => by rw [k4 k (by omega), e9 k hk]⟩
  rw [s1]
  simp only [B_113_94, k1', dg_1, db_1, db_0, dl_1, dp_1, dv_1, dv_x, di_1, di_x, dw_1, ec_eq, ec_ne, ec_lt, ec_ge, ec_gt, ec_le, hq_z, hq_wz, hq_wc, hq_thr, hq_p29, hq_pw, eq_self, decide_true, decide_false, not_true_eq_false, not_false_eq_true, kq_0, kq_1, kq_2, kq_3, kq_4, kq_5, kq_6, kq_7, kq_8, kq_9, kq_10, kq_11, kq_12, kq_13, kq_14, kq_15, kq_16, kq_17, kq_18, kq_19, kq_20, kq_21, kq_22, kq_23, kq_24, kq_25, kq_26, kq_27, kq_28, kq_29, kq_30, kq_31, kq_32, kq_33, kq_34, kq_35, kq_36, kq_37, kq_38, kq_39, kq_40, kq_41, kq_42, kq_43, kq_44, kq_45, kq_46, kq_47, kq_48, kq_49, kq_50, kq_51, kq_52, kq_53, kq_54, kq_55, kq_56, kq_57, kq_58, kq_59, kq_60, kq_61, kq_62, kq_63, kq_64, kq_65, kq_66, kq_67, kq_68, kq_69, kq_70, kq_71, kq_72, kq_73, kq_74, kq_75, kq_76, kq_77, kq_78, kq_79, kq_80, kq_81, pq_0_0, pq_0_1, pq_0_2, pq_0_3, pq_0_4, pq_0_5, pq_0_6, pq_0_7, pq_1_0, pq_1_1, pq_1_2, pq_1_3, pq_1_4, pq_1_5, pq_1_6, pq_1_7, pq_10_0, pq_10_1, pq_10_2, pq_10_3, pq_15_0, pq_17_0, pq_19_0, pq_21_0, pq_21_1, pq_21_2, pq_21_3, pq_21_4, pq_21_5, pq_28_0, pq_30_0, pq_30_1, pq_30_2, pq_31_0, pq_35_0, pq_35_1, pq_35_2, pq_36_0, pq_40_0, pq_40_1, pq_40_2, pq_41_0, pq_45_0, pq_45_1, pq_45_2, pq_46_0, pq_50_0, pq_52_0, pq_52_1, pq_52_2, pq_52_3, pq_52_4, pq_52_5, pq_52_6, pq_52_8, pq_52_10, pq_52_11, pq_52_14, pq_52_15, pq_52_16, pq_52_17, pq_52_18, pq_52_27, pq_52_29, pq_52_30, pq_52_31, pq_52_32, pq_52_33, pq_52_34, pq_52_35, pq_52_36, pq_52_37, pq_52_38, pq_52_39, pq_52_40, pq_52_41, aq_1, aq_11, aq_12, aq_13, aq_14, aq_16, aq_18, aq_20, aq_22, aq_23, aq_24, aq_25, aq_26, aq_27, aq_29, aq_32, aq_33, aq_34, aq_37, aq_38, aq_39, aq_42, aq_43, aq_44, aq_47, aq_48, aq_49, aq_51, aq_53, aq_54, aq_55, aq_56, aq_57, aq_58, aq_59, aq_60, aq_61, aq_62, aq_63, aq_64, aq_65, aq_66, aq_67, aq_68, aq_69, aq_70, aq_71, aq_72, aq_73, aq_74, aq_75, aq_76, aq_77, aq_78, aq_79, aq_80, aq_81]
theorem m114_l {C : Nat → Int32 → Int32 → hp_T → Option ev_O} {l1 l2 : Int32} (hr : r ≤ 3000) (ht : t ≤ 60000) (hf : 30000 < f) : ∀ (g : Nat) (S : St9) (z : Nat → Nat → Int32) (gC : Nat), cn S 10 ≤ g → g < gC → PI S t r → kM S z → ∃ z', B_114_76 f C gC 52 l1 l2 (hq z w c s) = C 52 l1 (l2 + 1) (hq z' w c s) ∧ kM (exF g S t) z' ∧ (∀ a, a < 52 → z' a = z a) ∧ z' 60 = z 60 ∧ ∀ k, k = 9 ∨ k = 42 → z' 52 k = z 52 k := by
  have i0 : ev_in 0 4 = true := by decide
  have c0 : Int32.toNatClampNeg 0 = 0 := rfl
  have stop : ∀ (S : St9) (z : Nat → Nat → Int32) (gC : Nat), ¬ odS S t → PI S t r → kM S z → B_114_76 f C (gC + 1) 52 l1 l2 (hq z w c s) = C 52 l1 (l2 + 1) (hq z w c s) := by
    intro S z gC hod hI hK
    have h28 := hK.2.2.1.2
    have hX := hI.2.1
    by_cases h0 : cn S 10 = 0
    · have h0' : nI (cn S 10) ≤ 0 := by rw [h0]; decide
      simp only [B_114_76, B_114_106, h28, h0', dg_1, db_1, db_0, dl_1, dp_1, dv_1, dv_x, di_1, di_x, dw_1, ec_eq, ec_ne, ec_lt, ec_ge, ec_gt, ec_le, hq_z, hq_wz, hq_wc, hq_thr, hq_p29, hq_pw, eq_self, decide_true, decide_false, not_true_eq_false, not_false_eq_true, kq_0, kq_1, kq_2, kq_3, kq_4, kq_5, kq_6, kq_7, kq_8, kq_9, kq_10, kq_11, kq_12, kq_13, kq_14, kq_15, kq_16, kq_17, kq_18, kq_19, kq_20, kq_21, kq_22, kq_23, kq_24, kq_25, kq_26, kq_27, kq_28, kq_29, kq_30, kq_31, kq_32, kq_33, kq_34, kq_35, kq_36, kq_37, kq_38, kq_39, kq_40, kq_41, kq_42, kq_43, kq_44, kq_45, kq_46, kq_47, kq_48, kq_49, kq_50, kq_51, kq_52, kq_53, kq_54, kq_55, kq_56, kq_57, kq_58, kq_59, kq_60, kq_61, kq_62, kq_63, kq_64, kq_65, kq_66, kq_67, kq_68, kq_69, kq_70, kq_71, kq_72, kq_73, kq_74, kq_75, kq_76, kq_77, kq_78, kq_79, kq_80, kq_81, pq_0_0, pq_0_1, pq_0_2, pq_0_3, pq_0_4, pq_0_5, pq_0_6, pq_0_7, pq_1_0, pq_1_1, pq_1_2, pq_1_3, pq_1_4, pq_1_5, pq_1_6, pq_1_7, pq_10_0, pq_10_1, pq_10_2, pq_10_3, pq_15_0, pq_17_0, pq_19_0, pq_21_0, pq_21_1, pq_21_2, pq_21_3, pq_21_4, pq_21_5, pq_28_0, pq_30_0, pq_30_1, pq_30_2, pq_31_0, pq_35_0, pq_35_1, pq_35_2, pq_36_0, pq_40_0, pq_40_1, pq_40_2, pq_41_0, pq_45_0, pq_45_1, pq_45_2, pq_46_0, pq_50_0, pq_52_0, pq_52_1, pq_52_2, pq_52_3, pq_52_4, pq_52_5, pq_52_6, pq_52_8, pq_52_10, pq_52_11, pq_52_14, pq_52_15, pq_52_16, pq_52_17, pq_52_18, pq_52_27, pq_52_29, pq_52_30, pq_52_31, pq_52_32, pq_52_33, pq_52_34, pq_52_35, pq_52_36, pq_52_37, pq_52_38, pq_52_39, pq_52_40, pq_52_41, aq_1, aq_11, aq_12, aq_13, aq_14, aq_16, aq_18, aq_20, aq_22, aq_23, aq_24, aq_25, aq_26, aq_27, aq_29, aq_32, aq_33, aq_34, aq_37, aq_38, aq_39, aq_42, aq_43, aq_44, aq_47, aq_48, aq_49, aq_51, aq_53, aq_54, aq_55, aq_56, aq_57, aq_58, aq_59, aq_60, aq_61, aq_62, aq_63, aq_64, aq_65, aq_66, aq_67, aq_68, aq_69, aq_70, aq_71, aq_72, aq_73, aq_74, aq_75, aq_76, aq_77, aq_78, aq_79, aq_80, aq_81]
    · have h0' : ¬ nI (cn S 10) ≤ 0 := nI_nle (by omega) (by have := hX.1; omega)
      obtain ⟨x, hx, ex⟩ := (hX.2 0 (by omega)).2.2.1
      have h72 : z 72 0 = nI x := by
        have := (hK.2.2.1.1 0 (by omega)).1.2.2.2.1
        rw [show z 72 0 = S (15 + 0) 4 from this]; exact ex
      have hx4 : (S 15 4).toNatClampNeg = x := by rw [show S 15 4 = nI x from ex, nI_clamp (by omega)]
      have h22 : z 52 22 = nI t := hK.2.2.2.2.trans hI.2.2.2.1
      have hlt : t < x + 30 := by
        apply Classical.byContradiction
        intro h9; exact hod ⟨by omega, by rw [hx4]; omega⟩
      have x30 : nI x + 30 = nI (x + 30) := nI_add x 30
      have h9 : nI t < nI (x + 30) := nI_lt hlt (by omega)
      simp only [B_114_76, B_114_106, h28, h0', i0, c0, h72, x30, h22, h9, dg_1, db_1, db_0, dl_1, dp_1, dv_1, dv_x, di_1, di_x, dw_1, ec_eq, ec_ne, ec_lt, ec_ge, ec_gt, ec_le, hq_z, hq_wz, hq_wc, hq_thr, hq_p29, hq_pw, eq_self, decide_true, decide_false, not_true_eq_false, not_false_eq_true, kq_0, kq_1, kq_2, kq_3, kq_4, kq_5, kq_6, kq_7, kq_8, kq_9, kq_10, kq_11, kq_12, kq_13, kq_14, kq_15, kq_16, kq_17, kq_18, kq_19, kq_20, kq_21, kq_22, kq_23, kq_24, kq_25, kq_26, kq_27, kq_28, kq_29, kq_30, kq_31, kq_32, kq_33, kq_34, kq_35, kq_36, kq_37, kq_38, kq_39, kq_40, kq_41, kq_42, kq_43, kq_44, kq_45, kq_46, kq_47, kq_48, kq_49, kq_50, kq_51, kq_52, kq_53, kq_54, kq_55, kq_56, kq_57, kq_58, kq_59, kq_60, kq_61, kq_62, kq_63, kq_64, kq_65, kq_66, kq_67, kq_68, kq_69, kq_70, kq_71, kq_72, kq_73, kq_74, kq_75, kq_76, kq_77, kq_78, kq_79, kq_80, kq_81, pq_0_0, pq_0_1, pq_0_2, pq_0_3, pq_0_4, pq_0_5, pq_0_6, pq_0_7, pq_1_0, pq_1_1, pq_1_2, pq_1_3, pq_1_4, pq_1_5, pq_1_6, pq_1_7, pq_10_0, pq_10_1, pq_10_2, pq_10_3, pq_15_0, pq_17_0, pq_19_0, pq_21_0, pq_21_1, pq_21_2, pq_21_3, pq_21_4, pq_21_5, pq_28_0, pq_30_0, pq_30_1, pq_30_2, pq_31_0, pq_35_0, pq_35_1, pq_35_2, pq_36_0, pq_40_0, pq_40_1, pq_40_2, pq_41_0, pq_45_0, pq_45_1, pq_45_2, pq_46_0, pq_50_0, pq_52_0, pq_52_1, pq_52_2, pq_52_3, pq_52_4, pq_52_5, pq_52_6, pq_52_8, pq_52_10, pq_52_11, pq_52_14, pq_52_15, pq_52_16, pq_52_17, pq_52_18, pq_52_27, pq_52_29, pq_52_30, pq_52_31, pq_52_32, pq_52_33, pq_52_34, pq_52_35, pq_52_36, pq_52_37, pq_52_38, pq_52_39, pq_52_40, pq_52_41, aq_1, aq_11, aq_12, aq_13, aq_14, aq_16, aq_18, aq_20, aq_22, aq_23, aq_24, aq_25, aq_26, aq_27, aq_29, aq_32, aq_33, aq_34, aq_37, aq_38, aq_39, aq_42, aq_43, aq_44, aq_47, aq_48, aq_49, aq_51, aq_53, aq_54, aq_55, aq_56, aq_57, aq_58, aq_59, aq_60, aq_61, aq_62, aq_63, aq_64, aq_65, aq_66, aq_67, aq_68, aq_69, aq_70, aq_71, aq_72, aq_73, aq_74, aq_75, aq_76, aq_77, aq_78, aq_79, aq_80, aq_81]
  intro g
  induction g with
  | zero =>
    intro S z gC h1 h3 hI hK
    obtain ⟨gC, rfl⟩ : ∃ g', gC = g' + 1 := ⟨gC - 1, by omega⟩
    exact ⟨z, stop S z gC (fun h => by have := h.1; omega) hI hK, hK, fun _ _ => rfl, rfl, fun _ _ => rfl⟩
  | succ g ih =>
    intro S z gC h1 h3 hI hK
    obtain ⟨gC, rfl⟩ : ∃ g', gC = g' + 1 := ⟨gC - 1, by omega⟩
    unfold exF
    by_cases hod : odS S t
    case neg =>
      rw [if_neg hod]
      exact ⟨z, stop S z gC hod hI hK, hK, fun _ _ => rfl, rfl, fun _ _ => rfl⟩
    rw [if_pos hod]
    obtain ⟨z1, s1, hK1, n1, e60, e9⟩ := m_ex (f := f) (w := w) (c := c) (s := s) hK hI hr hod hf
    obtain ⟨hI1, -, hc1⟩ := ex_PI hI hr hod.1
    obtain ⟨z2, k1, k2, k3, k4, k5⟩ := ih (exS S) z1 gC (by omega) (by omega) hI1 hK1
    have h28 := hK.2.2.1.2
    have hX := hI.2.1
    have h0' : ¬ nI (cn S 10) ≤ 0 := nI_nle hod.1 (by have := hX.1; omega)
    obtain ⟨x, hx, ex⟩ := (hX.2 0 hod.1).2.2.1
    have h72 : z 72 0 = nI x := by
      have := (hK.2.2.1.1 0 hod.1).1.2.2.2.1
      rw [show z 72 0 = S (15 + 0) 4 from this]; exact ex
    have hx4 : (S 15 4).toNatClampNeg = x := by rw [show S 15 4 = nI x from ex, nI_clamp (by omega)]
    have h22 : z 52 22 = nI t := hK.2.2.2.2.trans hI.2.2.2.1
    have hle : x + 30 ≤ t := by have := hod.2; rw [hx4] at this; exact this
    have x30 : nI x + 30 = nI (x + 30) := nI_add x 30
    have h9 : ¬ nI t < nI (x + 30) := nI_nlt hle (by omega)
    refine ⟨z2, ?_, k2, fun a ha => by rw [k3 a ha, n1 a ha], by rw [k4, e60], fun k hk => by rw [k5 k hk, e9 k hk]⟩
    rw [← k1]
    simp only [B_114_76, h28, h0', i0, c0, h72, x30, h22, h9, s1, dg_1, db_1, db_0, dl_1, dp_1, dv_1, dv_x, di_1, di_x, dw_1, ec_eq, ec_ne, ec_lt, ec_ge, ec_gt, ec_le, hq_z, hq_wz, hq_wc, hq_thr, hq_p29, hq_pw, eq_self, decide_true, decide_false, not_true_eq_false, not_false_eq_true, kq_0, kq_1, kq_2, kq_3, kq_4, kq_5, kq_6, kq_7, kq_8, kq_9, kq_10, kq_11, kq_12, kq_13, kq_14, kq_15, kq_16, kq_17, kq_18, kq_19, kq_20, kq_21, kq_22, kq_23, kq_24, kq_25, kq_26, kq_27, kq_28, kq_29, kq_30, kq_31, kq_32, kq_33, kq_34, kq_35, kq_36, kq_37, kq_38, kq_39, kq_40, kq_41, kq_42, kq_43, kq_44, kq_45, kq_46, kq_47, kq_48, kq_49, kq_50, kq_51, kq_52, kq_53, kq_54, kq_55, kq_56, kq_57, kq_58, kq_59, kq_60, kq_61, kq_62, kq_63, kq_64, kq_65, kq_66, kq_67, kq_68, kq_69, kq_70, kq_71, kq_72, kq_73, kq_74, kq_75, kq_76, kq_77, kq_78, kq_79, kq_80, kq_81, pq_0_0, pq_0_1, pq_0_2, pq_0_3, pq_0_4, pq_0_5, pq_0_6, pq_0_7, pq_1_0, pq_1_1, pq_1_2, pq_1_3, pq_1_4, pq_1_5, pq_1_6, pq_1_7, pq_10_0, pq_10_1, pq_10_2, pq_10_3, pq_15_0, pq_17_0, pq_19_0, pq_21_0, pq_21_1, pq_21_2, pq_21_3, pq_21_4, pq_21_5, pq_28_0, pq_30_0, pq_30_1, pq_30_2, pq_31_0, pq_35_0, pq_35_1, pq_35_2, pq_36_0, pq_40_0, pq_40_1, pq_40_2, pq_41_0, pq_45_0, pq_45_1, pq_45_2, pq_46_0, pq_50_0, pq_52_0, pq_52_1, pq_52_2, pq_52_3, pq_52_4, pq_52_5, pq_52_6, pq_52_8, pq_52_10, pq_52_11, pq_52_14, pq_52_15, pq_52_16, pq_52_17, pq_52_18, pq_52_27, pq_52_29, pq_52_30, pq_52_31, pq_52_32, pq_52_33, pq_52_34, pq_52_35, pq_52_36, pq_52_37, pq_52_38, pq_52_39, pq_52_40, pq_52_41, aq_1, aq_11, aq_12, aq_13, aq_14, aq_16, aq_18, aq_20, aq_22, aq_23, aq_24, aq_25, aq_26, aq_27, aq_29, aq_32, aq_33, aq_34, aq_37, aq_38, aq_39, aq_42, aq_43, aq_44, aq_47, aq_48, aq_49, aq_51, aq_53, aq_54, aq_55, aq_56, aq_57, aq_58, aq_59, aq_60, aq_61, aq_62, aq_63, aq_64, aq_65, aq_66, aq_67, aq_68, aq_69, aq_70, aq_71, aq_72, aq_73, aq_74, aq_75, aq_76, aq_77, aq_78, aq_79, aq_80, aq_81]
theorem m114_p {n : Nat} (hn : n ≤ 100) (hr : r ≤ 3000) (hf : 30000 < f) : ∀ (q k g : Nat) (S : St9) (t : Nat) (z : Nat → Nat → Int32), k + q = n → q < g → t + q ≤ 60000 → PI S t r → kM S z → ∃ z', B_114_32 f g 52 (nI n) (nI k) (hq z w c s) = some (.inl (some (.int (psF q S t 3 2))), hq z' w c s) ∧ kM (psF q S t) z' ∧ (∀ a, a < 52 → z' a = z a) ∧ z' 60 = z 60 ∧ ∀ k, k = 9 ∨ k = 42 → z' 52 k = z 52 k := by
  intro q
  induction q with
  | zero =>
    intro k g S t z h1 h2 h3 hI hK
    obtain ⟨g, rfl⟩ : ∃ g', g = g' + 1 := ⟨g - 1, by omega⟩
    have e1 : nI n ≤ nI k := nI_le (by omega) (by omega)
    refine ⟨z, ?_, hK, fun _ _ => rfl, rfl, fun _ _ => rfl⟩
    have h19 := hK.1.2.2.2.1
    simp only [B_114_32, e1, h19, psF, dg_1, db_1, db_0, dl_1, dp_1, dv_1, dv_x, di_1, di_x, dw_1, ec_eq, ec_ne, ec_lt, ec_ge, ec_gt, ec_le, hq_z, hq_wz, hq_wc, hq_thr, hq_p29, hq_pw, eq_self, decide_true, decide_false, not_true_eq_false, not_false_eq_true, kq_0, kq_1, kq_2, kq_3, kq_4, kq_5, kq_6, kq_7, kq_8, kq_9, kq_10, kq_11, kq_12, kq_13, kq_14, kq_15, kq_16, kq_17, kq_18, kq_19, kq_20, kq_21, kq_22, kq_23, kq_24, kq_25, kq_26, kq_27, kq_28, kq_29, kq_30, kq_31, kq_32, kq_33, kq_34, kq_35, kq_36, kq_37, kq_38, kq_39, kq_40, kq_41, kq_42, kq_43, kq_44, kq_45, kq_46, kq_47, kq_48, kq_49, kq_50, kq_51, kq_52, kq_53, kq_54, kq_55, kq_56, kq_57, kq_58, kq_59, kq_60, kq_61, kq_62, kq_63, kq_64, kq_65, kq_66, kq_67, kq_68, kq_69, kq_70, kq_71, kq_72, kq_73, kq_74, kq_75, kq_76, kq_77, kq_78, kq_79, kq_80, kq_81, pq_0_0, pq_0_1, pq_0_2, pq_0_3, pq_0_4, pq_0_5, pq_0_6, pq_0_7, pq_1_0, pq_1_1, pq_1_2, pq_1_3, pq_1_4, pq_1_5, pq_1_6, pq_1_7, pq_10_0, pq_10_1, pq_10_2, pq_10_3, pq_15_0, pq_17_0, pq_19_0, pq_21_0, pq_21_1, pq_21_2, pq_21_3, pq_21_4, pq_21_5, pq_28_0, pq_30_0, pq_30_1, pq_30_2, pq_31_0, pq_35_0, pq_35_1, pq_35_2, pq_36_0, pq_40_0, pq_40_1, pq_40_2, pq_41_0, pq_45_0, pq_45_1, pq_45_2, pq_46_0, pq_50_0, pq_52_0, pq_52_1, pq_52_2, pq_52_3, pq_52_4, pq_52_5, pq_52_6, pq_52_8, pq_52_10, pq_52_11, pq_52_14, pq_52_15, pq_52_16, pq_52_17, pq_52_18, pq_52_27, pq_52_29, pq_52_30, pq_52_31, pq_52_32, pq_52_33, pq_52_34, pq_52_35, pq_52_36, pq_52_37, pq_52_38, pq_52_39, pq_52_40, pq_52_41, aq_1, aq_11, aq_12, aq_13, aq_14, aq_16, aq_18, aq_20, aq_22, aq_23, aq_24, aq_25, aq_26, aq_27, aq_29, aq_32, aq_33, aq_34, aq_37, aq_38, aq_39, aq_42, aq_43, aq_44, aq_47, aq_48, aq_49, aq_51, aq_53, aq_54, aq_55, aq_56, aq_57, aq_58, aq_59, aq_60, aq_61, aq_62, aq_63, aq_64, aq_65, aq_66, aq_67, aq_68, aq_69, aq_70, aq_71, aq_72, aq_73, aq_74, aq_75, aq_76, aq_77, aq_78, aq_79, aq_80, aq_81]
  | succ q ih =>
    intro k g S t z h1 h2 h3 hI hK
    obtain ⟨g, rfl⟩ : ∃ g', g = g' + 1 := ⟨g - 1, by omega⟩
    have e1 : ¬ nI n ≤ nI k := nI_ge (by omega) (by omega)
    obtain ⟨K1, K2, K3, K4, K5⟩ := id hK
    obtain ⟨E1, E2, E3, E4⟩ := id K1
    have hA := hI.1.2.1
    have h22 : z 52 22 = nI t := K5.trans hI.2.2.2.1
    have h20 : z 52 20 = nI (cn S 3) := E2.trans hA.1
    have w3 := hA.2
    obtain ⟨z1, ez1⟩ : ∃ x, x = va_up z 52 (upd (z 52) 22 (nI (t + 1))) := ⟨_, rfl⟩
    have g22 : z1 52 22 = nI (t + 1) := by rw [ez1, va_up_self, pk_us]
    have g20 : z1 52 20 = nI (cn S 3) := by rw [ez1, va_up_self, pk_un (by omega)]; exact h20
    obtain ⟨z2, ez2⟩ : ∃ x, x = if (t + 1) % 10 = 0 ∧ cn S 3 < 6 then va_up z1 52 (upd (z1 52) 20 (nI (cn S 3 + 1))) else z1 := ⟨_, rfl⟩
    have rm10 := nI_rem10 (a := t + 1) (by omega)
    have s1 : B_114_32 f (g + 1) 52 (nI n) (nI k) (hq z w c s) = B_114_76 f (B_114_32 f g) f 52 (nI n) (nI k) (hq z2 w c s) := by
      by_cases h : (t + 1) % 10 = 0
      · rw [h, nI_0] at rm10
        by_cases h6 : cn S 3 < 6
        · rw [if_pos ⟨h, h6⟩] at ez2
          have h6' : ¬ (6 : Int32) ≤ nI (cn S 3) := nI_ge (b := 6) h6 (by omega)
          simp only [B_114_32, e1, h22, nI_1, ← ez1, g22, rm10, g20, h6', ← ez2, dg_1, db_1, db_0, dl_1, dp_1, dv_1, dv_x, di_1, di_x, dw_1, ec_eq, ec_ne, ec_lt, ec_ge, ec_gt, ec_le, hq_z, hq_wz, hq_wc, hq_thr, hq_p29, hq_pw, eq_self, decide_true, decide_false, not_true_eq_false, not_false_eq_true, kq_0, kq_1, kq_2, kq_3, kq_4, kq_5, kq_6, kq_7, kq_8, kq_9, kq_10, kq_11, kq_12, kq_13, kq_14, kq_15, kq_16, kq_17, kq_18, kq_19, kq_20, kq_21, kq_22, kq_23, kq_24, kq_25, kq_26, kq_27, kq_28, kq_29, kq_30, kq_31, kq_32, kq_33, kq_34, kq_35, kq_36, kq_37, kq_38, kq_39, kq_40, kq_41, kq_42, kq_43, kq_44, kq_45, kq_46, kq_47, kq_48, kq_49, kq_50, kq_51, kq_52, kq_53, kq_54, kq_55, kq_56, kq_57, kq_58, kq_59, kq_60, kq_61, kq_62, kq_63, kq_64, kq_65, kq_66, kq_67, kq_68, kq_69, kq_70, kq_71, kq_72, kq_73, kq_74, kq_75, kq_76, kq_77, kq_78, kq_79, kq_80, kq_81, pq_0_0, pq_0_1, pq_0_2, pq_0_3, pq_0_4, pq_0_5, pq_0_6, pq_0_7, pq_1_0, pq_1_1, pq_1_2, pq_1_3, pq_1_4, pq_1_5, pq_1_6, pq_1_7, pq_10_0, pq_10_1, pq_10_2, pq_10_3, pq_15_0, pq_17_0, pq_19_0, pq_21_0, pq_21_1, pq_21_2, pq_21_3, pq_21_4, pq_21_5, pq_28_0, pq_30_0, pq_30_1, pq_30_2, pq_31_0, pq_35_0, pq_35_1, pq_35_2, pq_36_0, pq_40_0, pq_40_1, pq_40_2, pq_41_0, pq_45_0, pq_45_1, pq_45_2, pq_46_0, pq_50_0, pq_52_0, pq_52_1, pq_52_2, pq_52_3, pq_52_4, pq_52_5, pq_52_6, pq_52_8, pq_52_10, pq_52_11, pq_52_14, pq_52_15, pq_52_16, pq_52_17, pq_52_18, pq_52_27, pq_52_29, pq_52_30, pq_52_31, pq_52_32, pq_52_33, pq_52_34, pq_52_35, pq_52_36, pq_52_37, pq_52_38, pq_52_39, pq_52_40, pq_52_41, aq_1, aq_11, aq_12, aq_13, aq_14, aq_16, aq_18, aq_20, aq_22, aq_23, aq_24, aq_25, aq_26, aq_27, aq_29, aq_32, aq_33, aq_34, aq_37, aq_38, aq_39, aq_42, aq_43, aq_44, aq_47, aq_48, aq_49, aq_51, aq_53, aq_54, aq_55, aq_56, aq_57, aq_58, aq_59, aq_60, aq_61, aq_62, aq_63, aq_64, aq_65, aq_66, aq_67, aq_68, aq_69, aq_70, aq_71, aq_72, aq_73, aq_74, aq_75, aq_76, aq_77, aq_78, aq_79, aq_80, aq_81]
        · rw [if_neg (fun h9 => h6 h9.2)] at ez2
          have h6' : (6 : Int32) ≤ nI (cn S 3) := nI_le (a := 6) (by omega) (by omega)
          rw [ez2]
          simp only [B_114_32, e1, h22, nI_1, ← ez1, g22, rm10, g20, h6', dg_1, db_1, db_0, dl_1, dp_1, dv_1, dv_x, di_1, di_x, dw_1, ec_eq, ec_ne, ec_lt, ec_ge, ec_gt, ec_le, hq_z, hq_wz, hq_wc, hq_thr, hq_p29, hq_pw, eq_self, decide_true, decide_false, not_true_eq_false, not_false_eq_true, kq_0, kq_1, kq_2, kq_3, kq_4, kq_5, kq_6, kq_7, kq_8, kq_9, kq_10, kq_11, kq_12, kq_13, kq_14, kq_15, kq_16, kq_17, kq_18, kq_19, kq_20, kq_21, kq_22, kq_23, kq_24, kq_25, kq_26, kq_27, kq_28, kq_29, kq_30, kq_31, kq_32, kq_33, kq_34, kq_35, kq_36, kq_37, kq_38, kq_39, kq_40, kq_41, kq_42, kq_43, kq_44, kq_45, kq_46, kq_47, kq_48, kq_49, kq_50, kq_51, kq_52, kq_53, kq_54, kq_55, kq_56, kq_57, kq_58, kq_59, kq_60, kq_61, kq_62, kq_63, kq_64, kq_65, kq_66, kq_67, kq_68, kq_69, kq_70, kq_71, kq_72, kq_73, kq_74, kq_75, kq_76, kq_77, kq_78, kq_79, kq_80, kq_81, pq_0_0, pq_0_1, pq_0_2, pq_0_3, pq_0_4, pq_0_5, pq_0_6, pq_0_7, pq_1_0, pq_1_1, pq_1_2, pq_1_3, pq_1_4, pq_1_5, pq_1_6, pq_1_7, pq_10_0, pq_10_1, pq_10_2, pq_10_3, pq_15_0, pq_17_0, pq_19_0, pq_21_0, pq_21_1, pq_21_2, pq_21_3, pq_21_4, pq_21_5, pq_28_0, pq_30_0, pq_30_1, pq_30_2, pq_31_0, pq_35_0, pq_35_1, pq_35_2, pq_36_0, pq_40_0, pq_40_1, pq_40_2, pq_41_0, pq_45_0, pq_45_1, pq_45_2, pq_46_0, pq_50_0, pq_52_0, pq_52_1, pq_52_2, pq_52_3, pq_52_4, pq_52_5, pq_52_6, pq_52_8, pq_52_10, pq_52_11, pq_52_14, pq_52_15, pq_52_16, pq_52_17, pq_52_18, pq_52_27, pq_52_29, pq_52_30, pq_52_31, pq_52_32, pq_52_33, pq_52_34, pq_52_35, pq_52_36, pq_52_37, pq_52_38, pq_52_39, pq_52_40, pq_52_41, aq_1, aq_11, aq_12, aq_13, aq_14, aq_16, aq_18, aq_20, aq_22, aq_23, aq_24, aq_25, aq_26, aq_27, aq_29, aq_32, aq_33, aq_34, aq_37, aq_38, aq_39, aq_42, aq_43, aq_44, aq_47, aq_48, aq_49, aq_51, aq_53, aq_54, aq_55, aq_56, aq_57, aq_58, aq_59, aq_60, aq_61, aq_62, aq_63, aq_64, aq_65, aq_66, aq_67, aq_68, aq_69, aq_70, aq_71, aq_72, aq_73, aq_74, aq_75, aq_76, aq_77, aq_78, aq_79, aq_80, aq_81]
      · rw [if_neg (fun h9 => h h9.1)] at ez2
        have hne : ¬ nI ((t + 1) % 10) = 0 := nI_ne0 (by omega) (by omega)
        rw [ez2]
        simp only [B_114_32, e1, h22, nI_1, ← ez1, g22, rm10, hne, dg_1, db_1, db_0, dl_1, dp_1, dv_1, dv_x, di_1, di_x, dw_1, ec_eq, ec_ne, ec_lt, ec_ge, ec_gt, ec_le, hq_z, hq_wz, hq_wc, hq_thr, hq_p29, hq_pw, eq_self, decide_true, decide_false, not_true_eq_false, not_false_eq_true, kq_0, kq_1, kq_2, kq_3, kq_4, kq_5, kq_6, kq_7, kq_8, kq_9, kq_10, kq_11, kq_12, kq_13, kq_14, kq_15, kq_16, kq_17, kq_18, kq_19, kq_20, kq_21, kq_22, kq_23, kq_24, kq_25, kq_26, kq_27, kq_28, kq_29, kq_30, kq_31, kq_32, kq_33, kq_34, kq_35, kq_36, kq_37, kq_38, kq_39, kq_40, kq_41, kq_42, kq_43, kq_44, kq_45, kq_46, kq_47, kq_48, kq_49, kq_50, kq_51, kq_52, kq_53, kq_54, kq_55, kq_56, kq_57, kq_58, kq_59, kq_60, kq_61, kq_62, kq_63, kq_64, kq_65, kq_66, kq_67, kq_68, kq_69, kq_70, kq_71, kq_72, kq_73, kq_74, kq_75, kq_76, kq_77, kq_78, kq_79, kq_80, kq_81, pq_0_0, pq_0_1, pq_0_2, pq_0_3, pq_0_4, pq_0_5, pq_0_6, pq_0_7, pq_1_0, pq_1_1, pq_1_2, pq_1_3, pq_1_4, pq_1_5, pq_1_6, pq_1_7, pq_10_0, pq_10_1, pq_10_2, pq_10_3, pq_15_0, pq_17_0, pq_19_0, pq_21_0, pq_21_1, pq_21_2, pq_21_3, pq_21_4, pq_21_5, pq_28_0, pq_30_0, pq_30_1, pq_30_2, pq_31_0, pq_35_0, pq_35_1, pq_35_2, pq_36_0, pq_40_0, pq_40_1, pq_40_2, pq_41_0, pq_45_0, pq_45_1, pq_45_2, pq_46_0, pq_50_0, pq_52_0, pq_52_1, pq_52_2, pq_52_3, pq_52_4, pq_52_5, pq_52_6, pq_52_8, pq_52_10, pq_52_11, pq_52_14, pq_52_15, pq_52_16, pq_52_17, pq_52_18, pq_52_27, pq_52_29, pq_52_30, pq_52_31, pq_52_32, pq_52_33, pq_52_34, pq_52_35, pq_52_36, pq_52_37, pq_52_38, pq_52_39, pq_52_40, pq_52_41, aq_1, aq_11, aq_12, aq_13, aq_14, aq_16, aq_18, aq_20, aq_22, aq_23, aq_24, aq_25, aq_26, aq_27, aq_29, aq_32, aq_33, aq_34, aq_37, aq_38, aq_39, aq_42, aq_43, aq_44, aq_47, aq_48, aq_49, aq_51, aq_53, aq_54, aq_55, aq_56, aq_57, aq_58, aq_59, aq_60, aq_61, aq_62, aq_63, aq_64, aq_65, aq_66, aq_67, aq_68, aq_69, aq_70, aq_71, aq_72, aq_73, aq_74, aq_75, aq_76, aq_77, aq_78, aq_79, aq_80, aq_81]
    have n2' : ∀ a, a ≠ 52 → z2 a = z a := fun a ha => by
      rw [ez2]; split
      · rw [va_up_ne _ _ ha, ez1, va_up_ne _ _ ha]
      · rw [ez1, va_up_ne _ _ ha]
    have m2 : ∀ k, k ≠ 20 → k ≠ 22 → z2 52 k = z 52 k := fun k h8 h10 => by
      rw [ez2]; split
      · rw [va_up_self, pk_un h8, ez1, va_up_self, pk_un h10]
      · rw [ez1, va_up_self, pk_un h10]
    have q22 : z2 52 22 = nI (t + 1) := by
      rw [ez2]; split
      · rw [va_up_self, pk_un (by omega)]; exact g22
      · exact g22
    have q20 : z2 52 20 = tmS S t 3 3 := by
      rw [tm_33, ez2]; split
      · rw [va_up_self, pk_us]
      · rw [g20]; exact hA.1.symm
    have hK2 : kM (tmS S t) z2 := by
      refine ⟨⟨fun i hi => ?_, q20, ?_, ?_⟩, dM_of K2 (fun k h1 h2 => tm_3 (by omega) (by omega)) (tm_k (by omega)) (fun k h1 h2 => m2 k (by omega) (by omega)) (n2' 68 (by omega)), wM_of K3 (tm_3 (by omega) (by omega)) (fun k hk => tm_k (by omega)) (fun a h1 h2 => n2' a (by omega)) (m2 28 (by omega) (by omega)), rtM_of K4 (tm_3 (by omega) (by omega)) (fun k h1 h2 => tm_k (by omega)) (fun a h1 h2 => n2' a (by omega)) (m2 7 (by omega) (by omega)), by rw [q22, tm_5]⟩
      · rw [n2' 53 (by omega), n2' 54 (by omega), n2' 55 (by omega), tm_k (by omega), tm_k (by omega), tm_k (by omega)]; exact E1 i hi
      · rw [m2 21 (by omega) (by omega), tm_3 (by omega) (by omega)]; exact E3
      · exact OM_S E4 (tm_3 (by omega) (by omega)) (tm_3 (by omega) (by omega)) (fun k h1 h2 => tm_k (by omega)) (fun a h1 h2 => n2' a (by omega)) (m2 19 (by omega) (by omega))
    have hI2 := (tm_PI hI).1
    obtain ⟨z3, k1, k2, k3, k4, k5⟩ := m114_l (f := f) (w := w) (c := c) (s := s) (t := t + 1) (C := B_114_32 f g) (l1 := nI n) (l2 := nI k) hr (by omega) hf 4 (tmS S t) z2 f (by have := hI2.2.1.1; omega) (by omega) hI2 hK2
    have hI3 := (exF_PI hr 4 (tmS S t) hI2).1
    obtain ⟨z4, j1, j2, j3, j4, j5⟩ := ih (k + 1) g (exF 4 (tmS S t) (t + 1)) (t + 1) z3 (by omega) (by omega) (by omega) hI3 k2
    refine ⟨z4, ?_, j2, fun a ha => by rw [j3 a ha, k3 a ha, n2' a (by omega)], by rw [j4, k4, n2' 60 (by omega)], fun k hk => by rw [j5 k hk, k5 k hk, m2 k (by omega) (by omega)]⟩
    rw [s1, k1, nI_1]; exact j1
theorem n57_p {n : Nat} (hn : n ≤ 100) (hr : r ≤ 3000) (hf : 30000 < f) : ∀ (q k g : Nat) (S : St9) (t : Nat) (z : Nat → Nat → Int32) (w : Nat → Option Nat), k + q = n → q < g → t + q ≤ 60000 → PI S t r → kC S z w → ∃ z' w', B_57_29 f g 0 (nI n) (nI k) (hq z w c s) = some (.inl (some (.int (psF q S t 3 2))), hq z' w' c s) ∧ kC (psF q S t) z' w' ∧ (∀ a, 51 < a → z' a = z a) ∧ z' 15 = z 15 ∧ z' 16 = z 16 := by
  intro q
  induction q with
  | zero =>
    intro k g S t z w h1 h2 h3 hI hK
    obtain ⟨g, rfl⟩ : ∃ g', g = g' + 1 := ⟨g - 1, by omega⟩
    have e1 : nI n ≤ nI k := nI_le (by omega) (by omega)
    refine ⟨z, w, ?_, hK, fun _ _ => rfl, rfl, rfl⟩
    have h6 := hK.1.2.2.2.1.1
    simp only [B_57_29, e1, h6, psF, dg_1, db_1, db_0, dl_1, dp_1, dv_1, dv_x, di_1, di_x, dw_1, ec_eq, ec_ne, ec_lt, ec_ge, ec_gt, ec_le, hq_z, hq_wz, hq_wc, hq_thr, hq_p29, hq_pw, eq_self, decide_true, decide_false, not_true_eq_false, not_false_eq_true, kq_0, kq_1, kq_2, kq_3, kq_4, kq_5, kq_6, kq_7, kq_8, kq_9, kq_10, kq_11, kq_12, kq_13, kq_14, kq_15, kq_16, kq_17, kq_18, kq_19, kq_20, kq_21, kq_22, kq_23, kq_24, kq_25, kq_26, kq_27, kq_28, kq_29, kq_30, kq_31, kq_32, kq_33, kq_34, kq_35, kq_36, kq_37, kq_38, kq_39, kq_40, kq_41, kq_42, kq_43, kq_44, kq_45, kq_46, kq_47, kq_48, kq_49, kq_50, kq_51, kq_52, kq_53, kq_54, kq_55, kq_56, kq_57, kq_58, kq_59, kq_60, kq_61, kq_62, kq_63, kq_64, kq_65, kq_66, kq_67, kq_68, kq_69, kq_70, kq_71, kq_72, kq_73, kq_74, kq_75, kq_76, kq_77, kq_78, kq_79, kq_80, kq_81, pq_0_0, pq_0_1, pq_0_2, pq_0_3, pq_0_4, pq_0_5, pq_0_6, pq_0_7, pq_1_0, pq_1_1, pq_1_2, pq_1_3, pq_1_4, pq_1_5, pq_1_6, pq_1_7, pq_10_0, pq_10_1, pq_10_2, pq_10_3, pq_15_0, pq_17_0, pq_19_0, pq_21_0, pq_21_1, pq_21_2, pq_21_3, pq_21_4, pq_21_5, pq_28_0, pq_30_0, pq_30_1, pq_30_2, pq_31_0, pq_35_0, pq_35_1, pq_35_2, pq_36_0, pq_40_0, pq_40_1, pq_40_2, pq_41_0, pq_45_0, pq_45_1, pq_45_2, pq_46_0, pq_50_0, pq_52_0, pq_52_1, pq_52_2, pq_52_3, pq_52_4, pq_52_5, pq_52_6, pq_52_8, pq_52_10, pq_52_11, pq_52_14, pq_52_15, pq_52_16, pq_52_17, pq_52_18, pq_52_27, pq_52_29, pq_52_30, pq_52_31, pq_52_32, pq_52_33, pq_52_34, pq_52_35, pq_52_36, pq_52_37, pq_52_38, pq_52_39, pq_52_40, pq_52_41, aq_1, aq_11, aq_12, aq_13, aq_14, aq_16, aq_18, aq_20, aq_22, aq_23, aq_24, aq_25, aq_26, aq_27, aq_29, aq_32, aq_33, aq_34, aq_37, aq_38, aq_39, aq_42, aq_43, aq_44, aq_47, aq_48, aq_49, aq_51, aq_53, aq_54, aq_55, aq_56, aq_57, aq_58, aq_59, aq_60, aq_61, aq_62, aq_63, aq_64, aq_65, aq_66, aq_67, aq_68, aq_69, aq_70, aq_71, aq_72, aq_73, aq_74, aq_75, aq_76, aq_77, aq_78, aq_79, aq_80, aq_81]
  | succ q ih =>
    intro k g S t z w h1 h2 h3 hI hK
    obtain ⟨g, rfl⟩ : ∃ g', g = g' + 1 := ⟨g - 1, by omega⟩
    have e1 : ¬ nI n ≤ nI k := nI_ge (by omega) (by omega)
    obtain ⟨z1, w1, s1, hK1, n1, e15, e16⟩ := n72 (f := f) (c := c) (s := s) (t := t) hK hI hr (by omega) hf
    have hI2 := (tm_PI hI).1
    have hI3 := (exF_PI hr 4 (tmS S t) hI2).1
    obtain ⟨z4, w4', j1, j2, j3, j4, j5⟩ := ih (k + 1) g (exF 4 (tmS S t) (t + 1)) (t + 1) z1 w1 (by omega) (by omega) (by omega) hI3 hK1
    refine ⟨z4, w4', ?_, j2, fun a ha => by rw [j3 a ha, n1 a ha], by rw [j4, e15], by rw [j5, e16]⟩
    simp only [B_57_29, e1, s1, nI_1, dg_1, db_1, db_0, dl_1, dp_1, dv_1, dv_x, di_1, di_x, dw_1, ec_eq, ec_ne, ec_lt, ec_ge, ec_gt, ec_le, hq_z, hq_wz, hq_wc, hq_thr, hq_p29, hq_pw, eq_self, decide_true, decide_false, not_true_eq_false, not_false_eq_true, kq_0, kq_1, kq_2, kq_3, kq_4, kq_5, kq_6, kq_7, kq_8, kq_9, kq_10, kq_11, kq_12, kq_13, kq_14, kq_15, kq_16, kq_17, kq_18, kq_19, kq_20, kq_21, kq_22, kq_23, kq_24, kq_25, kq_26, kq_27, kq_28, kq_29, kq_30, kq_31, kq_32, kq_33, kq_34, kq_35, kq_36, kq_37, kq_38, kq_39, kq_40, kq_41, kq_42, kq_43, kq_44, kq_45, kq_46, kq_47, kq_48, kq_49, kq_50, kq_51, kq_52, kq_53, kq_54, kq_55, kq_56, kq_57, kq_58, kq_59, kq_60, kq_61, kq_62, kq_63, kq_64, kq_65, kq_66, kq_67, kq_68, kq_69, kq_70, kq_71, kq_72, kq_73, kq_74, kq_75, kq_76, kq_77, kq_78, kq_79, kq_80, kq_81, pq_0_0, pq_0_1, pq_0_2, pq_0_3, pq_0_4, pq_0_5, pq_0_6, pq_0_7, pq_1_0, pq_1_1, pq_1_2, pq_1_3, pq_1_4, pq_1_5, pq_1_6, pq_1_7, pq_10_0, pq_10_1, pq_10_2, pq_10_3, pq_15_0, pq_17_0, pq_19_0, pq_21_0, pq_21_1, pq_21_2, pq_21_3, pq_21_4, pq_21_5, pq_28_0, pq_30_0, pq_30_1, pq_30_2, pq_31_0, pq_35_0, pq_35_1, pq_35_2, pq_36_0, pq_40_0, pq_40_1, pq_40_2, pq_41_0, pq_45_0, pq_45_1, pq_45_2, pq_46_0, pq_50_0, pq_52_0, pq_52_1, pq_52_2, pq_52_3, pq_52_4, pq_52_5, pq_52_6, pq_52_8, pq_52_10, pq_52_11, pq_52_14, pq_52_15, pq_52_16, pq_52_17, pq_52_18, pq_52_27, pq_52_29, pq_52_30, pq_52_31, pq_52_32, pq_52_33, pq_52_34, pq_52_35, pq_52_36, pq_52_37, pq_52_38, pq_52_39, pq_52_40, pq_52_41, aq_1, aq_11, aq_12, aq_13, aq_14, aq_16, aq_18, aq_20, aq_22, aq_23, aq_24, aq_25, aq_26, aq_27, aq_29, aq_32, aq_33, aq_34, aq_37, aq_38, aq_39, aq_42, aq_43, aq_44, aq_47, aq_48, aq_49, aq_51, aq_53, aq_54, aq_55, aq_56, aq_57, aq_58, aq_59, aq_60, aq_61, aq_62, aq_63, aq_64, aq_65, aq_66, aq_67, aq_68, aq_69, aq_70, aq_71, aq_72, aq_73, aq_74, aq_75, aq_76, aq_77, aq_78, aq_79, aq_80, aq_81]
    exact j1
theorem psF_PI (hr : r ≤ 3000) : ∀ (q : Nat) (S : St9) (t : Nat), PI S t r → PI (psF q S t) (t + q) r ∧ pvS S (psF q S t) := by
  intro q
  induction q with
  | zero => intro S t hI; exact ⟨hI, pv_0⟩
  | succ q ih =>
    intro S t hI
    obtain ⟨h1, h2⟩ := tm_PI hI
    obtain ⟨h3, h4⟩ := exF_PI hr 4 (tmS S t) h1
    obtain ⟨h5, h6⟩ := ih (exF 4 (tmS S t) (t + 1)) (t + 1) h3
    rw [show t + 1 + q = t + (q + 1) by omega] at h5
    exact ⟨h5, pv_t h2 (pv_t h4 h6)⟩
theorem PI_0 (hn : n < 512) (hwf : wf n S) (hX : wX (em0 S)) : PI (em0 S) (cn S 5) (4 * n + 4) := by
  obtain ⟨W1, W2, W3, W4, W5, W6, W7⟩ := em0_W hn hwf
  have w4 := hwf.1.2.2.2.2.1.2
  refine ⟨W1, hX, W4, W6, ?_, ?_, ?_, W2⟩
  · rw [cn_of (em0_3 (by omega) (by omega))]; omega
  · rw [em0_c2]; omega
  · rw [em0_c11]; omega
theorem wf_ps {q : Nat} (hn : n < 512) (hq : q ≤ 100) (hwf : wf n S) (hI : PI T (cn S 5 + q) (4 * n + 4)) (hv : pvS (em0 S) T) : wf (n + 1) T := by
  obtain ⟨⟨w0, w1, w2', w3, w4, w5, w9, w10, w11⟩, wp, wr, wo'⟩ := hwf
  obtain ⟨⟨A1, A2, A3, ⟨o1, o2, -, -, o5⟩⟩, I2, I3, I4, I5, I6, I7, I8⟩ := hI
  have hA : ∀ k, k ≠ 3 → k < 9 → T k = S k := fun k h3 hk => by rw [hv.1 k h3 hk, em0_k h3]
  have e0 : T 3 0 = S 3 0 := by rw [hv.2.2.1, em0_3 (by omega) (by omega)]
  have e1 : T 3 1 = S 3 1 := by rw [hv.2.2.2.1, em0_3 (by omega) (by omega)]
  have c5 : cn T 5 = cn S 5 + q := by
    show (T 3 5).toNatClampNeg = _
    rw [I4, nI_clamp (by have := w5.2; omega)]
  refine ⟨⟨wfn_of w0 e0, wfn_of w1 e1, o1, A2, ⟨A3.1, by omega⟩, ⟨by rw [c5]; exact I4, by have := w5.2; omega⟩, I8, ⟨I3, I2.1⟩, o2⟩, ?_, ?_, o5⟩
  · rw [hA 1 (by omega) (by omega), hA 2 (by omega) (by omega)]; exact wp
  · rw [cn_of e0, hA 5 (by omega) (by omega), hA 6 (by omega) (by omega)]; exact wr
theorem n57 {q : Nat} (hn : n < 512) (hwf : wf n S) (hrc : rc S z w) (hX : wX (em0 S)) (hq' : q ≤ 100) (hf : 30000 < f) : ∃ z' w', F_57 f 0 (nI q) (hq z w c s) = some (.inl (some (.int (psF q (em0 S) (cn S 5) 3 2))), hq z' w' c s) ∧ rc (psF q (em0 S) (cn S 5)) z' w' ∧ ∀ a, 51 < a → z' a = z a := by
  have hK := kC_0 hn hwf hrc
  obtain ⟨z1, ez1⟩ : ∃ x, x = va_up z 21 (upd (upd (z 21) 6 0) 7 0) := ⟨_, rfl⟩
  rw [← ez1] at hK
  have n1 : ∀ a, a ≠ 21 → z1 a = z a := fun a ha => by rw [ez1, va_up_ne _ _ ha]
  have q3 : F_3 f 21 (hq z w c s) = some (.inl none, hq z1 w c s) := by
    rw [ez1]
    simp only [F_3, va_up_self, va_up2, dg_1, db_1, db_0, dl_1, dp_1, dv_1, dv_x, di_1, di_x, dw_1, ec_eq, ec_ne, ec_lt, ec_ge, ec_gt, ec_le, hq_z, hq_wz, hq_wc, hq_thr, hq_p29, hq_pw, eq_self, decide_true, decide_false, not_true_eq_false, not_false_eq_true, kq_0, kq_1, kq_2, kq_3, kq_4, kq_5, kq_6, kq_7, kq_8, kq_9, kq_10, kq_11, kq_12, kq_13, kq_14, kq_15, kq_16, kq_17, kq_18, kq_19, kq_20, kq_21, kq_22, kq_23, kq_24, kq_25, kq_26, kq_27, kq_28, kq_29, kq_30, kq_31, kq_32, kq_33, kq_34, kq_35, kq_36, kq_37, kq_38, kq_39, kq_40, kq_41, kq_42, kq_43, kq_44, kq_45, kq_46, kq_47, kq_48, kq_49, kq_50, kq_51, kq_52, kq_53, kq_54, kq_55, kq_56, kq_57, kq_58, kq_59, kq_60, kq_61, kq_62, kq_63, kq_64, kq_65, kq_66, kq_67, kq_68, kq_69, kq_70, kq_71, kq_72, kq_73, kq_74, kq_75, kq_76, kq_77, kq_78, kq_79, kq_80, kq_81, pq_0_0, pq_0_1, pq_0_2, pq_0_3, pq_0_4, pq_0_5, pq_0_6, pq_0_7, pq_1_0, pq_1_1, pq_1_2, pq_1_3, pq_1_4, pq_1_5, pq_1_6, pq_1_7, pq_10_0, pq_10_1, pq_10_2, pq_10_3, pq_15_0, pq_17_0, pq_19_0, pq_21_0, pq_21_1, pq_21_2, pq_21_3, pq_21_4, pq_21_5, pq_28_0, pq_30_0, pq_30_1, pq_30_2, pq_31_0, pq_35_0, pq_35_1, pq_35_2, pq_36_0, pq_40_0, pq_40_1, pq_40_2, pq_41_0, pq_45_0, pq_45_1, pq_45_2, pq_46_0, pq_50_0, pq_52_0, pq_52_1, pq_52_2, pq_52_3, pq_52_4, pq_52_5, pq_52_6, pq_52_8, pq_52_10, pq_52_11, pq_52_14, pq_52_15, pq_52_16, pq_52_17, pq_52_18, pq_52_27, pq_52_29, pq_52_30, pq_52_31, pq_52_32, pq_52_33, pq_52_34, pq_52_35, pq_52_36, pq_52_37, pq_52_38, pq_52_39, pq_52_40, pq_52_41, aq_1, aq_11, aq_12, aq_13, aq_14, aq_16, aq_18, aq_20, aq_22, aq_23, aq_24, aq_25, aq_26, aq_27, aq_29, aq_32, aq_33, aq_34, aq_37, aq_38, aq_39, aq_42, aq_43, aq_44, aq_47, aq_48, aq_49, aq_51, aq_53, aq_54, aq_55, aq_56, aq_57, aq_58, aq_59, aq_60, aq_61, aq_62, aq_63, aq_64, aq_65, aq_66, aq_67, aq_68, aq_69, aq_70, aq_71, aq_72, aq_73, aq_74, aq_75, aq_76, aq_77, aq_78, aq_79, aq_80, aq_81]
  have hI := PI_0 hn hwf hX
  have w5 := hwf.1.2.2.2.2.2.1.2
  obtain ⟨z2, w2', k1, k2, k3, k4, k5⟩ := n57_p (f := f) (c := c) (s := s) hq' (show 4 * n + 4 ≤ 3000 by omega) hf q 0 f (em0 S) (cn S 5) z1 w (by omega) (by omega) (by omega) hI hK
  obtain ⟨P1, P2⟩ := psF_PI (show 4 * n + 4 ≤ 3000 by omega) q (em0 S) (cn S 5) hI
  have g1 : ¬ nI q < 0 := nI_pos (by omega)
  have g2 : nI q ≤ 100 := nI_le (b := 100) hq' (by omega)
  have k1' : B_57_29 f f 0 (nI q) 0 (hq z1 w c s) = some (.inl (some (.int (psF q (em0 S) (cn S 5) 3 2))), hq z2 w2' c s) := k1
  have e0 : psF q (em0 S) (cn S 5) 3 0 = S 3 0 := by rw [P2.2.2.1, em0_3 (by omega) (by omega)]
  have e1 : psF q (em0 S) (cn S 5) 3 1 = S 3 1 := by rw [P2.2.2.2.1, em0_3 (by omega) (by omega)]
  refine ⟨z2, w2', ?_, rc_k k2 (by rw [cn_of e0, e0]; exact hwf.1.1.1) P1.2.2.1 (fun _ _ => rfl) (fun _ _ => rfl) (fun _ _ => rfl) ?_ (fun i hi => ?_), fun a ha => by rw [k3 a ha, n1 a (by omega)]⟩
  · simp only [F_57, g1, g2, q3, k1', dg_1, db_1, db_0, dl_1, dp_1, dv_1, dv_x, di_1, di_x, dw_1, ec_eq, ec_ne, ec_lt, ec_ge, ec_gt, ec_le, hq_z, hq_wz, hq_wc, hq_thr, hq_p29, hq_pw, eq_self, decide_true, decide_false, not_true_eq_false, not_false_eq_true, kq_0, kq_1, kq_2, kq_3, kq_4, kq_5, kq_6, kq_7, kq_8, kq_9, kq_10, kq_11, kq_12, kq_13, kq_14, kq_15, kq_16, kq_17, kq_18, kq_19, kq_20, kq_21, kq_22, kq_23, kq_24, kq_25, kq_26, kq_27, kq_28, kq_29, kq_30, kq_31, kq_32, kq_33, kq_34, kq_35, kq_36, kq_37, kq_38, kq_39, kq_40, kq_41, kq_42, kq_43, kq_44, kq_45, kq_46, kq_47, kq_48, kq_49, kq_50, kq_51, kq_52, kq_53, kq_54, kq_55, kq_56, kq_57, kq_58, kq_59, kq_60, kq_61, kq_62, kq_63, kq_64, kq_65, kq_66, kq_67, kq_68, kq_69, kq_70, kq_71, kq_72, kq_73, kq_74, kq_75, kq_76, kq_77, kq_78, kq_79, kq_80, kq_81, pq_0_0, pq_0_1, pq_0_2, pq_0_3, pq_0_4, pq_0_5, pq_0_6, pq_0_7, pq_1_0, pq_1_1, pq_1_2, pq_1_3, pq_1_4, pq_1_5, pq_1_6, pq_1_7, pq_10_0, pq_10_1, pq_10_2, pq_10_3, pq_15_0, pq_17_0, pq_19_0, pq_21_0, pq_21_1, pq_21_2, pq_21_3, pq_21_4, pq_21_5, pq_28_0, pq_30_0, pq_30_1, pq_30_2, pq_31_0, pq_35_0, pq_35_1, pq_35_2, pq_36_0, pq_40_0, pq_40_1, pq_40_2, pq_41_0, pq_45_0, pq_45_1, pq_45_2, pq_46_0, pq_50_0, pq_52_0, pq_52_1, pq_52_2, pq_52_3, pq_52_4, pq_52_5, pq_52_6, pq_52_8, pq_52_10, pq_52_11, pq_52_14, pq_52_15, pq_52_16, pq_52_17, pq_52_18, pq_52_27, pq_52_29, pq_52_30, pq_52_31, pq_52_32, pq_52_33, pq_52_34, pq_52_35, pq_52_36, pq_52_37, pq_52_38, pq_52_39, pq_52_40, pq_52_41, aq_1, aq_11, aq_12, aq_13, aq_14, aq_16, aq_18, aq_20, aq_22, aq_23, aq_24, aq_25, aq_26, aq_27, aq_29, aq_32, aq_33, aq_34, aq_37, aq_38, aq_39, aq_42, aq_43, aq_44, aq_47, aq_48, aq_49, aq_51, aq_53, aq_54, aq_55, aq_56, aq_57, aq_58, aq_59, aq_60, aq_61, aq_62, aq_63, aq_64, aq_65, aq_66, aq_67, aq_68, aq_69, aq_70, aq_71, aq_72, aq_73, aq_74, aq_75, aq_76, aq_77, aq_78, aq_79, aq_80, aq_81]
  · rw [k4, n1 15 (by omega), e1]; exact hrc.2.1.2.1
  · rw [cn_of e1] at hi
    rw [k5, n1 16 (by omega), P2.1 8 (by omega) (by omega), em0_k (by omega)]; exact hrc.2.2.2.1 i hi
theorem m114 {q : Nat} (hn : n < 512) (hwf : wf n S) (hrm : rmd S z) (hq' : q ≤ 100) (hf : 30000 < f) : ∃ z', F_114 f 52 (nI q) (hq z w c s) = some (.inl (some (.int (psF q (em0 S) (cn S 5) 3 2))), hq z' w c s) ∧ rmd (psF q (em0 S) (cn S 5)) z' ∧ (∀ a, a < 52 → z' a = z a) ∧ z' 52 42 = 0 := by
  have hX := em0_X hwf.1.2.2.2.2.2.2.2.1.2 hrm
  have hI := PI_0 hn hwf hX
  have w5 := hwf.1.2.2.2.2.2.1.2
  obtain ⟨z1, ez1⟩ : ∃ x, x = va_up (z42 z 0) 52 (upd (z42 z 0 52) 19 0) := ⟨_, rfl⟩
  have a1 : ∀ a, a ≠ 52 → z1 a = z a := fun a ha => by rw [ez1, va_up_ne _ _ ha, z42_n 0 ha]
  have b1' : ∀ k, k ≠ 19 → k ≠ 42 → z1 52 k = z 52 k := fun k h19 h42 => by rw [ez1, va_up_self, pk_un h19, z42_52 0 h42]
  have hK : kM (em0 S) z1 := kM_0 hwf hrm (fun a ha _ => a1 a (by omega)) (fun k _ h19 h42 => b1' k h19 h42) (by rw [ez1, va_up_self, pk_us])
  obtain ⟨z2, k1, k2, k3, k4, k5⟩ := m114_p (f := f) (w := w) (c := c) (s := s) hq' (show 4 * n + 4 ≤ 3000 by omega) hf q 0 f (em0 S) (cn S 5) z1 (by omega) (by omega) (by omega) hI hK
  obtain ⟨P1, P2⟩ := psF_PI (show 4 * n + 4 ≤ 3000 by omega) q (em0 S) (cn S 5) hI
  have g1 : ¬ nI q < 0 := nI_pos (by omega)
  have g2 : nI q ≤ 100 := nI_le (b := 100) hq' (by omega)
  have k1' : B_114_32 f f 52 (nI q) 0 (hq z1 w c s) = some (.inl (some (.int (psF q (em0 S) (cn S 5) 3 2))), hq z2 w c s) := k1
  have e0 : psF q (em0 S) (cn S 5) 3 0 = S 3 0 := by rw [P2.2.2.1, em0_3 (by omega) (by omega)]
  have e1 : psF q (em0 S) (cn S 5) 3 1 = S 3 1 := by rw [P2.2.2.2.1, em0_3 (by omega) (by omega)]
  refine ⟨z2, ?_, rmd_k k2 P1.2.1 (by rw [cn_of e0, e0]; exact hwf.1.1.1) P1.2.2.1 (fun _ _ => rfl) (fun _ _ => rfl) ?_ (fun i hi => ?_), fun a ha => by rw [k3 a ha, a1 a (by omega)], ?_⟩
  · simp only [F_114, B_114_16, g1, g2, t75_0, ← ez1, k1', dg_1, db_1, db_0, dl_1, dp_1, dv_1, dv_x, di_1, di_x, dw_1, ec_eq, ec_ne, ec_lt, ec_ge, ec_gt, ec_le, hq_z, hq_wz, hq_wc, hq_thr, hq_p29, hq_pw, eq_self, decide_true, decide_false, not_true_eq_false, not_false_eq_true, kq_0, kq_1, kq_2, kq_3, kq_4, kq_5, kq_6, kq_7, kq_8, kq_9, kq_10, kq_11, kq_12, kq_13, kq_14, kq_15, kq_16, kq_17, kq_18, kq_19, kq_20, kq_21, kq_22, kq_23, kq_24, kq_25, kq_26, kq_27, kq_28, kq_29, kq_30, kq_31, kq_32, kq_33, kq_34, kq_35, kq_36, kq_37, kq_38, kq_39, kq_40, kq_41, kq_42, kq_43, kq_44, kq_45, kq_46, kq_47, kq_48, kq_49, kq_50, kq_51, kq_52, kq_53, kq_54, kq_55, kq_56, kq_57, kq_58, kq_59, kq_60, kq_61, kq_62, kq_63, kq_64, kq_65, kq_66, kq_67, kq_68, kq_69, kq_70, kq_71, kq_72, kq_73, kq_74, kq_75, kq_76, kq_77, kq_78, kq_79, kq_80, kq_81, pq_0_0, pq_0_1, pq_0_2, pq_0_3, pq_0_4, pq_0_5, pq_0_6, pq_0_7, pq_1_0, pq_1_1, pq_1_2, pq_1_3, pq_1_4, pq_1_5, pq_1_6, pq_1_7, pq_10_0, pq_10_1, pq_10_2, pq_10_3, pq_15_0, pq_17_0, pq_19_0, pq_21_0, pq_21_1, pq_21_2, pq_21_3, pq_21_4, pq_21_5, pq_28_0, pq_30_0, pq_30_1, pq_30_2, pq_31_0, pq_35_0, pq_35_1, pq_35_2, pq_36_0, pq_40_0, pq_40_1, pq_40_2, pq_41_0, pq_45_0, pq_45_1, pq_45_2, pq_46_0, pq_50_0, pq_52_0, pq_52_1, pq_52_2, pq_52_3, pq_52_4, pq_52_5, pq_52_6, pq_52_8, pq_52_10, pq_52_11, pq_52_14, pq_52_15, pq_52_16, pq_52_17, pq_52_18, pq_52_27, pq_52_29, pq_52_30, pq_52_31, pq_52_32, pq_52_33, pq_52_34, pq_52_35, pq_52_36, pq_52_37, pq_52_38, pq_52_39, pq_52_40, pq_52_41, aq_1, aq_11, aq_12, aq_13, aq_14, aq_16, aq_18, aq_20, aq_22, aq_23, aq_24, aq_25, aq_26, aq_27, aq_29, aq_32, aq_33, aq_34, aq_37, aq_38, aq_39, aq_42, aq_43, aq_44, aq_47, aq_48, aq_49, aq_51, aq_53, aq_54, aq_55, aq_56, aq_57, aq_58, aq_59, aq_60, aq_61, aq_62, aq_63, aq_64, aq_65, aq_66, aq_67, aq_68, aq_69, aq_70, aq_71, aq_72, aq_73, aq_74, aq_75, aq_76, aq_77, aq_78, aq_79, aq_80, aq_81]
  · rw [k5 9 (by omega), b1' 9 (by omega) (by omega), e1]; exact hrm.2.1.2.1
  · rw [cn_of e1] at hi
    rw [k4, a1 60 (by omega), P2.1 8 (by omega) (by omega), em0_k (by omega)]; exact hrm.2.2.2.1 i hi
  · rw [k5 42 (by omega), ez1, va_up_self, pk_un (by omega)]; exact z42_s 0
theorem t57_a {x : Int32} (h1 : x < 0) : F_57 f 0 x (hq z w c s) = some (.inr 1, hq z w (c + 1) (s + 6)) := by
  simp only [F_57, B_57_10, h1, dg_1, db_1, db_0, dl_1, dp_1, dv_1, dv_x, di_1, di_x, dw_1, ec_eq, ec_ne, ec_lt, ec_ge, ec_gt, ec_le, hq_z, hq_wz, hq_wc, hq_thr, hq_p29, hq_pw, eq_self, decide_true, decide_false, not_true_eq_false, not_false_eq_true, kq_0, kq_1, kq_2, kq_3, kq_4, kq_5, kq_6, kq_7, kq_8, kq_9, kq_10, kq_11, kq_12, kq_13, kq_14, kq_15, kq_16, kq_17, kq_18, kq_19, kq_20, kq_21, kq_22, kq_23, kq_24, kq_25, kq_26, kq_27, kq_28, kq_29, kq_30, kq_31, kq_32, kq_33, kq_34, kq_35, kq_36, kq_37, kq_38, kq_39, kq_40, kq_41, kq_42, kq_43, kq_44, kq_45, kq_46, kq_47, kq_48, kq_49, kq_50, kq_51, kq_52, kq_53, kq_54, kq_55, kq_56, kq_57, kq_58, kq_59, kq_60, kq_61, kq_62, kq_63, kq_64, kq_65, kq_66, kq_67, kq_68, kq_69, kq_70, kq_71, kq_72, kq_73, kq_74, kq_75, kq_76, kq_77, kq_78, kq_79, kq_80, kq_81, pq_0_0, pq_0_1, pq_0_2, pq_0_3, pq_0_4, pq_0_5, pq_0_6, pq_0_7, pq_1_0, pq_1_1, pq_1_2, pq_1_3, pq_1_4, pq_1_5, pq_1_6, pq_1_7, pq_10_0, pq_10_1, pq_10_2, pq_10_3, pq_15_0, pq_17_0, pq_19_0, pq_21_0, pq_21_1, pq_21_2, pq_21_3, pq_21_4, pq_21_5, pq_28_0, pq_30_0, pq_30_1, pq_30_2, pq_31_0, pq_35_0, pq_35_1, pq_35_2, pq_36_0, pq_40_0, pq_40_1, pq_40_2, pq_41_0, pq_45_0, pq_45_1, pq_45_2, pq_46_0, pq_50_0, pq_52_0, pq_52_1, pq_52_2, pq_52_3, pq_52_4, pq_52_5, pq_52_6, pq_52_8, pq_52_10, pq_52_11, pq_52_14, pq_52_15, pq_52_16, pq_52_17, pq_52_18, pq_52_27, pq_52_29, pq_52_30, pq_52_31, pq_52_32, pq_52_33, pq_52_34, pq_52_35, pq_52_36, pq_52_37, pq_52_38, pq_52_39, pq_52_40, pq_52_41, aq_1, aq_11, aq_12, aq_13, aq_14, aq_16, aq_18, aq_20, aq_22, aq_23, aq_24, aq_25, aq_26, aq_27, aq_29, aq_32, aq_33, aq_34, aq_37, aq_38, aq_39, aq_42, aq_43, aq_44, aq_47, aq_48, aq_49, aq_51, aq_53, aq_54, aq_55, aq_56, aq_57, aq_58, aq_59, aq_60, aq_61, aq_62, aq_63, aq_64, aq_65, aq_66, aq_67, aq_68, aq_69, aq_70, aq_71, aq_72, aq_73, aq_74, aq_75, aq_76, aq_77, aq_78, aq_79, aq_80, aq_81]
theorem t57_b {x : Int32} (h1 : ¬ x < 0) (h2 : ¬ x ≤ 100) : F_57 f 0 x (hq z w c s) = some (.inr 1, hq z w (c + 1) (s + 6)) := by
  simp only [F_57, B_57_10, h1, h2, dg_1, db_1, db_0, dl_1, dp_1, dv_1, dv_x, di_1, di_x, dw_1, ec_eq, ec_ne, ec_lt, ec_ge, ec_gt, ec_le, hq_z, hq_wz, hq_wc, hq_thr, hq_p29, hq_pw, eq_self, decide_true, decide_false, not_true_eq_false, not_false_eq_true, kq_0, kq_1, kq_2, kq_3, kq_4, kq_5, kq_6, kq_7, kq_8, kq_9, kq_10, kq_11, kq_12, kq_13, kq_14, kq_15, kq_16, kq_17, kq_18, kq_19, kq_20, kq_21, kq_22, kq_23, kq_24, kq_25, kq_26, kq_27, kq_28, kq_29, kq_30, kq_31, kq_32, kq_33, kq_34, kq_35, kq_36, kq_37, kq_38, kq_39, kq_40, kq_41, kq_42, kq_43, kq_44, kq_45, kq_46, kq_47, kq_48, kq_49, kq_50, kq_51, kq_52, kq_53, kq_54, kq_55, kq_56, kq_57, kq_58, kq_59, kq_60, kq_61, kq_62, kq_63, kq_64, kq_65, kq_66, kq_67, kq_68, kq_69, kq_70, kq_71, kq_72, kq_73, kq_74, kq_75, kq_76, kq_77, kq_78, kq_79, kq_80, kq_81, pq_0_0, pq_0_1, pq_0_2, pq_0_3, pq_0_4, pq_0_5, pq_0_6, pq_0_7, pq_1_0, pq_1_1, pq_1_2, pq_1_3, pq_1_4, pq_1_5, pq_1_6, pq_1_7, pq_10_0, pq_10_1, pq_10_2, pq_10_3, pq_15_0, pq_17_0, pq_19_0, pq_21_0, pq_21_1, pq_21_2, pq_21_3, pq_21_4, pq_21_5, pq_28_0, pq_30_0, pq_30_1, pq_30_2, pq_31_0, pq_35_0, pq_35_1, pq_35_2, pq_36_0, pq_40_0, pq_40_1, pq_40_2, pq_41_0, pq_45_0, pq_45_1, pq_45_2, pq_46_0, pq_50_0, pq_52_0, pq_52_1, pq_52_2, pq_52_3, pq_52_4, pq_52_5, pq_52_6, pq_52_8, pq_52_10, pq_52_11, pq_52_14, pq_52_15, pq_52_16, pq_52_17, pq_52_18, pq_52_27, pq_52_29, pq_52_30, pq_52_31, pq_52_32, pq_52_33, pq_52_34, pq_52_35, pq_52_36, pq_52_37, pq_52_38, pq_52_39, pq_52_40, pq_52_41, aq_1, aq_11, aq_12, aq_13, aq_14, aq_16, aq_18, aq_20, aq_22, aq_23, aq_24, aq_25, aq_26, aq_27, aq_29, aq_32, aq_33, aq_34, aq_37, aq_38, aq_39, aq_42, aq_43, aq_44, aq_47, aq_48, aq_49, aq_51, aq_53, aq_54, aq_55, aq_56, aq_57, aq_58, aq_59, aq_60, aq_61, aq_62, aq_63, aq_64, aq_65, aq_66, aq_67, aq_68, aq_69, aq_70, aq_71, aq_72, aq_73, aq_74, aq_75, aq_76, aq_77, aq_78, aq_79, aq_80, aq_81]
theorem t114_a {x : Int32} (h1 : x < 0) : F_114 f 52 x (hq z w c s) = some (.inl (some (.int 0)), hq (z42 z 1) w c s) := by
  simp only [F_114, B_114_11, B_114_16, h1, t75_1, show ¬ (1 : Int32) = 0 by decide, dg_1, db_1, db_0, dl_1, dp_1, dv_1, dv_x, di_1, di_x, dw_1, ec_eq, ec_ne, ec_lt, ec_ge, ec_gt, ec_le, hq_z, hq_wz, hq_wc, hq_thr, hq_p29, hq_pw, eq_self, decide_true, decide_false, not_true_eq_false, not_false_eq_true, kq_0, kq_1, kq_2, kq_3, kq_4, kq_5, kq_6, kq_7, kq_8, kq_9, kq_10, kq_11, kq_12, kq_13, kq_14, kq_15, kq_16, kq_17, kq_18, kq_19, kq_20, kq_21, kq_22, kq_23, kq_24, kq_25, kq_26, kq_27, kq_28, kq_29, kq_30, kq_31, kq_32, kq_33, kq_34, kq_35, kq_36, kq_37, kq_38, kq_39, kq_40, kq_41, kq_42, kq_43, kq_44, kq_45, kq_46, kq_47, kq_48, kq_49, kq_50, kq_51, kq_52, kq_53, kq_54, kq_55, kq_56, kq_57, kq_58, kq_59, kq_60, kq_61, kq_62, kq_63, kq_64, kq_65, kq_66, kq_67, kq_68, kq_69, kq_70, kq_71, kq_72, kq_73, kq_74, kq_75, kq_76, kq_77, kq_78, kq_79, kq_80, kq_81, pq_0_0, pq_0_1, pq_0_2, pq_0_3, pq_0_4, pq_0_5, pq_0_6, pq_0_7, pq_1_0, pq_1_1, pq_1_2, pq_1_3, pq_1_4, pq_1_5, pq_1_6, pq_1_7, pq_10_0, pq_10_1, pq_10_2, pq_10_3, pq_15_0, pq_17_0, pq_19_0, pq_21_0, pq_21_1, pq_21_2, pq_21_3, pq_21_4, pq_21_5, pq_28_0, pq_30_0, pq_30_1, pq_30_2, pq_31_0, pq_35_0, pq_35_1, pq_35_2, pq_36_0, pq_40_0, pq_40_1, pq_40_2, pq_41_0, pq_45_0, pq_45_1, pq_45_2, pq_46_0, pq_50_0, pq_52_0, pq_52_1, pq_52_2, pq_52_3, pq_52_4, pq_52_5, pq_52_6, pq_52_8, pq_52_10, pq_52_11, pq_52_14, pq_52_15, pq_52_16, pq_52_17, pq_52_18, pq_52_27, pq_52_29, pq_52_30, pq_52_31, pq_52_32, pq_52_33, pq_52_34, pq_52_35, pq_52_36, pq_52_37, pq_52_38, pq_52_39, pq_52_40, pq_52_41, aq_1, aq_11, aq_12, aq_13, aq_14, aq_16, aq_18, aq_20, aq_22, aq_23, aq_24, aq_25, aq_26, aq_27, aq_29, aq_32, aq_33, aq_34, aq_37, aq_38, aq_39, aq_42, aq_43, aq_44, aq_47, aq_48, aq_49, aq_51, aq_53, aq_54, aq_55, aq_56, aq_57, aq_58, aq_59, aq_60, aq_61, aq_62, aq_63, aq_64, aq_65, aq_66, aq_67, aq_68, aq_69, aq_70, aq_71, aq_72, aq_73, aq_74, aq_75, aq_76, aq_77, aq_78, aq_79, aq_80, aq_81]
theorem t114_b {x : Int32} (h1 : ¬ x < 0) (h2 : ¬ x ≤ 100) : F_114 f 52 x (hq z w c s) = some (.inl (some (.int 0)), hq (z42 z 1) w c s) := by
  simp only [F_114, B_114_11, B_114_16, h1, h2, t75_1, show ¬ (1 : Int32) = 0 by decide, dg_1, db_1, db_0, dl_1, dp_1, dv_1, dv_x, di_1, di_x, dw_1, ec_eq, ec_ne, ec_lt, ec_ge, ec_gt, ec_le, hq_z, hq_wz, hq_wc, hq_thr, hq_p29, hq_pw, eq_self, decide_true, decide_false, not_true_eq_false, not_false_eq_true, kq_0, kq_1, kq_2, kq_3, kq_4, kq_5, kq_6, kq_7, kq_8, kq_9, kq_10, kq_11, kq_12, kq_13, kq_14, kq_15, kq_16, kq_17, kq_18, kq_19, kq_20, kq_21, kq_22, kq_23, kq_24, kq_25, kq_26, kq_27, kq_28, kq_29, kq_30, kq_31, kq_32, kq_33, kq_34, kq_35, kq_36, kq_37, kq_38, kq_39, kq_40, kq_41, kq_42, kq_43, kq_44, kq_45, kq_46, kq_47, kq_48, kq_49, kq_50, kq_51, kq_52, kq_53, kq_54, kq_55, kq_56, kq_57, kq_58, kq_59, kq_60, kq_61, kq_62, kq_63, kq_64, kq_65, kq_66, kq_67, kq_68, kq_69, kq_70, kq_71, kq_72, kq_73, kq_74, kq_75, kq_76, kq_77, kq_78, kq_79, kq_80, kq_81, pq_0_0, pq_0_1, pq_0_2, pq_0_3, pq_0_4, pq_0_5, pq_0_6, pq_0_7, pq_1_0, pq_1_1, pq_1_2, pq_1_3, pq_1_4, pq_1_5, pq_1_6, pq_1_7, pq_10_0, pq_10_1, pq_10_2, pq_10_3, pq_15_0, pq_17_0, pq_19_0, pq_21_0, pq_21_1, pq_21_2, pq_21_3, pq_21_4, pq_21_5, pq_28_0, pq_30_0, pq_30_1, pq_30_2, pq_31_0, pq_35_0, pq_35_1, pq_35_2, pq_36_0, pq_40_0, pq_40_1, pq_40_2, pq_41_0, pq_45_0, pq_45_1, pq_45_2, pq_46_0, pq_50_0, pq_52_0, pq_52_1, pq_52_2, pq_52_3, pq_52_4, pq_52_5, pq_52_6, pq_52_8, pq_52_10, pq_52_11, pq_52_14, pq_52_15, pq_52_16, pq_52_17, pq_52_18, pq_52_27, pq_52_29, pq_52_30, pq_52_31, pq_52_32, pq_52_33, pq_52_34, pq_52_35, pq_52_36, pq_52_37, pq_52_38, pq_52_39, pq_52_40, pq_52_41, aq_1, aq_11, aq_12, aq_13, aq_14, aq_16, aq_18, aq_20, aq_22, aq_23, aq_24, aq_25, aq_26, aq_27, aq_29, aq_32, aq_33, aq_34, aq_37, aq_38, aq_39, aq_42, aq_43, aq_44, aq_47, aq_48, aq_49, aq_51, aq_53, aq_54, aq_55, aq_56, aq_57, aq_58, aq_59, aq_60, aq_61, aq_62, aq_63, aq_64, aq_65, aq_66, aq_67, aq_68, aq_69, aq_70, aq_71, aq_72, aq_73, aq_74, aq_75, aq_76, aq_77, aq_78, aq_79, aq_80, aq_81]
end Pass89b
