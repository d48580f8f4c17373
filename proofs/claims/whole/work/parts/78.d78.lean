-- waits of the class: begin, completes
section Wait78
variable {S : St9} {z : Nat → Nat → Int32} {w : Nat → Option Nat} {f c s n data j p t : Nat} {P : Nat → Nat} {E : Nat → Int32}
theorem wC_rm {e : Nat} (hC : wC S z w) (hX : wX S) (he : e < cn S 10) (hf : 10 < f) : ∃ z' w', F_42 f 28 (nI e) (hq z w c s) = some (.inl none, hq z' w' c s) ∧ wC (rmS S e) z' w' ∧ (∀ b, b ≠ 28 → z' b = z b) := by
  obtain ⟨m1, m2⟩ := n42 (f := f) (c := c) (s := s) (e := e) hC.1 hC.2.1 hX.1 he hf
  refine ⟨_, _, m1, ⟨m2, ?_, fun k hk => ?_, ?_⟩, fun b hb => va_up_ne _ _ hb⟩
  · rw [va_up_self, pk_us, rmS_c hX.1]
  · rw [va_up_ne _ _ (by omega), va_up_ne _ _ (by omega)]; exact hC.2.2.1 k hk
  · rw [va_up_ne _ _ (by omega)]; exact hC.2.2.2
theorem n45 (hC : wC S z w) (hX : wX S) (hR : rdP z n P data) (hf : 1000 < f) : ∃ z' w', F_45 f 28 15 (nI t) (hq z w c s) = some (.inl (some (.int (nI (cn (bg1 S) 10)))), hq z' w' c s) ∧ wC (nwS (bg1 S) P t) z' w' ∧ (∀ b, b < 28 → z' b = z b) ∧ ∀ b, 49 < b → z' b = z b := by
  have hk4 := bg_c hX.1
  have key : ∃ z1 w1, F_45 f 28 15 (nI t) (hq z w c s) = B_45_13 f 28 15 (nI t) (hq z1 w1 c s) ∧ wC (bg1 S) z1 w1 ∧ ∀ b, b ≠ 28 → z1 b = z b := by
    unfold bg1
    by_cases h : cn S 10 < 4
    · have h' : nI (cn S 10) < 4 := nI_lt (b := 4) h (by omega)
      rw [if_pos h]
      refine ⟨z, w, ?_, hC, fun _ _ => rfl⟩
      simp only [F_45, hC.2.1, h', dg_1, db_1, db_0, dl_1, dp_1, dv_1, dv_x, di_1, di_x, dw_1, ec_eq, ec_ne, ec_lt, ec_ge, ec_gt, ec_le, hq_z, hq_wz, hq_wc, hq_thr, hq_p29, hq_pw, eq_self, decide_true, decide_false, not_true_eq_false, not_false_eq_true, kq_0, kq_1, kq_2, kq_3, kq_4, kq_5, kq_6, kq_7, kq_8, kq_9, kq_10, kq_11, kq_12, kq_13, kq_14, kq_15, kq_16, kq_17, kq_18, kq_19, kq_20, kq_21, kq_22, kq_23, kq_24, kq_25, kq_26, kq_27, kq_28, kq_29, kq_30, kq_31, kq_32, kq_33, kq_34, kq_35, kq_36, kq_37, kq_38, kq_39, kq_40, kq_41, kq_42, kq_43, kq_44, kq_45, kq_46, kq_47, kq_48, kq_49, kq_50, kq_51, kq_52, kq_53, kq_54, kq_55, kq_56, kq_57, kq_58, kq_59, kq_60, kq_61, kq_62, kq_63, kq_64, kq_65, kq_66, kq_67, kq_68, kq_69, kq_70, kq_71, kq_72, kq_73, kq_74, kq_75, kq_76, kq_77, kq_78, kq_79, kq_80, kq_81, pq_0_0, pq_0_1, pq_0_2, pq_0_3, pq_0_4, pq_0_5, pq_0_6, pq_0_7, pq_1_0, pq_1_1, pq_1_2, pq_1_3, pq_1_4, pq_1_5, pq_1_6, pq_1_7, pq_10_0, pq_10_1, pq_10_2, pq_10_3, pq_15_0, pq_17_0, pq_19_0, pq_21_0, pq_21_1, pq_21_2, pq_21_3, pq_21_4, pq_21_5, pq_28_0, pq_30_0, pq_30_1, pq_30_2, pq_31_0, pq_35_0, pq_35_1, pq_35_2, pq_36_0, pq_40_0, pq_40_1, pq_40_2, pq_41_0, pq_45_0, pq_45_1, pq_45_2, pq_46_0, pq_50_0, pq_52_0, pq_52_1, pq_52_2, pq_52_3, pq_52_4, pq_52_5, pq_52_6, pq_52_8, pq_52_10, pq_52_11, pq_52_14, pq_52_15, pq_52_16, pq_52_17, pq_52_18, pq_52_27, pq_52_29, pq_52_30, pq_52_31, pq_52_32, pq_52_33, pq_52_34, pq_52_35, pq_52_36, pq_52_37, pq_52_38, pq_52_39, pq_52_40, pq_52_41, aq_1, aq_11, aq_12, aq_13, aq_14, aq_16, aq_18, aq_20, aq_22, aq_23, aq_24, aq_25, aq_26, aq_27, aq_29, aq_32, aq_33, aq_34, aq_37, aq_38, aq_39, aq_42, aq_43, aq_44, aq_47, aq_48, aq_49, aq_51, aq_53, aq_54, aq_55, aq_56, aq_57, aq_58, aq_59, aq_60, aq_61, aq_62, aq_63, aq_64, aq_65, aq_66, aq_67, aq_68, aq_69, aq_70, aq_71, aq_72, aq_73, aq_74, aq_75, aq_76, aq_77, aq_78, aq_79, aq_80, aq_81]
    · have h' : ¬ nI (cn S 10) < 4 := nI_nlt (b := 4) (by omega) (by have := hX.1; omega)
      rw [if_neg h]
      obtain ⟨z1, w1, k1, k2, k3⟩ := wC_rm (f := f) (c := c) (s := s) (e := 0) hC hX (by omega) (by omega)
      have k1' : F_42 f 28 0 (hq z w c s) = some (.inl none, hq z1 w1 c s) := k1
      refine ⟨z1, w1, ?_, k2, k3⟩
      simp only [F_45, hC.2.1, h', k1', dg_1, db_1, db_0, dl_1, dp_1, dv_1, dv_x, di_1, di_x, dw_1, ec_eq, ec_ne, ec_lt, ec_ge, ec_gt, ec_le, hq_z, hq_wz, hq_wc, hq_thr, hq_p29, hq_pw, eq_self, decide_true, decide_false, not_true_eq_false, not_false_eq_true, kq_0, kq_1, kq_2, kq_3, kq_4, kq_5, kq_6, kq_7, kq_8, kq_9, kq_10, kq_11, kq_12, kq_13, kq_14, kq_15, kq_16, kq_17, kq_18, kq_19, kq_20, kq_21, kq_22, kq_23, kq_24, kq_25, kq_26, kq_27, kq_28, kq_29, kq_30, kq_31, kq_32, kq_33, kq_34, kq_35, kq_36, kq_37, kq_38, kq_39, kq_40, kq_41, kq_42, kq_43, kq_44, kq_45, kq_46, kq_47, kq_48, kq_49, kq_50, kq_51, kq_52, kq_53, kq_54, kq_55, kq_56, kq_57, kq_58, kq_59, kq_60, kq_61, kq_62, kq_63, kq_64, kq_65, kq_66, kq_67, kq_68, kq_69, kq_70, kq_71, kq_72, kq_73, kq_74, kq_75, kq_76, kq_77, kq_78, kq_79, kq_80, kq_81, pq_0_0, pq_0_1, pq_0_2, pq_0_3, pq_0_4, pq_0_5, pq_0_6, pq_0_7, pq_1_0, pq_1_1, pq_1_2, pq_1_3, pq_1_4, pq_1_5, pq_1_6, pq_1_7, pq_10_0, pq_10_1, pq_10_2, pq_10_3, pq_15_0, pq_17_0, pq_19_0, pq_21_0, pq_21_1, pq_21_2, pq_21_3, pq_21_4, pq_21_5, pq_28_0, pq_30_0, pq_30_1, pq_30_2, pq_31_0, pq_35_0, pq_35_1, pq_35_2, pq_36_0, pq_40_0, pq_40_1, pq_40_2, pq_41_0, pq_45_0, pq_45_1, pq_45_2, pq_46_0, pq_50_0, pq_52_0, pq_52_1, pq_52_2, pq_52_3, pq_52_4, pq_52_5, pq_52_6, pq_52_8, pq_52_10, pq_52_11, pq_52_14, pq_52_15, pq_52_16, pq_52_17, pq_52_18, pq_52_27, pq_52_29, pq_52_30, pq_52_31, pq_52_32, pq_52_33, pq_52_34, pq_52_35, pq_52_36, pq_52_37, pq_52_38, pq_52_39, pq_52_40, pq_52_41, aq_1, aq_11, aq_12, aq_13, aq_14, aq_16, aq_18, aq_20, aq_22, aq_23, aq_24, aq_25, aq_26, aq_27, aq_29, aq_32, aq_33, aq_34, aq_37, aq_38, aq_39, aq_42, aq_43, aq_44, aq_47, aq_48, aq_49, aq_51, aq_53, aq_54, aq_55, aq_56, aq_57, aq_58, aq_59, aq_60, aq_61, aq_62, aq_63, aq_64, aq_65, aq_66, aq_67, aq_68, aq_69, aq_70, aq_71, aq_72, aq_73, aq_74, aq_75, aq_76, aq_77, aq_78, aq_79, aq_80, aq_81]
  obtain ⟨z1, w1, s1, hC1, n1⟩ := key
  generalize bg1 S = T at *
  obtain ⟨⟨⟨pp, hpp, hinj⟩, hEC⟩, D2, D3, D4⟩ := id hC1
  obtain ⟨p1, p2⟩ := hpp (cn T 10) hk4
  have hR1 : rdP z1 n P data := ⟨⟨hR.1.1, fun i hi => by rw [n1 16 (by omega)]; exact hR.1.2 i hi⟩, hR.2.1, by rw [n1 16 (by omega)]; exact hR.2.2.1, hR.2.2.2⟩
  obtain ⟨z2, k1, k2, k3⟩ := n33 (f := f) (w := w1) (c := c) (s := s) (t := t) p1 hR1 hf
  have ie : ev_in (nI (cn T 10)) 4 = true := ev_in_nI (by omega) (by omega)
  have ce : (nI (cn T 10)).toNatClampNeg = cn T 10 := nI_clamp (by omega)
  have kk : ∀ z, hp_k (hq z w1 c s) (30 + 5 * pp (cn T 10)) = some (5, 0) := fun z => (wk p1).1
  have g28 : z2 28 1 = nI (cn T 10) := by rw [k2 28 (by omega) (by omega)]; exact D2
  obtain ⟨z3, e3⟩ : ∃ x, x = va_up z2 28 (upd (z2 28) 1 (nI (cn T 10 + 1))) := ⟨_, rfl⟩
  have n3 : ∀ b, b ≠ 28 → z3 b = z2 b := fun b hb => by rw [e3, va_up_ne _ _ hb]
  have g28' : z3 28 1 = nI (cn T 10 + 1) := by rw [e3, va_up_self, pk_us]
  have x1 : nI (cn T 10 + 1) - 1 = nI (cn T 10) := nI_subN (b := 1) (by omega)
  refine ⟨z3, w1, ?_, ⟨⟨⟨pp, hpp, hinj⟩, fun i a hi hi4 ha => ?_⟩, ?_, fun k hk => ?_, ?_⟩, fun b hb => by rw [n3 b (by omega), k2 b (by omega) (by omega), n1 b (by omega)], fun b hb => by rw [n3 b (by omega), k2 b (by omega) (by omega), n1 b (by omega)]⟩
  · rw [s1]
    simp only [B_45_13, D2, ie, ce, p2, kk, k1, g28, nI_1, ← e3, g28', x1, dg_1, db_1, db_0, dl_1, dp_1, dv_1, dv_x, di_1, di_x, dw_1, ec_eq, ec_ne, ec_lt, ec_ge, ec_gt, ec_le, hq_z, hq_wz, hq_wc, hq_thr, hq_p29, hq_pw, eq_self, decide_true, decide_false, not_true_eq_false, not_false_eq_true, kq_0, kq_1, kq_2, kq_3, kq_4, kq_5, kq_6, kq_7, kq_8, kq_9, kq_10, kq_11, kq_12, kq_13, kq_14, kq_15, kq_16, kq_17, kq_18, kq_19, kq_20, kq_21, kq_22, kq_23, kq_24, kq_25, kq_26, kq_27, kq_28, kq_29, kq_30, kq_31, kq_32, kq_33, kq_34, kq_35, kq_36, kq_37, kq_38, kq_39, kq_40, kq_41, kq_42, kq_43, kq_44, kq_45, kq_46, kq_47, kq_48, kq_49, kq_50, kq_51, kq_52, kq_53, kq_54, kq_55, kq_56, kq_57, kq_58, kq_59, kq_60, kq_61, kq_62, kq_63, kq_64, kq_65, kq_66, kq_67, kq_68, kq_69, kq_70, kq_71, kq_72, kq_73, kq_74, kq_75, kq_76, kq_77, kq_78, kq_79, kq_80, kq_81, pq_0_0, pq_0_1, pq_0_2, pq_0_3, pq_0_4, pq_0_5, pq_0_6, pq_0_7, pq_1_0, pq_1_1, pq_1_2, pq_1_3, pq_1_4, pq_1_5, pq_1_6, pq_1_7, pq_10_0, pq_10_1, pq_10_2, pq_10_3, pq_15_0, pq_17_0, pq_19_0, pq_21_0, pq_21_1, pq_21_2, pq_21_3, pq_21_4, pq_21_5, pq_28_0, pq_30_0, pq_30_1, pq_30_2, pq_31_0, pq_35_0, pq_35_1, pq_35_2, pq_36_0, pq_40_0, pq_40_1, pq_40_2, pq_41_0, pq_45_0, pq_45_1, pq_45_2, pq_46_0, pq_50_0, pq_52_0, pq_52_1, pq_52_2, pq_52_3, pq_52_4, pq_52_5, pq_52_6, pq_52_8, pq_52_10, pq_52_11, pq_52_14, pq_52_15, pq_52_16, pq_52_17, pq_52_18, pq_52_27, pq_52_29, pq_52_30, pq_52_31, pq_52_32, pq_52_33, pq_52_34, pq_52_35, pq_52_36, pq_52_37, pq_52_38, pq_52_39, pq_52_40, pq_52_41, aq_1, aq_11, aq_12, aq_13, aq_14, aq_16, aq_18, aq_20, aq_22, aq_23, aq_24, aq_25, aq_26, aq_27, aq_29, aq_32, aq_33, aq_34, aq_37, aq_38, aq_39, aq_42, aq_43, aq_44, aq_47, aq_48, aq_49, aq_51, aq_53, aq_54, aq_55, aq_56, aq_57, aq_58, aq_59, aq_60, aq_61, aq_62, aq_63, aq_64, aq_65, aq_66, aq_67, aq_68, aq_69, aq_70, aq_71, aq_72, aq_73, aq_74, aq_75, aq_76, aq_77, aq_78, aq_79, aq_80, aq_81]
  · rw [nwS_c hk4] at hi
    have q2 := (hpp i hi4).2
    by_cases h : i = cn T 10
    · rw [h] at ha ⊢
      rw [p2] at ha; cases ha
      rw [nwS_e, n3 _ (by omega), n3 _ (by omega), n3 _ (by omega), n3 _ (by omega)]; exact k3
    · have hne : pp i ≠ pp (cn T 10) := fun h9 => h (hinj i _ hi4 hk4 h9)
      have hz := hEC i a (by omega) hi4 ha
      rw [q2] at ha; cases ha
      have l1 := (hpp i hi4).1
      rw [nwS_k (by omega) (by omega), n3 _ (by omega), n3 _ (by omega), n3 _ (by omega), n3 _ (by omega), k2 _ (by omega) (by omega), k2 _ (by omega) (by omega), k2 _ (by omega) (by omega), k2 _ (by omega) (by omega)]; exact hz
  · rw [g28', nwS_c hk4]
  · rw [n3 _ (by omega), n3 _ (by omega), k2 _ (by omega) (by omega), k2 _ (by omega) (by omega)]; exact D3 k hk
  · rw [n3 _ (by omega), k2 _ (by omega) (by omega)]; exact D4
theorem n40 (hC : wC S z w) (hX : wX S) (hR : rdP z n P data) (hp : p < 8) (hpc : ¬ n2 P 6 % 16384 = 0) (ht : t ≤ 60000) (hf : 1000 < f) : ∃ z' w', F_40 f 28 15 (nI p) (nI t) 17 (hq z w c s) = some (.inl (some (.int (okI (jnS S P p data t).2))), hq z' w' c s) ∧ wC (jnS S P p data t).1 z' w' ∧ (∀ b, b < 28 → b ≠ 18 → z' b = z b) ∧ (∀ b, 49 < b → z' b = z b) ∧ ∀ E, (jnS S P p data t).2 = some E → eW E ∧ E 7 = 1 ∧ cb z' 18 (hl (fq E) + er E) (whB E) := by
  have q43 := n43 (f := f) (c := c) (s := s) hR hC.1 hC.2.1 hX.1 (by omega)
  have q44 := n44 (f := f) (w := w) (c := c) (s := s) hR
  unfold jnS
  cases hfd : fd S P with
  | none =>
    rw [hfd] at q43
    dsimp only
    by_cases hw : wrP P data
    · rw [if_pos hw] at q44 ⊢
      refine ⟨z, w, ?_, hC, fun _ _ _ => rfl, fun _ _ => rfl, fun E hE => by cases hE⟩
      simp only [F_40, okI, B_40_35, B_40_47, q43, woI, q44, show ¬ (1 : Int32) = 0 by decide, dg_1, db_1, db_0, dl_1, dp_1, dv_1, dv_x, di_1, di_x, dw_1, ec_eq, ec_ne, ec_lt, ec_ge, ec_gt, ec_le, hq_z, hq_wz, hq_wc, hq_thr, hq_p29, hq_pw, eq_self, decide_true, decide_false, not_true_eq_false, not_false_eq_true, kq_0, kq_1, kq_2, kq_3, kq_4, kq_5, kq_6, kq_7, kq_8, kq_9, kq_10, kq_11, kq_12, kq_13, kq_14, kq_15, kq_16, kq_17, kq_18, kq_19, kq_20, kq_21, kq_22, kq_23, kq_24, kq_25, kq_26, kq_27, kq_28, kq_29, kq_30, kq_31, kq_32, kq_33, kq_34, kq_35, kq_36, kq_37, kq_38, kq_39, kq_40, kq_41, kq_42, kq_43, kq_44, kq_45, kq_46, kq_47, kq_48, kq_49, kq_50, kq_51, kq_52, kq_53, kq_54, kq_55, kq_56, kq_57, kq_58, kq_59, kq_60, kq_61, kq_62, kq_63, kq_64, kq_65, kq_66, kq_67, kq_68, kq_69, kq_70, kq_71, kq_72, kq_73, kq_74, kq_75, kq_76, kq_77, kq_78, kq_79, kq_80, kq_81, pq_0_0, pq_0_1, pq_0_2, pq_0_3, pq_0_4, pq_0_5, pq_0_6, pq_0_7, pq_1_0, pq_1_1, pq_1_2, pq_1_3, pq_1_4, pq_1_5, pq_1_6, pq_1_7, pq_10_0, pq_10_1, pq_10_2, pq_10_3, pq_15_0, pq_17_0, pq_19_0, pq_21_0, pq_21_1, pq_21_2, pq_21_3, pq_21_4, pq_21_5, pq_28_0, pq_30_0, pq_30_1, pq_30_2, pq_31_0, pq_35_0, pq_35_1, pq_35_2, pq_36_0, pq_40_0, pq_40_1, pq_40_2, pq_41_0, pq_45_0, pq_45_1, pq_45_2, pq_46_0, pq_50_0, pq_52_0, pq_52_1, pq_52_2, pq_52_3, pq_52_4, pq_52_5, pq_52_6, pq_52_8, pq_52_10, pq_52_11, pq_52_14, pq_52_15, pq_52_16, pq_52_17, pq_52_18, pq_52_27, pq_52_29, pq_52_30, pq_52_31, pq_52_32, pq_52_33, pq_52_34, pq_52_35, pq_52_36, pq_52_37, pq_52_38, pq_52_39, pq_52_40, pq_52_41, aq_1, aq_11, aq_12, aq_13, aq_14, aq_16, aq_18, aq_20, aq_22, aq_23, aq_24, aq_25, aq_26, aq_27, aq_29, aq_32, aq_33, aq_34, aq_37, aq_38, aq_39, aq_42, aq_43, aq_44, aq_47, aq_48, aq_49, aq_51, aq_53, aq_54, aq_55, aq_56, aq_57, aq_58, aq_59, aq_60, aq_61, aq_62, aq_63, aq_64, aq_65, aq_66, aq_67, aq_68, aq_69, aq_70, aq_71, aq_72, aq_73, aq_74, aq_75, aq_76, aq_77, aq_78, aq_79, aq_80, aq_81]
    · rw [if_neg hw] at q44 ⊢
      obtain ⟨z1, w1, k1, k2, k3, k4⟩ := n45 (f := f) (c := c) (s := s) (t := t) hC hX hR hf
      have hk4 := bg_c hX.1
      have hR1 : rdP z1 n P data := ⟨⟨hR.1.1, fun i hi => by rw [k3 16 (by omega)]; exact hR.1.2 i hi⟩, hR.2.1, by rw [k3 16 (by omega)]; exact hR.2.2.1, hR.2.2.2⟩
      obtain ⟨z2, w2', m1, m2, m3, m4, m5⟩ := n_jn2 (f := f) (c := c) (s := s) (e := cn (bg1 S) 10) k2 (wX_nw (wX_bg hX) hk4 hR.1.1 ht) (by rw [nwS_c hk4]; omega) hR1 hp hw (by rw [nwS_e]; exact rf_nw) hpc hf
      refine ⟨z2, w2', ?_, m2, fun b hb h18 => by rw [m3 b hb h18, k3 b hb], fun b hb => by rw [m4 b hb, k4 b hb], m5⟩
      simp only [F_40, B_40_49, q43, woI, q44, k1, m1, dg_1, db_1, db_0, dl_1, dp_1, dv_1, dv_x, di_1, di_x, dw_1, ec_eq, ec_ne, ec_lt, ec_ge, ec_gt, ec_le, hq_z, hq_wz, hq_wc, hq_thr, hq_p29, hq_pw, eq_self, decide_true, decide_false, not_true_eq_false, not_false_eq_true, kq_0, kq_1, kq_2, kq_3, kq_4, kq_5, kq_6, kq_7, kq_8, kq_9, kq_10, kq_11, kq_12, kq_13, kq_14, kq_15, kq_16, kq_17, kq_18, kq_19, kq_20, kq_21, kq_22, kq_23, kq_24, kq_25, kq_26, kq_27, kq_28, kq_29, kq_30, kq_31, kq_32, kq_33, kq_34, kq_35, kq_36, kq_37, kq_38, kq_39, kq_40, kq_41, kq_42, kq_43, kq_44, kq_45, kq_46, kq_47, kq_48, kq_49, kq_50, kq_51, kq_52, kq_53, kq_54, kq_55, kq_56, kq_57, kq_58, kq_59, kq_60, kq_61, kq_62, kq_63, kq_64, kq_65, kq_66, kq_67, kq_68, kq_69, kq_70, kq_71, kq_72, kq_73, kq_74, kq_75, kq_76, kq_77, kq_78, kq_79, kq_80, kq_81, pq_0_0, pq_0_1, pq_0_2, pq_0_3, pq_0_4, pq_0_5, pq_0_6, pq_0_7, pq_1_0, pq_1_1, pq_1_2, pq_1_3, pq_1_4, pq_1_5, pq_1_6, pq_1_7, pq_10_0, pq_10_1, pq_10_2, pq_10_3, pq_15_0, pq_17_0, pq_19_0, pq_21_0, pq_21_1, pq_21_2, pq_21_3, pq_21_4, pq_21_5, pq_28_0, pq_30_0, pq_30_1, pq_30_2, pq_31_0, pq_35_0, pq_35_1, pq_35_2, pq_36_0, pq_40_0, pq_40_1, pq_40_2, pq_41_0, pq_45_0, pq_45_1, pq_45_2, pq_46_0, pq_50_0, pq_52_0, pq_52_1, pq_52_2, pq_52_3, pq_52_4, pq_52_5, pq_52_6, pq_52_8, pq_52_10, pq_52_11, pq_52_14, pq_52_15, pq_52_16, pq_52_17, pq_52_18, pq_52_27, pq_52_29, pq_52_30, pq_52_31, pq_52_32, pq_52_33, pq_52_34, pq_52_35, pq_52_36, pq_52_37, pq_52_38, pq_52_39, pq_52_40, pq_52_41, aq_1, aq_11, aq_12, aq_13, aq_14, aq_16, aq_18, aq_20, aq_22, aq_23, aq_24, aq_25, aq_26, aq_27, aq_29, aq_32, aq_33, aq_34, aq_37, aq_38, aq_39, aq_42, aq_43, aq_44, aq_47, aq_48, aq_49, aq_51, aq_53, aq_54, aq_55, aq_56, aq_57, aq_58, aq_59, aq_60, aq_61, aq_62, aq_63, aq_64, aq_65, aq_66, aq_67, aq_68, aq_69, aq_70, aq_71, aq_72, aq_73, aq_74, aq_75, aq_76, aq_77, aq_78, aq_79, aq_80, aq_81]
  | some e =>
    rw [hfd] at q43
    dsimp only
    have hb := fdS_b _ _ _ (show fdS S P (cn S 10) 0 = some e from hfd)
    have he : e < cn S 10 := by omega
    have hx1 := hX.1
    have ne1 : ¬ nI e = -1 := by
      intro h
      have h9 : (nI e).toInt = (-1 : Int32).toInt := by rw [h]
      rw [nI_toInt (by omega), show (-1 : Int32).toInt = -1 from rfl] at h9
      omega
    by_cases hw : wrP P data
    · rw [if_pos (Or.inl hw)]
      rw [if_pos hw] at q44
      obtain ⟨z1, w1, k1, k2, k3⟩ := wC_rm (f := f) (c := c) (s := s) (e := e) hC hX he (by omega)
      refine ⟨z1, w1, ?_, k2, fun b hb _ => k3 b (by omega), fun b hb => k3 b (by omega), fun E hE => by cases hE⟩
      simp only [F_40, okI, B_40_35, B_40_47, q43, woI, q44, show ¬ (1 : Int32) = 0 by decide, ne1, k1, dg_1, db_1, db_0, dl_1, dp_1, dv_1, dv_x, di_1, di_x, dw_1, ec_eq, ec_ne, ec_lt, ec_ge, ec_gt, ec_le, hq_z, hq_wz, hq_wc, hq_thr, hq_p29, hq_pw, eq_self, decide_true, decide_false, not_true_eq_false, not_false_eq_true, kq_0, kq_1, kq_2, kq_3, kq_4, kq_5, kq_6, kq_7, kq_8, kq_9, kq_10, kq_11, kq_12, kq_13, kq_14, kq_15, kq_16, kq_17, kq_18, kq_19, kq_20, kq_21, kq_22, kq_23, kq_24, kq_25, kq_26, kq_27, kq_28, kq_29, kq_30, kq_31, kq_32, kq_33, kq_34, kq_35, kq_36, kq_37, kq_38, kq_39, kq_40, kq_41, kq_42, kq_43, kq_44, kq_45, kq_46, kq_47, kq_48, kq_49, kq_50, kq_51, kq_52, kq_53, kq_54, kq_55, kq_56, kq_57, kq_58, kq_59, kq_60, kq_61, kq_62, kq_63, kq_64, kq_65, kq_66, kq_67, kq_68, kq_69, kq_70, kq_71, kq_72, kq_73, kq_74, kq_75, kq_76, kq_77, kq_78, kq_79, kq_80, kq_81, pq_0_0, pq_0_1, pq_0_2, pq_0_3, pq_0_4, pq_0_5, pq_0_6, pq_0_7, pq_1_0, pq_1_1, pq_1_2, pq_1_3, pq_1_4, pq_1_5, pq_1_6, pq_1_7, pq_10_0, pq_10_1, pq_10_2, pq_10_3, pq_15_0, pq_17_0, pq_19_0, pq_21_0, pq_21_1, pq_21_2, pq_21_3, pq_21_4, pq_21_5, pq_28_0, pq_30_0, pq_30_1, pq_30_2, pq_31_0, pq_35_0, pq_35_1, pq_35_2, pq_36_0, pq_40_0, pq_40_1, pq_40_2, pq_41_0, pq_45_0, pq_45_1, pq_45_2, pq_46_0, pq_50_0, pq_52_0, pq_52_1, pq_52_2, pq_52_3, pq_52_4, pq_52_5, pq_52_6, pq_52_8, pq_52_10, pq_52_11, pq_52_14, pq_52_15, pq_52_16, pq_52_17, pq_52_18, pq_52_27, pq_52_29, pq_52_30, pq_52_31, pq_52_32, pq_52_33, pq_52_34, pq_52_35, pq_52_36, pq_52_37, pq_52_38, pq_52_39, pq_52_40, pq_52_41, aq_1, aq_11, aq_12, aq_13, aq_14, aq_16, aq_18, aq_20, aq_22, aq_23, aq_24, aq_25, aq_26, aq_27, aq_29, aq_32, aq_33, aq_34, aq_37, aq_38, aq_39, aq_42, aq_43, aq_44, aq_47, aq_48, aq_49, aq_51, aq_53, aq_54, aq_55, aq_56, aq_57, aq_58, aq_59, aq_60, aq_61, aq_62, aq_63, aq_64, aq_65, aq_66, aq_67, aq_68, aq_69, aq_70, aq_71, aq_72, aq_73, aq_74, aq_75, aq_76, aq_77, aq_78, aq_79, aq_80, aq_81]
    · rw [if_neg hw] at q44
      obtain ⟨pp, hpp, hinj⟩ := hC.1.1
      obtain ⟨p1, p2⟩ := hpp e (by omega)
      have hE := hX.2 e he
      have hCe := hC.1.2 e _ he (by omega) p2
      have q35 := n35 (f := f) (w := w) (c := c) (s := s) p1 hR hE.2.2.2.1.1 hE.2.2.2.1.2 hE.2.2.2.2.1 hCe.1.2.2.2.2.2.1 hCe.1.2.2.2.2.2.2.1
      have ie : ev_in (nI e) 4 = true := ev_in_nI (by omega) (by omega)
      have ce : (nI e).toNatClampNeg = e := nI_clamp (by omega)
      have kk : ∀ z, hp_k (hq z w c s) (30 + 5 * pp e) = some (5, 0) := fun z => (wk p1).1
      by_cases hr : rfE (S (15 + e)) P data
      · rw [if_pos (Or.inr hr)]
        rw [if_pos hr] at q35
        obtain ⟨z1, w1, k1, k2, k3⟩ := wC_rm (f := f) (c := c) (s := s) (e := e) hC hX he (by omega)
        refine ⟨z1, w1, ?_, k2, fun b hb _ => k3 b (by omega), fun b hb => k3 b (by omega), fun E hE => by cases hE⟩
        simp only [F_40, okI, B_40_35, B_40_47, q43, woI, q44, ne1, ie, ce, p2, kk, q35, show ¬ (1 : Int32) = 0 by decide, k1, dg_1, db_1, db_0, dl_1, dp_1, dv_1, dv_x, di_1, di_x, dw_1, ec_eq, ec_ne, ec_lt, ec_ge, ec_gt, ec_le, hq_z, hq_wz, hq_wc, hq_thr, hq_p29, hq_pw, eq_self, decide_true, decide_false, not_true_eq_false, not_false_eq_true, kq_0, kq_1, kq_2, kq_3, kq_4, kq_5, kq_6, kq_7, kq_8, kq_9, kq_10, kq_11, kq_12, kq_13, kq_14, kq_15, kq_16, kq_17, kq_18, kq_19, kq_20, kq_21, kq_22, kq_23, kq_24, kq_25, kq_26, kq_27, kq_28, kq_29, kq_30, kq_31, kq_32, kq_33, kq_34, kq_35, kq_36, kq_37, kq_38, kq_39, kq_40, kq_41, kq_42, kq_43, kq_44, kq_45, kq_46, kq_47, kq_48, kq_49, kq_50, kq_51, kq_52, kq_53, kq_54, kq_55, kq_56, kq_57, kq_58, kq_59, kq_60, kq_61, kq_62, kq_63, kq_64, kq_65, kq_66, kq_67, kq_68, kq_69, kq_70, kq_71, kq_72, kq_73, kq_74, kq_75, kq_76, kq_77, kq_78, kq_79, kq_80, kq_81, pq_0_0, pq_0_1, pq_0_2, pq_0_3, pq_0_4, pq_0_5, pq_0_6, pq_0_7, pq_1_0, pq_1_1, pq_1_2, pq_1_3, pq_1_4, pq_1_5, pq_1_6, pq_1_7, pq_10_0, pq_10_1, pq_10_2, pq_10_3, pq_15_0, pq_17_0, pq_19_0, pq_21_0, pq_21_1, pq_21_2, pq_21_3, pq_21_4, pq_21_5, pq_28_0, pq_30_0, pq_30_1, pq_30_2, pq_31_0, pq_35_0, pq_35_1, pq_35_2, pq_36_0, pq_40_0, pq_40_1, pq_40_2, pq_41_0, pq_45_0, pq_45_1, pq_45_2, pq_46_0, pq_50_0, pq_52_0, pq_52_1, pq_52_2, pq_52_3, pq_52_4, pq_52_5, pq_52_6, pq_52_8, pq_52_10, pq_52_11, pq_52_14, pq_52_15, pq_52_16, pq_52_17, pq_52_18, pq_52_27, pq_52_29, pq_52_30, pq_52_31, pq_52_32, pq_52_33, pq_52_34, pq_52_35, pq_52_36, pq_52_37, pq_52_38, pq_52_39, pq_52_40, pq_52_41, aq_1, aq_11, aq_12, aq_13, aq_14, aq_16, aq_18, aq_20, aq_22, aq_23, aq_24, aq_25, aq_26, aq_27, aq_29, aq_32, aq_33, aq_34, aq_37, aq_38, aq_39, aq_42, aq_43, aq_44, aq_47, aq_48, aq_49, aq_51, aq_53, aq_54, aq_55, aq_56, aq_57, aq_58, aq_59, aq_60, aq_61, aq_62, aq_63, aq_64, aq_65, aq_66, aq_67, aq_68, aq_69, aq_70, aq_71, aq_72, aq_73, aq_74, aq_75, aq_76, aq_77, aq_78, aq_79, aq_80, aq_81]
      · rw [if_neg (by intro h; rcases h with h | h; exact hw h; exact hr h)]
        rw [if_neg hr] at q35
        obtain ⟨z2, w2', m1, m2, m3, m4, m5⟩ := n_jn2 (f := f) (c := c) (s := s) (e := e) hC hX he hR hp hw hr hpc hf
        refine ⟨z2, w2', ?_, m2, m3, m4, m5⟩
        simp only [F_40, B_40_49, q43, woI, q44, ne1, ie, ce, p2, kk, q35, m1, dg_1, db_1, db_0, dl_1, dp_1, dv_1, dv_x, di_1, di_x, dw_1, ec_eq, ec_ne, ec_lt, ec_ge, ec_gt, ec_le, hq_z, hq_wz, hq_wc, hq_thr, hq_p29, hq_pw, eq_self, decide_true, decide_false, not_true_eq_false, not_false_eq_true, kq_0, kq_1, kq_2, kq_3, kq_4, kq_5, kq_6, kq_7, kq_8, kq_9, kq_10, kq_11, kq_12, kq_13, kq_14, kq_15, kq_16, kq_17, kq_18, kq_19, kq_20, kq_21, kq_22, kq_23, kq_24, kq_25, kq_26, kq_27, kq_28, kq_29, kq_30, kq_31, kq_32, kq_33, kq_34, kq_35, kq_36, kq_37, kq_38, kq_39, kq_40, kq_41, kq_42, kq_43, kq_44, kq_45, kq_46, kq_47, kq_48, kq_49, kq_50, kq_51, kq_52, kq_53, kq_54, kq_55, kq_56, kq_57, kq_58, kq_59, kq_60, kq_61, kq_62, kq_63, kq_64, kq_65, kq_66, kq_67, kq_68, kq_69, kq_70, kq_71, kq_72, kq_73, kq_74, kq_75, kq_76, kq_77, kq_78, kq_79, kq_80, kq_81, pq_0_0, pq_0_1, pq_0_2, pq_0_3, pq_0_4, pq_0_5, pq_0_6, pq_0_7, pq_1_0, pq_1_1, pq_1_2, pq_1_3, pq_1_4, pq_1_5, pq_1_6, pq_1_7, pq_10_0, pq_10_1, pq_10_2, pq_10_3, pq_15_0, pq_17_0, pq_19_0, pq_21_0, pq_21_1, pq_21_2, pq_21_3, pq_21_4, pq_21_5, pq_28_0, pq_30_0, pq_30_1, pq_30_2, pq_31_0, pq_35_0, pq_35_1, pq_35_2, pq_36_0, pq_40_0, pq_40_1, pq_40_2, pq_41_0, pq_45_0, pq_45_1, pq_45_2, pq_46_0, pq_50_0, pq_52_0, pq_52_1, pq_52_2, pq_52_3, pq_52_4, pq_52_5, pq_52_6, pq_52_8, pq_52_10, pq_52_11, pq_52_14, pq_52_15, pq_52_16, pq_52_17, pq_52_18, pq_52_27, pq_52_29, pq_52_30, pq_52_31, pq_52_32, pq_52_33, pq_52_34, pq_52_35, pq_52_36, pq_52_37, pq_52_38, pq_52_39, pq_52_40, pq_52_41, aq_1, aq_11, aq_12, aq_13, aq_14, aq_16, aq_18, aq_20, aq_22, aq_23, aq_24, aq_25, aq_26, aq_27, aq_29, aq_32, aq_33, aq_34, aq_37, aq_38, aq_39, aq_42, aq_43, aq_44, aq_47, aq_48, aq_49, aq_51, aq_53, aq_54, aq_55, aq_56, aq_57, aq_58, aq_59, aq_60, aq_61, aq_62, aq_63, aq_64, aq_65, aq_66, aq_67, aq_68, aq_69, aq_70, aq_71, aq_72, aq_73, aq_74, aq_75, aq_76, aq_77, aq_78, aq_79, aq_80, aq_81]
-- what the waits leave alone
theorem rmS_b {e : Nat} : (∀ k, k ≠ 3 → k < 15 → rmS S e k = S k) ∧ ∀ k, k ≠ 10 → rmS S e 3 k = S 3 k := ⟨fun k h3 hk => rmS_k h3 (by omega), fun k hk => rmS_3 hk⟩
theorem jn2_b {e : Nat} : (∀ k, k ≠ 3 → k < 15 → (jn2 S e P p data).1 k = S k) ∧ ∀ k, k ≠ 10 → (jn2 S e P p data).1 3 k = S 3 k := by
  unfold jn2
  split
  · exact ⟨fun k h3 hk => ((rmS_b (e := e)).1 k h3 hk).trans (adS_k (by omega)), fun k hk => ((rmS_b (e := e)).2 k hk).trans (by rw [adS_3])⟩
  · exact ⟨fun k h3 hk => adS_k (by omega), fun k hk => show adS S e P p data 3 k = S 3 k by rw [adS_3]⟩
theorem bg1_b : (∀ k, k ≠ 3 → k < 15 → bg1 S k = S k) ∧ ∀ k, k ≠ 10 → bg1 S 3 k = S 3 k := by
  unfold bg1; split
  · exact ⟨fun _ _ _ => rfl, fun _ _ => rfl⟩
  · exact rmS_b
theorem jnS_b : (∀ k, k ≠ 3 → k < 15 → (jnS S P p data t).1 k = S k) ∧ ∀ k, k ≠ 10 → (jnS S P p data t).1 3 k = S 3 k := by
  unfold jnS
  split
  · split
    · exact rmS_b
    · exact jn2_b
  · split
    · exact ⟨fun _ _ _ => rfl, fun _ _ => rfl⟩
    · exact ⟨fun k h3 hk => by rw [jn2_b.1 k h3 hk, nwS_k h3 (by omega), bg1_b.1 k h3 hk], fun k hk => by rw [jn2_b.2 k hk, nwS_3 hk, bg1_b.2 k hk]⟩
theorem jn2_X {e : Nat} (hX : wX S) (he : e < cn S 10) (hP : ∀ i, P i < 256) (hp : p < 8) (h0 : 20 ≤ hl P) (hdt : n2 P 2 = hl P + data) (hpc : ¬ n2 P 6 % 16384 = 0) (hw : ¬ wrP P data) (hr : ¬ rfE (S (15 + e)) P data) : wX (jn2 S e P p data).1 := by
  have hA : wX (adS S e P p data) := by
    refine ⟨by rw [adS_c]; exact hX.1, fun i hi => ?_⟩
    rw [adS_c] at hi
    by_cases h : i = e
    · rw [h, adS_e]; exact eW_ad (hX.2 e he) hP hp h0 hdt hpc hw hr
    · rw [adS_k (by omega)]; exact hX.2 i hi
  unfold jn2
  split
  · exact wX_rm hA
  · exact hA
theorem jnS_X (hX : wX S) (hP : ∀ i, P i < 256) (hp : p < 8) (h0 : 20 ≤ hl P) (hdt : n2 P 2 = hl P + data) (hpc : ¬ n2 P 6 % 16384 = 0) (ht : t ≤ 60000) : wX (jnS S P p data t).1 := by
  unfold jnS
  cases hfd : fd S P with
  | some e =>
    dsimp only
    have hb := fdS_b _ _ _ (show fdS S P (cn S 10) 0 = some e from hfd)
    by_cases h : wrP P data ∨ rfE (S (15 + e)) P data
    · rw [if_pos h]; exact wX_rm hX
    · rw [if_neg h]; exact jn2_X hX (by omega) hP hp h0 hdt hpc (fun h9 => h (Or.inl h9)) (fun h9 => h (Or.inr h9))
  | none =>
    dsimp only
    have hk4 := bg_c hX.1
    by_cases h : wrP P data
    · rw [if_pos h]; exact hX
    · rw [if_neg h]; exact jn2_X (wX_nw (wX_bg hX) hk4 hP ht) (by rw [nwS_c hk4]; omega) hP hp h0 hdt hpc h (by rw [nwS_e]; exact rf_nw)
end Wait78
