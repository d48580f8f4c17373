-- answers: the class
section Ans66
variable {S : St9} {z : Nat → Nat → Int32} {w : Nat → Option Nat} {f c s p m a r N M data : Nat} {P : Nat → Nat}
abbrev isRq (P : Nat → Nat) (data : Nat) : Prop := 8 ≤ data ∧ P (hl P) = 8 ∧ ck (sN P (hl P) 2 data) = n2 P (hl P + 2)
theorem n23 (hp : pk a r N) (hP : cb z r M P) (hr : ∀ i, br (z r i)) (hM : M ≤ N) (hN : N < 10000) (h0 : 20 ≤ hl P) (hd : n2 P 2 = hl P + data) (hMq : hl P + data ≤ M) (hf : 20000 < f) : F_23 f a (hq z w c s) = some (.inl (some (.int (if isRq P data then 1 else 0))), hq z w c s) := by
  have hl6 := hl_le P
  have q10 := n10 (f := f) (w := w) (c := c) (s := s) hp hP hM hN (by omega) (by omega)
  rw [show n2 P 2 - hl P = data by omega] at q10
  have q8 := n8 (f := f) (w := w) (c := c) (s := s) hp hP hM hN (by omega)
  by_cases h1 : 8 ≤ data
  case neg =>
    have h1' : nI data < 8 := nI_lt (b := 8) (by omega) (by omega)
    rw [if_neg (fun h => h1 h.1)]
    simp only [F_23, B_23_56, B_23_57, (hp _ _ _ _).1, q8, q10, h1', show dzb 0 = true from rfl, dg_1, db_1, db_0, dl_1, dp_1, dv_1, dv_x, di_1, di_x, dw_1, ec_eq, ec_ne, ec_lt, ec_ge, ec_gt, ec_le, hq_z, hq_wz, hq_wc, hq_thr, hq_p29, hq_pw, eq_self, decide_true, decide_false, not_true_eq_false, not_false_eq_true, kq_0, kq_1, kq_2, kq_3, kq_4, kq_5, kq_6, kq_7, kq_8, kq_9, kq_10, kq_11, kq_12, kq_13, kq_14, kq_15, kq_16, kq_17, kq_18, kq_19, kq_20, kq_21, kq_22, kq_23, kq_24, kq_25, kq_26, kq_27, kq_28, kq_29, kq_30, kq_31, kq_32, kq_33, kq_34, kq_35, kq_36, kq_37, kq_38, kq_39, kq_40, kq_41, kq_42, kq_43, kq_44, kq_45, kq_46, kq_47, kq_48, kq_49, kq_50, kq_51, kq_52, kq_53, kq_54, kq_55, kq_56, kq_57, kq_58, kq_59, kq_60, kq_61, kq_62, kq_63, kq_64, kq_65, kq_66, kq_67, kq_68, kq_69, kq_70, kq_71, kq_72, kq_73, kq_74, kq_75, kq_76, kq_77, kq_78, kq_79, kq_80, kq_81, pq_0_0, pq_0_1, pq_0_2, pq_0_3, pq_0_4, pq_0_5, pq_0_6, pq_0_7, pq_1_0, pq_1_1, pq_1_2, pq_1_3, pq_1_4, pq_1_5, pq_1_6, pq_1_7, pq_10_0, pq_10_1, pq_10_2, pq_10_3, pq_15_0, pq_17_0, pq_19_0, pq_21_0, pq_21_1, pq_21_2, pq_21_3, pq_21_4, pq_21_5, pq_28_0, pq_30_0, pq_30_1, pq_30_2, pq_31_0, pq_35_0, pq_35_1, pq_35_2, pq_36_0, pq_40_0, pq_40_1, pq_40_2, pq_41_0, pq_45_0, pq_45_1, pq_45_2, pq_46_0, pq_50_0, pq_52_0, pq_52_1, pq_52_2, pq_52_3, pq_52_4, pq_52_5, pq_52_6, pq_52_8, pq_52_10, pq_52_11, pq_52_14, pq_52_15, pq_52_16, pq_52_17, pq_52_18, pq_52_27, pq_52_29, pq_52_30, pq_52_31, pq_52_32, pq_52_33, pq_52_34, pq_52_35, pq_52_36, pq_52_37, pq_52_38, pq_52_39, pq_52_40, pq_52_41, aq_1, aq_11, aq_12, aq_13, aq_14, aq_16, aq_18, aq_20, aq_22, aq_23, aq_24, aq_25, aq_26, aq_27, aq_29, aq_32, aq_33, aq_34, aq_37, aq_38, aq_39, aq_42, aq_43, aq_44, aq_47, aq_48, aq_49, aq_51, aq_53, aq_54, aq_55, aq_56, aq_57, aq_58, aq_59, aq_60, aq_61, aq_62, aq_63, aq_64, aq_65, aq_66, aq_67, aq_68, aq_69, aq_70, aq_71, aq_72, aq_73, aq_74, aq_75, aq_76, aq_77, aq_78, aq_79, aq_80, aq_81]
  have h1' : ¬ nI data < 8 := nI_nlt (b := 8) (by omega) (by omega)
  have a1 : aib 65 (hq z w c s) r (nI (hl P)) = true := aib_nI (hp _ _ _ _).2.2 (by omega) (by omega)
  have c1 : (nI (hl P)).toNatClampNeg = hl P := nI_clamp (by omega)
  have sb := sb_all (hr (hl P)) (hP.2 (hl P) (by omega)) (hP.1 _)
  by_cases h2 : P (hl P) = 8
  case neg =>
    have h2' : ¬ z r (hl P) = 8 := fun h => h2 (sb.2.2.1.mp h)
    rw [if_neg (fun h => h2 h.2.1)]
    simp only [F_23, B_23_56, B_23_57, (hp _ _ _ _).1, (hp _ _ _ _).2.1, q8, q10, h1', a1, c1, h2', show dzb 0 = true from rfl, dg_1, db_1, db_0, dl_1, dp_1, dv_1, dv_x, di_1, di_x, dw_1, ec_eq, ec_ne, ec_lt, ec_ge, ec_gt, ec_le, hq_z, hq_wz, hq_wc, hq_thr, hq_p29, hq_pw, eq_self, decide_true, decide_false, not_true_eq_false, not_false_eq_true, kq_0, kq_1, kq_2, kq_3, kq_4, kq_5, kq_6, kq_7, kq_8, kq_9, kq_10, kq_11, kq_12, kq_13, kq_14, kq_15, kq_16, kq_17, kq_18, kq_19, kq_20, kq_21, kq_22, kq_23, kq_24, kq_25, kq_26, kq_27, kq_28, kq_29, kq_30, kq_31, kq_32, kq_33, kq_34, kq_35, kq_36, kq_37, kq_38, kq_39, kq_40, kq_41, kq_42, kq_43, kq_44, kq_45, kq_46, kq_47, kq_48, kq_49, kq_50, kq_51, kq_52, kq_53, kq_54, kq_55, kq_56, kq_57, kq_58, kq_59, kq_60, kq_61, kq_62, kq_63, kq_64, kq_65, kq_66, kq_67, kq_68, kq_69, kq_70, kq_71, kq_72, kq_73, kq_74, kq_75, kq_76, kq_77, kq_78, kq_79, kq_80, kq_81, pq_0_0, pq_0_1, pq_0_2, pq_0_3, pq_0_4, pq_0_5, pq_0_6, pq_0_7, pq_1_0, pq_1_1, pq_1_2, pq_1_3, pq_1_4, pq_1_5, pq_1_6, pq_1_7, pq_10_0, pq_10_1, pq_10_2, pq_10_3, pq_15_0, pq_17_0, pq_19_0, pq_21_0, pq_21_1, pq_21_2, pq_21_3, pq_21_4, pq_21_5, pq_28_0, pq_30_0, pq_30_1, pq_30_2, pq_31_0, pq_35_0, pq_35_1, pq_35_2, pq_36_0, pq_40_0, pq_40_1, pq_40_2, pq_41_0, pq_45_0, pq_45_1, pq_45_2, pq_46_0, pq_50_0, pq_52_0, pq_52_1, pq_52_2, pq_52_3, pq_52_4, pq_52_5, pq_52_6, pq_52_8, pq_52_10, pq_52_11, pq_52_14, pq_52_15, pq_52_16, pq_52_17, pq_52_18, pq_52_27, pq_52_29, pq_52_30, pq_52_31, pq_52_32, pq_52_33, pq_52_34, pq_52_35, pq_52_36, pq_52_37, pq_52_38, pq_52_39, pq_52_40, pq_52_41, aq_1, aq_11, aq_12, aq_13, aq_14, aq_16, aq_18, aq_20, aq_22, aq_23, aq_24, aq_25, aq_26, aq_27, aq_29, aq_32, aq_33, aq_34, aq_37, aq_38, aq_39, aq_42, aq_43, aq_44, aq_47, aq_48, aq_49, aq_51, aq_53, aq_54, aq_55, aq_56, aq_57, aq_58, aq_59, aq_60, aq_61, aq_62, aq_63, aq_64, aq_65, aq_66, aq_67, aq_68, aq_69, aq_70, aq_71, aq_72, aq_73, aq_74, aq_75, aq_76, aq_77, aq_78, aq_79, aq_80, aq_81]
  have h2' : z r (hl P) = 8 := sb.2.2.1.mpr h2
  have q123 := t123 (f := f) (N := N) (at_ := hl P) (sk := 2) (n := data) (z := z) (w := w) (c := c) (s := s) (B := P) (fun z => (hp z w c s).2.2) (by omega) (by omega) (by omega) hP.1 (fun i _ h => hP.2 i (by omega)) (by omega)
  have q119 := n119 (f := f) (t := hl P + 2) (w := w) (c := c) (s := s) (hp z w c s).2.2 hP hM hN (by omega)
  have l1 := ck_lt (sN P (hl P) 2 data)
  have l2 := n2_lt hP.1 (hl P + 2)
  by_cases h3 : ck (sN P (hl P) 2 data) = n2 P (hl P + 2)
  · rw [if_pos ⟨h1, h2, h3⟩]
    rw [h3] at q123
    simp only [F_23, B_23_56, B_23_57, (hp _ _ _ _).1, (hp _ _ _ _).2.1, q8, q10, h1', a1, c1, h2', nI_k2, q123, q119, show dzb 1 = true from rfl, dg_1, db_1, db_0, dl_1, dp_1, dv_1, dv_x, di_1, di_x, dw_1, ec_eq, ec_ne, ec_lt, ec_ge, ec_gt, ec_le, hq_z, hq_wz, hq_wc, hq_thr, hq_p29, hq_pw, eq_self, decide_true, decide_false, not_true_eq_false, not_false_eq_true, kq_0, kq_1, kq_2, kq_3, kq_4, kq_5, kq_6, kq_7, kq_8, kq_9, kq_10, kq_11, kq_12, kq_13, kq_14, kq_15, kq_16, kq_17, kq_18, kq_19, kq_20, kq_21, kq_22, kq_23, kq_24, kq_25, kq_26, kq_27, kq_28, kq_29, kq_30, kq_31, kq_32, kq_33, kq_34, kq_35, kq_36, kq_37, kq_38, kq_39, kq_40, kq_41, kq_42, kq_43, kq_44, kq_45, kq_46, kq_47, kq_48, kq_49, kq_50, kq_51, kq_52, kq_53, kq_54, kq_55, kq_56, kq_57, kq_58, kq_59, kq_60, kq_61, kq_62, kq_63, kq_64, kq_65, kq_66, kq_67, kq_68, kq_69, kq_70, kq_71, kq_72, kq_73, kq_74, kq_75, kq_76, kq_77, kq_78, kq_79, kq_80, kq_81, pq_0_0, pq_0_1, pq_0_2, pq_0_3, pq_0_4, pq_0_5, pq_0_6, pq_0_7, pq_1_0, pq_1_1, pq_1_2, pq_1_3, pq_1_4, pq_1_5, pq_1_6, pq_1_7, pq_10_0, pq_10_1, pq_10_2, pq_10_3, pq_15_0, pq_17_0, pq_19_0, pq_21_0, pq_21_1, pq_21_2, pq_21_3, pq_21_4, pq_21_5, pq_28_0, pq_30_0, pq_30_1, pq_30_2, pq_31_0, pq_35_0, pq_35_1, pq_35_2, pq_36_0, pq_40_0, pq_40_1, pq_40_2, pq_41_0, pq_45_0, pq_45_1, pq_45_2, pq_46_0, pq_50_0, pq_52_0, pq_52_1, pq_52_2, pq_52_3, pq_52_4, pq_52_5, pq_52_6, pq_52_8, pq_52_10, pq_52_11, pq_52_14, pq_52_15, pq_52_16, pq_52_17, pq_52_18, pq_52_27, pq_52_29, pq_52_30, pq_52_31, pq_52_32, pq_52_33, pq_52_34, pq_52_35, pq_52_36, pq_52_37, pq_52_38, pq_52_39, pq_52_40, pq_52_41, aq_1, aq_11, aq_12, aq_13, aq_14, aq_16, aq_18, aq_20, aq_22, aq_23, aq_24, aq_25, aq_26, aq_27, aq_29, aq_32, aq_33, aq_34, aq_37, aq_38, aq_39, aq_42, aq_43, aq_44, aq_47, aq_48, aq_49, aq_51, aq_53, aq_54, aq_55, aq_56, aq_57, aq_58, aq_59, aq_60, aq_61, aq_62, aq_63, aq_64, aq_65, aq_66, aq_67, aq_68, aq_69, aq_70, aq_71, aq_72, aq_73, aq_74, aq_75, aq_76, aq_77, aq_78, aq_79, aq_80, aq_81]
  · have h3' : ¬ nI (ck (sN P (hl P) 2 data)) = nI (n2 P (hl P + 2)) := fun h => h3 ((nI_eq (by omega) (by omega)).mp h)
    rw [if_neg (fun h => h3 h.2.2)]
    simp only [F_23, B_23_56, B_23_57, (hp _ _ _ _).1, (hp _ _ _ _).2.1, q8, q10, h1', a1, c1, h2', nI_k2, q123, q119, h3', show dzb 0 = true from rfl, dg_1, db_1, db_0, dl_1, dp_1, dv_1, dv_x, di_1, di_x, dw_1, ec_eq, ec_ne, ec_lt, ec_ge, ec_gt, ec_le, hq_z, hq_wz, hq_wc, hq_thr, hq_p29, hq_pw, eq_self, decide_true, decide_false, not_true_eq_false, not_false_eq_true, kq_0, kq_1, kq_2, kq_3, kq_4, kq_5, kq_6, kq_7, kq_8, kq_9, kq_10, kq_11, kq_12, kq_13, kq_14, kq_15, kq_16, kq_17, kq_18, kq_19, kq_20, kq_21, kq_22, kq_23, kq_24, kq_25, kq_26, kq_27, kq_28, kq_29, kq_30, kq_31, kq_32, kq_33, kq_34, kq_35, kq_36, kq_37, kq_38, kq_39, kq_40, kq_41, kq_42, kq_43, kq_44, kq_45, kq_46, kq_47, kq_48, kq_49, kq_50, kq_51, kq_52, kq_53, kq_54, kq_55, kq_56, kq_57, kq_58, kq_59, kq_60, kq_61, kq_62, kq_63, kq_64, kq_65, kq_66, kq_67, kq_68, kq_69, kq_70, kq_71, kq_72, kq_73, kq_74, kq_75, kq_76, kq_77, kq_78, kq_79, kq_80, kq_81, pq_0_0, pq_0_1, pq_0_2, pq_0_3, pq_0_4, pq_0_5, pq_0_6, pq_0_7, pq_1_0, pq_1_1, pq_1_2, pq_1_3, pq_1_4, pq_1_5, pq_1_6, pq_1_7, pq_10_0, pq_10_1, pq_10_2, pq_10_3, pq_15_0, pq_17_0, pq_19_0, pq_21_0, pq_21_1, pq_21_2, pq_21_3, pq_21_4, pq_21_5, pq_28_0, pq_30_0, pq_30_1, pq_30_2, pq_31_0, pq_35_0, pq_35_1, pq_35_2, pq_36_0, pq_40_0, pq_40_1, pq_40_2, pq_41_0, pq_45_0, pq_45_1, pq_45_2, pq_46_0, pq_50_0, pq_52_0, pq_52_1, pq_52_2, pq_52_3, pq_52_4, pq_52_5, pq_52_6, pq_52_8, pq_52_10, pq_52_11, pq_52_14, pq_52_15, pq_52_16, pq_52_17, pq_52_18, pq_52_27, pq_52_29, pq_52_30, pq_52_31, pq_52_32, pq_52_33, pq_52_34, pq_52_35, pq_52_36, pq_52_37, pq_52_38, pq_52_39, pq_52_40, pq_52_41, aq_1, aq_11, aq_12, aq_13, aq_14, aq_16, aq_18, aq_20, aq_22, aq_23, aq_24, aq_25, aq_26, aq_27, aq_29, aq_32, aq_33, aq_34, aq_37, aq_38, aq_39, aq_42, aq_43, aq_44, aq_47, aq_48, aq_49, aq_51, aq_53, aq_54, aq_55, aq_56, aq_57, aq_58, aq_59, aq_60, aq_61, aq_62, aq_63, aq_64, aq_65, aq_66, aq_67, aq_68, aq_69, aq_70, aq_71, aq_72, aq_73, aq_74, aq_75, aq_76, aq_77, aq_78, aq_79, aq_80, aq_81]
def anD (P : Nat → Nat) : Nat → Nat := fun i => if i = 0 then 0 else P (hl P + i)
def anS (S : St9) (p : Nat) (P : Nat → Nat) (data : Nat) : St9 := if S 2 p = 0 then S else sdS (rpS S) (rpB (vL data) (cn S 4) (n4 P 16) (n4 P 12) data (anD P)) data (mtN S p) (nI p) 0
theorem cap_a {m data : Nat} (hm : 100 ≤ m) (hd : data ≤ 4000) : capS 0 0 20 ((m - 20) / 8 * 8) data := by
  intro k hk
  have h3 : 80 ≤ (m - 20) / 8 * 8 := by omega
  have h5 : k * 80 ≤ k * ((m - 20) / 8 * 8) := Nat.mul_le_mul_left _ h3
  have : k < 50 := by omega
  have : (k + 1) * 20 = k * 20 + 20 := by omega
  omega
theorem n70 (hE : cE S z) (hW : wE S) (hpt : p < 8) (hp : pk a r N) (hP : cb z r M P) (hr : ∀ i, br (z r i)) (hM : M ≤ N) (hN : N < 10000) (hrr : 0 < r ∧ (r < 20 ∨ 27 < r)) (h0 : 20 ≤ hl P) (hd : n2 P 2 = hl P + data) (hMq : hl P + data ≤ M) (hd8 : 8 ≤ data) (hd4 : data ≤ 4000) (h2 : cn S 2 = 0) (h11 : cn S 11 = 0) (hf : 20000 < f) : ∃ z', F_70 f 0 a (nI p) (hq z w c s) = some (.inl none, hq z' w c s) ∧ cE (anS S p P data) z' ∧ (∀ a, a ≠ 0 → a < 20 ∨ 27 < a → z' a = z a) ∧ ∀ k, k ≠ 9 → z' 0 k = z 0 k := by
  have hl6 := hl_le P
  have ip : ev_in (nI p) 8 = true := ev_in_nI hpt (by omega)
  have cp : (nI p).toNatClampNeg = p := nI_clamp (by omega)
  have hE' := hE
  have hW' := hW
  obtain ⟨E1, E2, E3, E4, E5, E6⟩ := hE
  have g2 := (E1 p hpt).2.2
  by_cases hx : S 2 p = 0
  · refine ⟨z, ?_, ?_, fun _ _ _ => rfl, fun _ _ => rfl⟩
    · simp only [F_70, ip, cp, (prt hpt).1, (prt hpt).2, g2, hx, dg_1, db_1, db_0, dl_1, dp_1, dv_1, dv_x, di_1, di_x, dw_1, ec_eq, ec_ne, ec_lt, ec_ge, ec_gt, ec_le, hq_z, hq_wz, hq_wc, hq_thr, hq_p29, hq_pw, eq_self, decide_true, decide_false, not_true_eq_false, not_false_eq_true, kq_0, kq_1, kq_2, kq_3, kq_4, kq_5, kq_6, kq_7, kq_8, kq_9, kq_10, kq_11, kq_12, kq_13, kq_14, kq_15, kq_16, kq_17, kq_18, kq_19, kq_20, kq_21, kq_22, kq_23, kq_24, kq_25, kq_26, kq_27, kq_28, kq_29, kq_30, kq_31, kq_32, kq_33, kq_34, kq_35, kq_36, kq_37, kq_38, kq_39, kq_40, kq_41, kq_42, kq_43, kq_44, kq_45, kq_46, kq_47, kq_48, kq_49, kq_50, kq_51, kq_52, kq_53, kq_54, kq_55, kq_56, kq_57, kq_58, kq_59, kq_60, kq_61, kq_62, kq_63, kq_64, kq_65, kq_66, kq_67, kq_68, kq_69, kq_70, kq_71, kq_72, kq_73, kq_74, kq_75, kq_76, kq_77, kq_78, kq_79, kq_80, kq_81, pq_0_0, pq_0_1, pq_0_2, pq_0_3, pq_0_4, pq_0_5, pq_0_6, pq_0_7, pq_1_0, pq_1_1, pq_1_2, pq_1_3, pq_1_4, pq_1_5, pq_1_6, pq_1_7, pq_10_0, pq_10_1, pq_10_2, pq_10_3, pq_15_0, pq_17_0, pq_19_0, pq_21_0, pq_21_1, pq_21_2, pq_21_3, pq_21_4, pq_21_5, pq_28_0, pq_30_0, pq_30_1, pq_30_2, pq_31_0, pq_35_0, pq_35_1, pq_35_2, pq_36_0, pq_40_0, pq_40_1, pq_40_2, pq_41_0, pq_45_0, pq_45_1, pq_45_2, pq_46_0, pq_50_0, pq_52_0, pq_52_1, pq_52_2, pq_52_3, pq_52_4, pq_52_5, pq_52_6, pq_52_8, pq_52_10, pq_52_11, pq_52_14, pq_52_15, pq_52_16, pq_52_17, pq_52_18, pq_52_27, pq_52_29, pq_52_30, pq_52_31, pq_52_32, pq_52_33, pq_52_34, pq_52_35, pq_52_36, pq_52_37, pq_52_38, pq_52_39, pq_52_40, pq_52_41, aq_1, aq_11, aq_12, aq_13, aq_14, aq_16, aq_18, aq_20, aq_22, aq_23, aq_24, aq_25, aq_26, aq_27, aq_29, aq_32, aq_33, aq_34, aq_37, aq_38, aq_39, aq_42, aq_43, aq_44, aq_47, aq_48, aq_49, aq_51, aq_53, aq_54, aq_55, aq_56, aq_57, aq_58, aq_59, aq_60, aq_61, aq_62, aq_63, aq_64, aq_65, aq_66, aq_67, aq_68, aq_69, aq_70, aq_71, aq_72, aq_73, aq_74, aq_75, aq_76, aq_77, aq_78, aq_79, aq_80, aq_81]
    · unfold anS; rw [if_pos hx]; exact hE'
  have q10 := n10 (f := f) (w := w) (c := c) (s := s) hp hP hM hN (by omega) (by omega)
  rw [show n2 P 2 - hl P = data by omega] at q10
  have q8 := n8 (f := f) (w := w) (c := c) (s := s) hp hP hM hN (by omega)
  obtain ⟨z1, e1⟩ : ∃ x, x = cpz z 20 r (hl P) 20 data := ⟨_, rfl⟩
  have n1 : ∀ a, a ≠ 20 → z1 a = z a := fun a ha => by rw [e1]; exact cpz_ne ha
  have ca : acb 65 (hq z w c s) r (nI (hl P)) 20 20 (nI data) = true := acb_n (v := 20) (hp _ _ _ _).2.2 kq_20 (by omega) (by omega) (by omega) (by omega)
  have wa : wc (hq z w c s) r (nI (hl P)) 20 20 (nI data) = hq z1 w c s := by rw [e1]; exact hq_cp (v := 20) (by omega) (by omega) (by omega)
  obtain ⟨z2, e2⟩ : ∃ x, x = va_up z1 20 (upd (z1 20) 20 0) := ⟨_, rfl⟩
  have n2' : ∀ a, a ≠ 20 → z2 a = z a := fun a ha => by rw [e2, va_up_ne _ _ ha, n1 a ha]
  have i20 : ev_in 20 4020 = true := by decide
  have c20 : Int32.toNatClampNeg 20 = 20 := rfl
  have hv : vp_nar .byte (0 : Int32) = 0 := by rw [vp_nar_byte]; rfl
  have hP2 : cb z2 r M P := ⟨hP.1, fun i hi => by rw [n2' r (by omega)]; exact hP.2 i hi⟩
  have q18 := n18 (f := f) (w := w) (c := c) (s := s) hp hP2 hM hN (by omega)
  have q19 := n19 (f := f) (w := w) (c := c) (s := s) hp hP2 hM hN (by omega)
  have hE2 : cE S z2 := by
    refine ⟨fun i hi => ?_, ?_, ?_, ?_, ?_, ?_⟩
    · rw [n2' (2 + i) (by omega)]; exact E1 i hi
    · rw [n2' 0 (by omega)]; exact E2
    · rw [n2' 0 (by omega)]; exact E3
    · exact OB_S E4 rfl rfl (fun k _ _ => rfl) (fun a h3 h4 => n2' a (by omega))
    · rw [e2, va_up_self]
      refine br_upd ?_ (by unfold br; decide)
      rw [e1]; exact br_cpz E5 hr
    · rw [n2' 27 (by omega)]; exact E6
  have hb2 : ∀ i, i < data → bz z2 20 (20 + i) = anD P i := by
    intro i hi
    rw [e2, bz_up (g := fun _ => 0) (b := 0) (by omega) (by decide)]
    unfold b1 anD
    by_cases h : i = 0
    · rw [if_pos (by omega), if_pos h]
    · rw [if_neg (by omega), if_neg h, e1, bz_cpz, if_pos (by omega), show hl P + (20 + i - 20) = hl P + i by omega]
      exact bz_of (hP.1 _) (hP.2 _ (by omega))
  have hmt := mtN_e hW' hpt
  obtain ⟨z5, k1, k2, k3, k4⟩ := n71 (f := f) (w := w) (c := c) (s := s) (S := S) (p := p) (len := data) (src := n4 P 16) (dst := n4 P 12) (m := mtN S p) (D := anD P) hE2 hW' hpt hd4 (by omega) hmt.1 hmt.2.1 hmt.2.2 (n4_lt hP.1 16) (n4_lt hP.1 12) (fun i => by unfold anD; split; omega; exact hP.1 _) hb2 (by rw [h2, h11]; exact cap_a hmt.2.1 hd4) hf
  refine ⟨z5, ?_, ?_, fun a h0 ha => by rw [k3 a h0 ha, n2' a (by omega)], fun k h9 => by rw [k4 k h9, n2' 0 (by omega)]⟩
  · simp only [F_70, ip, cp, (prt hpt).1, (prt hpt).2, g2, hx, (hp _ _ _ _).1, (hp _ _ _ _).2.1, q8, q10, ca, wa, i20, c20, hv, ← e2, q18, q19, k1, dg_1, db_1, db_0, dl_1, dp_1, dv_1, dv_x, di_1, di_x, dw_1, ec_eq, ec_ne, ec_lt, ec_ge, ec_gt, ec_le, hq_z, hq_wz, hq_thr, hq_p29, hq_pw, eq_self, decide_true, decide_false, not_true_eq_false, not_false_eq_true, kq_0, kq_1, kq_2, kq_3, kq_4, kq_5, kq_6, kq_7, kq_8, kq_9, kq_10, kq_11, kq_12, kq_13, kq_14, kq_15, kq_16, kq_17, kq_18, kq_19, kq_20, kq_21, kq_22, kq_23, kq_24, kq_25, kq_26, kq_27, kq_28, kq_29, kq_30, kq_31, kq_32, kq_33, kq_34, kq_35, kq_36, kq_37, kq_38, kq_39, kq_40, kq_41, kq_42, kq_43, kq_44, kq_45, kq_46, kq_47, kq_48, kq_49, kq_50, kq_51, kq_52, kq_53, kq_54, kq_55, kq_56, kq_57, kq_58, kq_59, kq_60, kq_61, kq_62, kq_63, kq_64, kq_65, kq_66, kq_67, kq_68, kq_69, kq_70, kq_71, kq_72, kq_73, kq_74, kq_75, kq_76, kq_77, kq_78, kq_79, kq_80, kq_81, pq_0_0, pq_0_1, pq_0_2, pq_0_3, pq_0_4, pq_0_5, pq_0_6, pq_0_7, pq_1_0, pq_1_1, pq_1_2, pq_1_3, pq_1_4, pq_1_5, pq_1_6, pq_1_7, pq_10_0, pq_10_1, pq_10_2, pq_10_3, pq_15_0, pq_17_0, pq_19_0, pq_21_0, pq_21_1, pq_21_2, pq_21_3, pq_21_4, pq_21_5, pq_28_0, pq_30_0, pq_30_1, pq_30_2, pq_31_0, pq_35_0, pq_35_1, pq_35_2, pq_36_0, pq_40_0, pq_40_1, pq_40_2, pq_41_0, pq_45_0, pq_45_1, pq_45_2, pq_46_0, pq_50_0, pq_52_0, pq_52_1, pq_52_2, pq_52_3, pq_52_4, pq_52_5, pq_52_6, pq_52_8, pq_52_10, pq_52_11, pq_52_14, pq_52_15, pq_52_16, pq_52_17, pq_52_18, pq_52_27, pq_52_29, pq_52_30, pq_52_31, pq_52_32, pq_52_33, pq_52_34, pq_52_35, pq_52_36, pq_52_37, pq_52_38, pq_52_39, pq_52_40, pq_52_41, aq_1, aq_11, aq_12, aq_13, aq_14, aq_16, aq_18, aq_20, aq_22, aq_23, aq_24, aq_25, aq_26, aq_27, aq_29, aq_32, aq_33, aq_34, aq_37, aq_38, aq_39, aq_42, aq_43, aq_44, aq_47, aq_48, aq_49, aq_51, aq_53, aq_54, aq_55, aq_56, aq_57, aq_58, aq_59, aq_60, aq_61, aq_62, aq_63, aq_64, aq_65, aq_66, aq_67, aq_68, aq_69, aq_70, aq_71, aq_72, aq_73, aq_74, aq_75, aq_76, aq_77, aq_78, aq_79, aq_80, aq_81]
  · unfold anS; rw [if_neg hx]; exact k2
end Ans66
