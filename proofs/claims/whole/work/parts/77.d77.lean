-- waits of the class: complete, write, begin, completes
section Wait77
def ebN (E : Nat → Int32) : Nat → Nat := fun i => (E (1000 + i)).toNatClampNeg % 256
def whR (E : Nat → Int32) : Nat → Nat := bu2 (bu2 (hp2 (fq E) (ebN E) (hl (fq E)) 0) 2 (hl (fq E) + er E)) 6 (n2 (fq E) 6 - n2 (fq E) 6 / 8192 % 2 * 8192)
def whB (E : Nat → Int32) : Nat → Nat := bu2 (whR E) 10 (ck (sN (whR E) 0 10 (hl (fq E))))
theorem eb_lt (E : Nat → Int32) : ∀ i, ebN E i < 256 := fun i => by unfold ebN; omega
theorem whR_lt (E : Nat → Int32) : ∀ i, whR E i < 256 := bu2_lt (bu2_lt (hp2_lt (fq_lt E) (eb_lt E) _ _) _) _
theorem whB_lt (E : Nat → Int32) : ∀ i, whB E i < 256 := bu2_lt (whR_lt E) _
theorem wh_h (E : Nat → Int32) (h0 : 20 ≤ hl (fq E)) : hl (whB E) = hl (fq E) := by
  unfold whB whR; rw [hl_u2 (by omega), hl_u2 (by omega), hl_u2 (by omega), hl_p2 (by omega)]
theorem wh_2 (E : Nat → Int32) (h : er E ≤ 4000) : n2 (whB E) 2 = hl (fq E) + er E := by
  have h6 := hl_le (fq E)
  unfold n2 whB whR
  rw [bu2_ne (by omega), bu2_ne (by omega), bu2_ne (t := 10) (by omega), bu2_ne (t := 6) (by omega)]
  have e1 : ∀ B v, bu2 B 2 v 2 = v / 256 % 256 := fun B v => by unfold bu2 b1; rw [if_neg (by omega), if_pos rfl]
  have e2 : ∀ B v, bu2 B 2 v (2 + 1) = v % 256 := fun B v => by unfold bu2 b1; rw [if_pos rfl]
  rw [e1, e2]; omega
theorem and_nm {X : Nat} (hX : X < 65536) : nI X &&& (-8193 : Int32) = nI (X - X / 8192 % 2 * 8192) := by
  apply Int32.toBitVec_inj.mp
  apply BitVec.eq_of_toNat_eq
  rw [Int32.toBitVec_and, nI_bv, nI_bv, BitVec.toNat_and, BitVec.toNat_ofNat, BitVec.toNat_ofNat, Nat.mod_eq_of_lt (by omega), Nat.mod_eq_of_lt (by omega), show (-8193 : Int32).toBitVec.toNat = 4294959103 from rfl]
  have h1 : (X &&& 4294959103) / 2 ^ 13 = X / 2 ^ 13 &&& 4294959103 / 2 ^ 13 := Nat.and_div_two_pow
  have h2 : (X &&& 4294959103) % 2 ^ 13 = X % 2 ^ 13 &&& 4294959103 % 2 ^ 13 := Nat.and_mod_two_pow
  rw [show 4294959103 % 2 ^ 13 = 2 ^ 13 - 1 from rfl, Nat.and_two_pow_sub_one_eq_mod] at h2
  have h3 : X / 2 ^ 13 < 8 := by omega
  have h4 : ∀ u : Fin 8, u.val &&& 4294959103 / 2 ^ 13 = u.val / 2 * 2 := by decide
  have h5 := h4 ⟨X / 2 ^ 13, h3⟩
  dsimp only at h5
  rw [h5] at h1
  omega
variable {S : St9} {z : Nat → Nat → Int32} {w : Nat → Option Nat} {f c s n data j p t : Nat} {P : Nat → Nat} {E : Nat → Int32}
theorem n37 (hj : j < 4) (hE : eW E) (hC : eC E (z (30 + 5 * j)) (z (30 + 5 * j + 2)) (z (30 + 5 * j + 3)) (z (30 + 5 * j + 4))) : F_37 f (30 + 5 * j) (hq z w c s) = some (.inl (some (.int (if cpE E then 1 else 0))), hq z w c s) := by
  obtain ⟨⟨-, -, -, -, -, c11, c12, -, c10⟩, -⟩ := hC
  have kk := (wk (z := z) (w := w) (c := c) (s := s) hj).1
  have hu := uc_le E 500
  rw [hE.2.2.2.1.1] at c11
  have x8 : nI (uc E 500) * (8 : Int32) = nI (uc E 500 * 8) := nI_mulN _ 8
  have d0 : dzb 0 = true := rfl
  have d1 : dzb 1 = true := rfl
  have h5 := hE.2.2.2.1.2
  by_cases h1 : E 6 = 0
  · rw [if_neg (fun h => by have h9 := h.1; rw [h1] at h9; exact absurd h9 (by decide))]
    simp only [F_37, B_37_25, B_37_26, kk, c12, h1, d0, dg_1, db_1, db_0, dl_1, dp_1, dv_1, dv_x, di_1, di_x, dw_1, ec_eq, ec_ne, ec_lt, ec_ge, ec_gt, ec_le, hq_z, hq_wz, hq_wc, hq_thr, hq_p29, hq_pw, eq_self, decide_true, decide_false, not_true_eq_false, not_false_eq_true, kq_0, kq_1, kq_2, kq_3, kq_4, kq_5, kq_6, kq_7, kq_8, kq_9, kq_10, kq_11, kq_12, kq_13, kq_14, kq_15, kq_16, kq_17, kq_18, kq_19, kq_20, kq_21, kq_22, kq_23, kq_24, kq_25, kq_26, kq_27, kq_28, kq_29, kq_30, kq_31, kq_32, kq_33, kq_34, kq_35, kq_36, kq_37, kq_38, kq_39, kq_40, kq_41, kq_42, kq_43, kq_44, kq_45, kq_46, kq_47, kq_48, kq_49, kq_50, kq_51, kq_52, kq_53, kq_54, kq_55, kq_56, kq_57, kq_58, kq_59, kq_60, kq_61, kq_62, kq_63, kq_64, kq_65, kq_66, kq_67, kq_68, kq_69, kq_70, kq_71, kq_72, kq_73, kq_74, kq_75, kq_76, kq_77, kq_78, kq_79, kq_80, kq_81, pq_0_0, pq_0_1, pq_0_2, pq_0_3, pq_0_4, pq_0_5, pq_0_6, pq_0_7, pq_1_0, pq_1_1, pq_1_2, pq_1_3, pq_1_4, pq_1_5, pq_1_6, pq_1_7, pq_10_0, pq_10_1, pq_10_2, pq_10_3, pq_15_0, pq_17_0, pq_19_0, pq_21_0, pq_21_1, pq_21_2, pq_21_3, pq_21_4, pq_21_5, pq_28_0, pq_30_0, pq_30_1, pq_30_2, pq_31_0, pq_35_0, pq_35_1, pq_35_2, pq_36_0, pq_40_0, pq_40_1, pq_40_2, pq_41_0, pq_45_0, pq_45_1, pq_45_2, pq_46_0, pq_50_0, pq_52_0, pq_52_1, pq_52_2, pq_52_3, pq_52_4, pq_52_5, pq_52_6, pq_52_8, pq_52_10, pq_52_11, pq_52_14, pq_52_15, pq_52_16, pq_52_17, pq_52_18, pq_52_27, pq_52_29, pq_52_30, pq_52_31, pq_52_32, pq_52_33, pq_52_34, pq_52_35, pq_52_36, pq_52_37, pq_52_38, pq_52_39, pq_52_40, pq_52_41, aq_1, aq_11, aq_12, aq_13, aq_14, aq_16, aq_18, aq_20, aq_22, aq_23, aq_24, aq_25, aq_26, aq_27, aq_29, aq_32, aq_33, aq_34, aq_37, aq_38, aq_39, aq_42, aq_43, aq_44, aq_47, aq_48, aq_49, aq_51, aq_53, aq_54, aq_55, aq_56, aq_57, aq_58, aq_59, aq_60, aq_61, aq_62, aq_63, aq_64, aq_65, aq_66, aq_67, aq_68, aq_69, aq_70, aq_71, aq_72, aq_73, aq_74, aq_75, aq_76, aq_77, aq_78, aq_79, aq_80, aq_81]
  have h1' : E 6 = 1 := hE.2.2.2.2.1.resolve_left h1
  by_cases h2 : er E ≤ uc E 500 * 8
  · rw [if_pos ⟨h1', h2⟩]
    have h2' : ¬ nI (uc E 500 * 8) < nI (er E) := nI_nlt h2 (by omega)
    simp only [F_37, B_37_25, B_37_26, kk, c12, h1, c10, c11, x8, h2', d1, dg_1, db_1, db_0, dl_1, dp_1, dv_1, dv_x, di_1, di_x, dw_1, ec_eq, ec_ne, ec_lt, ec_ge, ec_gt, ec_le, hq_z, hq_wz, hq_wc, hq_thr, hq_p29, hq_pw, eq_self, decide_true, decide_false, not_true_eq_false, not_false_eq_true, kq_0, kq_1, kq_2, kq_3, kq_4, kq_5, kq_6, kq_7, kq_8, kq_9, kq_10, kq_11, kq_12, kq_13, kq_14, kq_15, kq_16, kq_17, kq_18, kq_19, kq_20, kq_21, kq_22, kq_23, kq_24, kq_25, kq_26, kq_27, kq_28, kq_29, kq_30, kq_31, kq_32, kq_33, kq_34, kq_35, kq_36, kq_37, kq_38, kq_39, kq_40, kq_41, kq_42, kq_43, kq_44, kq_45, kq_46, kq_47, kq_48, kq_49, kq_50, kq_51, kq_52, kq_53, kq_54, kq_55, kq_56, kq_57, kq_58, kq_59, kq_60, kq_61, kq_62, kq_63, kq_64, kq_65, kq_66, kq_67, kq_68, kq_69, kq_70, kq_71, kq_72, kq_73, kq_74, kq_75, kq_76, kq_77, kq_78, kq_79, kq_80, kq_81, pq_0_0, pq_0_1, pq_0_2, pq_0_3, pq_0_4, pq_0_5, pq_0_6, pq_0_7, pq_1_0, pq_1_1, pq_1_2, pq_1_3, pq_1_4, pq_1_5, pq_1_6, pq_1_7, pq_10_0, pq_10_1, pq_10_2, pq_10_3, pq_15_0, pq_17_0, pq_19_0, pq_21_0, pq_21_1, pq_21_2, pq_21_3, pq_21_4, pq_21_5, pq_28_0, pq_30_0, pq_30_1, pq_30_2, pq_31_0, pq_35_0, pq_35_1, pq_35_2, pq_36_0, pq_40_0, pq_40_1, pq_40_2, pq_41_0, pq_45_0, pq_45_1, pq_45_2, pq_46_0, pq_50_0, pq_52_0, pq_52_1, pq_52_2, pq_52_3, pq_52_4, pq_52_5, pq_52_6, pq_52_8, pq_52_10, pq_52_11, pq_52_14, pq_52_15, pq_52_16, pq_52_17, pq_52_18, pq_52_27, pq_52_29, pq_52_30, pq_52_31, pq_52_32, pq_52_33, pq_52_34, pq_52_35, pq_52_36, pq_52_37, pq_52_38, pq_52_39, pq_52_40, pq_52_41, aq_1, aq_11, aq_12, aq_13, aq_14, aq_16, aq_18, aq_20, aq_22, aq_23, aq_24, aq_25, aq_26, aq_27, aq_29, aq_32, aq_33, aq_34, aq_37, aq_38, aq_39, aq_42, aq_43, aq_44, aq_47, aq_48, aq_49, aq_51, aq_53, aq_54, aq_55, aq_56, aq_57, aq_58, aq_59, aq_60, aq_61, aq_62, aq_63, aq_64, aq_65, aq_66, aq_67, aq_68, aq_69, aq_70, aq_71, aq_72, aq_73, aq_74, aq_75, aq_76, aq_77, aq_78, aq_79, aq_80, aq_81]
  · rw [if_neg (fun h => h2 h.2)]
    have h2' : nI (uc E 500 * 8) < nI (er E) := nI_lt (by omega) (by omega)
    simp only [F_37, B_37_25, B_37_26, kk, c12, h1, c10, c11, x8, h2', d0, dg_1, db_1, db_0, dl_1, dp_1, dv_1, dv_x, di_1, di_x, dw_1, ec_eq, ec_ne, ec_lt, ec_ge, ec_gt, ec_le, hq_z, hq_wz, hq_wc, hq_thr, hq_p29, hq_pw, eq_self, decide_true, decide_false, not_true_eq_false, not_false_eq_true, kq_0, kq_1, kq_2, kq_3, kq_4, kq_5, kq_6, kq_7, kq_8, kq_9, kq_10, kq_11, kq_12, kq_13, kq_14, kq_15, kq_16, kq_17, kq_18, kq_19, kq_20, kq_21, kq_22, kq_23, kq_24, kq_25, kq_26, kq_27, kq_28, kq_29, kq_30, kq_31, kq_32, kq_33, kq_34, kq_35, kq_36, kq_37, kq_38, kq_39, kq_40, kq_41, kq_42, kq_43, kq_44, kq_45, kq_46, kq_47, kq_48, kq_49, kq_50, kq_51, kq_52, kq_53, kq_54, kq_55, kq_56, kq_57, kq_58, kq_59, kq_60, kq_61, kq_62, kq_63, kq_64, kq_65, kq_66, kq_67, kq_68, kq_69, kq_70, kq_71, kq_72, kq_73, kq_74, kq_75, kq_76, kq_77, kq_78, kq_79, kq_80, kq_81, pq_0_0, pq_0_1, pq_0_2, pq_0_3, pq_0_4, pq_0_5, pq_0_6, pq_0_7, pq_1_0, pq_1_1, pq_1_2, pq_1_3, pq_1_4, pq_1_5, pq_1_6, pq_1_7, pq_10_0, pq_10_1, pq_10_2, pq_10_3, pq_15_0, pq_17_0, pq_19_0, pq_21_0, pq_21_1, pq_21_2, pq_21_3, pq_21_4, pq_21_5, pq_28_0, pq_30_0, pq_30_1, pq_30_2, pq_31_0, pq_35_0, pq_35_1, pq_35_2, pq_36_0, pq_40_0, pq_40_1, pq_40_2, pq_41_0, pq_45_0, pq_45_1, pq_45_2, pq_46_0, pq_50_0, pq_52_0, pq_52_1, pq_52_2, pq_52_3, pq_52_4, pq_52_5, pq_52_6, pq_52_8, pq_52_10, pq_52_11, pq_52_14, pq_52_15, pq_52_16, pq_52_17, pq_52_18, pq_52_27, pq_52_29, pq_52_30, pq_52_31, pq_52_32, pq_52_33, pq_52_34, pq_52_35, pq_52_36, pq_52_37, pq_52_38, pq_52_39, pq_52_40, pq_52_41, aq_1, aq_11, aq_12, aq_13, aq_14, aq_16, aq_18, aq_20, aq_22, aq_23, aq_24, aq_25, aq_26, aq_27, aq_29, aq_32, aq_33, aq_34, aq_37, aq_38, aq_39, aq_42, aq_43, aq_44, aq_47, aq_48, aq_49, aq_51, aq_53, aq_54, aq_55, aq_56, aq_57, aq_58, aq_59, aq_60, aq_61, aq_62, aq_63, aq_64, aq_65, aq_66, aq_67, aq_68, aq_69, aq_70, aq_71, aq_72, aq_73, aq_74, aq_75, aq_76, aq_77, aq_78, aq_79, aq_80, aq_81]
theorem n38 (hj : j < 4) (hE : eW E) (h7 : E 7 = 1) (hall : ∀ i, i < er E → thE E i) (hC : eC E (z (30 + 5 * j)) (z (30 + 5 * j + 2)) (z (30 + 5 * j + 3)) (z (30 + 5 * j + 4))) (b2 : ∀ i, br (z (32 + 5 * j) i)) (b3 : ∀ i, br (z (33 + 5 * j) i)) (b18 : ∀ i, br (z 18 i)) (hf : 1000 < f) : ∃ z', F_38 f (30 + 5 * j) 17 (hq z w c s) = some (.inl none, hq z' w c s) ∧ (∀ b, b ≠ 18 → z' b = z b) ∧ cb z' 18 (hl (fq E) + er E) (whB E) ∧ ∀ i, br (z' 18 i) := by
  obtain ⟨⟨-, -, -, -, -, c11, -, -, -⟩, C2, C3, -⟩ := hC
  obtain ⟨-, -, -, ⟨w4, w5⟩, -, -, -, -, -, wB, wC⟩ := hE
  obtain ⟨-, v1, v2, v3⟩ := wB h7
  have hl6 := hl_le (fq E)
  rw [w4] at c11
  have kk : ∀ z, hp_k (hq z w c s) (30 + 5 * j) = some (5, 0) := fun z => (wk hj).1
  have k18 : ∀ z, hp_k (hq z w c s) 18 = some (65, 4060) := fun z => kq_18
  have hF : cb z (32 + 5 * j) (hl (fq E) + 8) (fq E) := ⟨fq_lt E, fun i hi => by
    have := (C2 h7).2 i hi
    rw [show 30 + 5 * j + 2 = 32 + 5 * j by omega] at this
    rw [this]; exact v3 i hi⟩
  have q8 := n8 (f := f) (w := w) (c := c) (s := s) (pk_f hj) hF (by omega) (by omega) (by omega)
  obtain ⟨z1, e1⟩ : ∃ x, x = cpz z 18 (32 + 5 * j) 0 0 (hl (fq E)) := ⟨_, rfl⟩
  obtain ⟨z2, e2⟩ : ∃ x, x = cpz z1 18 (33 + 5 * j) 0 (hl (fq E)) (er E) := ⟨_, rfl⟩
  obtain ⟨z3, e3⟩ : ∃ x, x = va_up z2 18 (w2 (z2 18) 2 (nI (hl (fq E) + er E))) := ⟨_, rfl⟩
  have n1 : ∀ b, b ≠ 18 → z1 b = z b := fun b hb => by rw [e1, cpz_ne hb]
  have n2' : ∀ b, b ≠ 18 → z2 b = z b := fun b hb => by rw [e2, cpz_ne hb, n1 b hb]
  have n3 : ∀ b, b ≠ 18 → z3 b = z b := fun b hb => by rw [e3, va_up_ne _ _ hb, n2' b hb]
  have ca1 : acb 65 (hq z w c s) (32 + 5 * j) 0 18 0 (nI (hl (fq E))) = true := acb_n (u := 0) (v := 0) (pk_f hj _ _ _ _).2.2 kq_18 (by omega) (by omega) (by omega) (by omega)
  have wa1 : wc (hq z w c s) (32 + 5 * j) 0 18 0 (nI (hl (fq E))) = hq z1 w c s := by rw [e1]; exact hq_cp (u := 0) (v := 0) (by omega) (by omega) (by omega)
  have ca2 : acb 65 (hq z1 w c s) (33 + 5 * j) 0 18 (nI (hl (fq E))) (nI (er E)) = true := acb_n (u := 0) (wk hj).2.2.2.2.1 kq_18 (by omega) (by omega) (by omega) (by omega)
  have wa2 : wc (hq z1 w c s) (33 + 5 * j) 0 18 (nI (hl (fq E))) (nI (er E)) = hq z2 w c s := by rw [e2]; exact hq_cp (u := 0) (by omega) (by omega) (by omega)
  have B2 : ∀ i, i < hl (fq E) + er E → bz z2 18 i = hp2 (fq E) (ebN E) (hl (fq E)) 0 i := by
    intro i hi
    rw [e2, bz_cpz]
    unfold hp2
    by_cases h : i < hl (fq E)
    · rw [if_neg (by omega), if_pos h, e1, bz_cpz, if_pos (by omega), show 0 + (i - 0) = i by omega]
      exact bz_of (fq_lt E i) (hF.2 i (by omega))
    · rw [if_pos (by omega), if_neg h, show 0 + (i - hl (fq E)) = i - hl (fq E) by omega]
      obtain ⟨b, hb, hb2⟩ := wC (i - hl (fq E)) (by omega)
      have h3 := C3 (i - hl (fq E)) (by omega) (hall _ (by omega))
      rw [show 30 + 5 * j + 3 = 33 + 5 * j by omega] at h3
      have h4 : ebN E (i - hl (fq E)) = b := by unfold ebN; rw [hb2, nI_clamp (by omega)]; omega
      rw [h4]
      exact bz_of hb (by rw [n1 _ (by omega), h3, hb2])
  have q121a : F_121 f 18 2 (nI (hl (fq E) + er E)) (hq z2 w c s) = some (.inl none, hq z3 w c s) := by rw [e3]; exact t121 (t := 2) (N := 4060) k18 (by omega) (by omega)
  have B3 : bz z3 18 = bu2 (bz z2 18) 2 (hl (fq E) + er E) := by rw [e3]; exact bz_w2 (by omega)
  have x6 : n2 (bz z3 18) 6 = n2 (fq E) 6 := by
    unfold n2
    rw [B3, bu2_ne (by omega), bu2_ne (by omega), B2 6 (by omega), B2 (6 + 1) (by omega)]
    unfold hp2; rw [if_pos (by omega), if_pos (by omega)]
  have q119 : F_119 f 18 6 (hq z3 w c s) = some (.inl (some (.int (nI (n2 (fq E) 6)))), hq z3 w c s) := by
    rw [← x6]; exact n119 (t := 6) (M := 4060) kq_18 (cb_bz z3 18 4060) (by omega) (by omega) (by omega)
  have hX := n2_lt (fq_lt E) 6
  obtain ⟨X, eX⟩ : ∃ x, x = n2 (fq E) 6 - n2 (fq E) 6 / 8192 % 2 * 8192 := ⟨_, rfl⟩
  have xm := and_nm hX
  rw [← eX] at xm
  obtain ⟨z4, e4⟩ : ∃ x, x = va_up z3 18 (w2 (z3 18) 6 (nI X)) := ⟨_, rfl⟩
  have q121b : F_121 f 18 6 (nI X) (hq z3 w c s) = some (.inl none, hq z4 w c s) := by rw [e4]; exact t121 (t := 6) (N := 4060) k18 (by omega) (by omega)
  have B4 : bz z4 18 = bu2 (bz z3 18) 6 X := by rw [e4]; exact bz_w2 (by omega)
  have B4' : ∀ i, i < hl (fq E) + er E → bz z4 18 i = whR E i := by
    intro i hi
    rw [B4, B3]
    unfold whR
    rw [← eX]
    unfold bu2 b1
    rw [B2 i hi]
  have es : sN (bz z4 18) 0 10 (hl (fq E)) = sN (whR E) 0 10 (hl (fq E)) := sN_eq _ (fun i hi => B4' (0 + i) (by omega))
  obtain ⟨K, eK⟩ : ∃ x, x = ck (sN (whR E) 0 10 (hl (fq E))) := ⟨_, rfl⟩
  have hK : K < 65536 := by rw [eK]; exact ck_lt _
  have q123 : F_123 f 18 0 (nI (hl (fq E))) 10 (hq z4 w c s) = some (.inl (some (.int (nI K))), hq z4 w c s) := by
    rw [eK, ← es]; exact t123 (at_ := 0) (sk := 10) (N := 4060) k18 (by omega) (by omega) (by omega) (bz_lt z4 18) (fun i _ _ => bz_eq z4 18 i) (by omega)
  obtain ⟨z5, e5⟩ : ∃ x, x = va_up z4 18 (w2 (z4 18) 10 (nI K)) := ⟨_, rfl⟩
  have q121c : F_121 f 18 10 (nI K) (hq z4 w c s) = some (.inl none, hq z5 w c s) := by rw [e5]; exact t121 (t := 10) (N := 4060) k18 (by omega) (by omega)
  have g11 : z1 (30 + 5 * j) 11 = nI (er E) := by rw [n1 _ (by omega)]; exact c11
  have g11' : z2 (30 + 5 * j) 11 = nI (er E) := by rw [n2' _ (by omega)]; exact c11
  refine ⟨z5, ?_, fun b hb => by rw [e5, va_up_ne _ _ hb, e4, va_up_ne _ _ hb, n3 b hb], ⟨whB_lt E, fun i hi => ?_⟩, ?_⟩
  · simp only [F_38, kk, (wk hj).2.1, (wk hj).2.2.1, (pk_f hj _ _ _ _).1, (pk_f hj _ _ _ _).2.1, q8, ca1, wa1, g11, ca2, wa2, g11', nI_add, q121a, q119, xm, q121b, q123, q121c, dg_1, db_1, db_0, dl_1, dp_1, dv_1, dv_x, di_1, di_x, dw_1, ec_eq, ec_ne, ec_lt, ec_ge, ec_gt, ec_le, hq_z, hq_wz, hq_thr, hq_p29, hq_pw, eq_self, decide_true, decide_false, not_true_eq_false, not_false_eq_true, kq_0, kq_1, kq_2, kq_3, kq_4, kq_5, kq_6, kq_7, kq_8, kq_9, kq_10, kq_11, kq_12, kq_13, kq_14, kq_15, kq_16, kq_17, kq_18, kq_19, kq_20, kq_21, kq_22, kq_23, kq_24, kq_25, kq_26, kq_27, kq_28, kq_29, kq_30, kq_31, kq_32, kq_33, kq_34, kq_35, kq_36, kq_37, kq_38, kq_39, kq_40, kq_41, kq_42, kq_43, kq_44, kq_45, kq_46, kq_47, kq_48, kq_49, kq_50, kq_51, kq_52, kq_53, kq_54, kq_55, kq_56, kq_57, kq_58, kq_59, kq_60, kq_61, kq_62, kq_63, kq_64, kq_65, kq_66, kq_67, kq_68, kq_69, kq_70, kq_71, kq_72, kq_73, kq_74, kq_75, kq_76, kq_77, kq_78, kq_79, kq_80, kq_81, pq_0_0, pq_0_1, pq_0_2, pq_0_3, pq_0_4, pq_0_5, pq_0_6, pq_0_7, pq_1_0, pq_1_1, pq_1_2, pq_1_3, pq_1_4, pq_1_5, pq_1_6, pq_1_7, pq_10_0, pq_10_1, pq_10_2, pq_10_3, pq_15_0, pq_17_0, pq_19_0, pq_21_0, pq_21_1, pq_21_2, pq_21_3, pq_21_4, pq_21_5, pq_28_0, pq_30_0, pq_30_1, pq_30_2, pq_31_0, pq_35_0, pq_35_1, pq_35_2, pq_36_0, pq_40_0, pq_40_1, pq_40_2, pq_41_0, pq_45_0, pq_45_1, pq_45_2, pq_46_0, pq_50_0, pq_52_0, pq_52_1, pq_52_2, pq_52_3, pq_52_4, pq_52_5, pq_52_6, pq_52_8, pq_52_10, pq_52_11, pq_52_14, pq_52_15, pq_52_16, pq_52_17, pq_52_18, pq_52_27, pq_52_29, pq_52_30, pq_52_31, pq_52_32, pq_52_33, pq_52_34, pq_52_35, pq_52_36, pq_52_37, pq_52_38, pq_52_39, pq_52_40, pq_52_41, aq_1, aq_11, aq_12, aq_13, aq_14, aq_16, aq_18, aq_20, aq_22, aq_23, aq_24, aq_25, aq_26, aq_27, aq_29, aq_32, aq_33, aq_34, aq_37, aq_38, aq_39, aq_42, aq_43, aq_44, aq_47, aq_48, aq_49, aq_51, aq_53, aq_54, aq_55, aq_56, aq_57, aq_58, aq_59, aq_60, aq_61, aq_62, aq_63, aq_64, aq_65, aq_66, aq_67, aq_68, aq_69, aq_70, aq_71, aq_72, aq_73, aq_74, aq_75, aq_76, aq_77, aq_78, aq_79, aq_80, aq_81]
  · rw [bz_eq, e5, bz_w2 (by omega)]
    congr 1
    unfold whB
    rw [← eK]
    unfold bu2 b1
    rw [B4' i hi]
  · rw [e5, va_up_self]; apply br_w2; rw [e4, va_up_self]; apply br_w2; rw [e3, va_up_self]; apply br_w2
    rw [e2]; refine br_cpz ?_ (by rw [n1 _ (by omega)]; exact b3)
    rw [e1]; exact br_cpz b18 b2
def adS (S : St9) (e : Nat) (P : Nat → Nat) (p data : Nat) : St9 := va_up S (15 + e) (adE (S (15 + e)) P p data)
def okI (x : Option (Nat → Int32)) : Int32 := match x with
  | none => 0
  | some _ => 1
def jn2 (S : St9) (e : Nat) (P : Nat → Nat) (p data : Nat) : St9 × Option (Nat → Int32) := if cpE (adE (S (15 + e)) P p data) then (rmS (adS S e P p data) e, some (adE (S (15 + e)) P p data)) else (adS S e P p data, none)
def bg1 (S : St9) : St9 := if cn S 10 < 4 then S else rmS S 0
def jnS (S : St9) (P : Nat → Nat) (p data t : Nat) : St9 × Option (Nat → Int32) := match fd S P with
  | some e => if wrP P data ∨ rfE (S (15 + e)) P data then (rmS S e, none) else jn2 S e P p data
  | none => if wrP P data then (S, none) else jn2 (nwS (bg1 S) P t) (cn (bg1 S) 10) P p data
-- the state of the waits of the class
def wC (S : St9) (z : Nat → Nat → Int32) (w : Nat → Option Nat) : Prop := rcW S z w ∧ z 28 1 = nI (cn S 10) ∧ (∀ j, j < 4 → (∀ i, br (z (32 + 5 * j) i)) ∧ ∀ i, br (z (33 + 5 * j) i)) ∧ ∀ i, br (z 18 i)
def wX (S : St9) : Prop := cn S 10 ≤ 4 ∧ ∀ e, e < cn S 10 → eW (S (15 + e))
theorem wX_rm {e : Nat} (h : wX S) : wX (rmS S e) := by
  obtain ⟨h1, h2⟩ := h
  refine ⟨by rw [rmS_c h1]; omega, fun i hi => ?_⟩
  rw [rmS_c h1] at hi
  by_cases h3 : e ≤ i
  · rw [rmS_e h3 (by omega)]; exact h2 _ (by omega)
  · rw [rmS_k (by omega) (by omega)]; exact h2 _ (by omega)
theorem bg_c (h : cn S 10 ≤ 4) : cn (bg1 S) 10 < 4 := by
  unfold bg1; split
  · assumption
  · rw [rmS_c h]; omega
theorem wX_bg (h : wX S) : wX (bg1 S) := by
  unfold bg1; split
  · exact h
  · exact wX_rm h
theorem wX_nw (h : wX S) (hc : cn S 10 < 4) (hP : ∀ i, P i < 256) (ht : t ≤ 60000) : wX (nwS S P t) := by
  refine ⟨by rw [nwS_c hc]; omega, fun e he => ?_⟩
  rw [nwS_c hc] at he
  by_cases h3 : e = cn S 10
  · rw [h3, nwS_e]; exact eW_nw hP ht
  · rw [nwS_k (by omega) (by omega)]; exact h.2 e (by omega)
theorem adS_3 {e : Nat} : adS S e P p data 3 = S 3 := va_up_ne _ _ (by omega)
theorem adS_c {e k : Nat} : cn (adS S e P p data) k = cn S k := by unfold cn; rw [adS_3]
theorem adS_e {e : Nat} : adS S e P p data (15 + e) = adE (S (15 + e)) P p data := va_up_self _ _ _
theorem adS_k {e k : Nat} (h : k ≠ 15 + e) : adS S e P p data k = S k := va_up_ne _ _ h
theorem rf_nw : ¬ rfE (nwE P t) P data := by
  have h5 : er (nwE P t) = 0 := by show (nwE P t 5).toNatClampNeg = 0; rw [nw_k (by omega)]; rfl
  intro h
  rcases h with h | h
  · rw [nw_k (by omega)] at h; exact absurd h.1 (by decide)
  · rw [h5] at h; omega
theorem n_jn2 {e : Nat} (hC : wC S z w) (hX : wX S) (he : e < cn S 10) (hR : rdP z n P data) (hp : p < 8) (hw : ¬ wrP P data) (hr : ¬ rfE (S (15 + e)) P data) (hpc : ¬ n2 P 6 % 16384 = 0) (hf : 1000 < f) : ∃ z' w', B_40_63 f 28 15 (nI p) 17 (nI e) (hq z w c s) = some (.inl (some (.int (okI (jn2 S e P p data).2))), hq z' w' c s) ∧ wC (jn2 S e P p data).1 z' w' ∧ (∀ b, b < 28 → b ≠ 18 → z' b = z b) ∧ (∀ b, 49 < b → z' b = z b) ∧ ∀ E, (jn2 S e P p data).2 = some E → eW E ∧ E 7 = 1 ∧ cb z' 18 (hl (fq E) + er E) (whB E) := by
  obtain ⟨C1, C2, C3, C4⟩ := hC
  obtain ⟨X1, X2⟩ := hX
  obtain ⟨⟨pp, hpp, hinj⟩, hEC⟩ := id C1
  obtain ⟨p1, p2⟩ := hpp e (by omega)
  have hE := X2 e he
  have hCe := hEC e _ he (by omega) p2
  have hR' := hR
  obtain ⟨z1, g1, g2, g3, g4, g5⟩ := n36 (f := f) (w := w) (c := c) (s := s) p1 hR hp hE hw hr hpc hCe (C3 _ p1).1 (C3 _ p1).2 hf
  have hE' := eW_ad hE hR.1.1 hp hR.2.2.2.1 hR.2.2.2.2.1 hpc hw hr
  have q37 := n37 (f := f) (w := w) (c := c) (s := s) p1 hE' g3
  have ie : ev_in (nI e) 4 = true := ev_in_nI (by omega) (by omega)
  have ce : (nI e).toNatClampNeg = e := nI_clamp (by omega)
  have kk : ∀ z, hp_k (hq z w c s) (30 + 5 * pp e) = some (5, 0) := fun z => (wk p1).1
  -- the waits behind the addition
  have W1 : wC (adS S e P p data) z1 w := by
    refine ⟨⟨⟨pp, hpp, hinj⟩, fun i a hi hi4 ha => ?_⟩, ?_, fun k hk => ?_, ?_⟩
    · rw [adS_c] at hi
      obtain ⟨q1, q2⟩ := hpp i hi4
      by_cases h : i = e
      · rw [h] at ha ⊢
        rw [p2] at ha; cases ha
        rw [adS_e]; exact g3
      · have hne : pp i ≠ pp e := fun h9 => h (hinj i e hi4 (by omega) h9)
        have hz := hEC i a hi hi4 ha
        rw [q2] at ha; cases ha
        rw [adS_k (by omega), g2 _ (by omega), g2 _ (by omega), g2 _ (by omega), g2 _ (by omega)]; exact hz
    · rw [g2 28 (by omega), adS_c]; exact C2
    · by_cases h : k = pp e
      · rw [h]; exact ⟨g4, g5⟩
      · rw [g2 _ (by omega), g2 _ (by omega)]; exact C3 k hk
    · rw [g2 18 (by omega)]; exact C4
  unfold jn2
  by_cases hcp : cpE (adE (S (15 + e)) P p data)
  · rw [if_pos hcp] at q37 ⊢
    dsimp only
    have hall := (cp_all hE').mp hcp.2
    have h7 : adE (S (15 + e)) P p data 7 = 1 := by
      apply hE'.2.2.2.2.2.2.2.2.1
      have her := adx_r (E := S (15 + e)) (P := P) (p := p) (data := data) (by omega) hE.2.2.2.1.2
      have : 0 < er (adE (S (15 + e)) P p data) := by rw [her]; split <;> omega
      have := (hall 0 this).1
      exact this
    obtain ⟨z2, k1, k2, k3, k4⟩ := n38 (f := f) (w := w) (c := c) (s := s) p1 hE' h7 hall g3 g4 g5 W1.2.2.2 hf
    have W2 : rcW (adS S e P p data) z2 w := by
      refine ⟨⟨pp, hpp, hinj⟩, fun i a hi hi4 ha => ?_⟩
      have hz := W1.1.2 i a hi hi4 ha
      have q2 := (hpp i hi4).2
      rw [q2] at ha; cases ha
      rw [k2 _ (by omega), k2 _ (by omega), k2 _ (by omega), k2 _ (by omega)]; exact hz
    obtain ⟨m1, m2⟩ := n42 (f := f) (c := c) (s := s) (e := e) W2 (by rw [k2 28 (by omega)]; exact W1.2.1) (by rw [adS_c]; exact X1) (by rw [adS_c]; exact he) (by omega)
    refine ⟨_, _, ?_, ⟨m2, ?_, fun k hk => ?_, ?_⟩, fun b hb h18 => by rw [va_up_ne _ _ (by omega), k2 b h18, g2 b (by omega)], fun b hb => by rw [va_up_ne _ _ (by omega), k2 b (by omega), g2 b (by omega)], fun E hEE => ?_⟩
    · simp only [B_40_63, okI, ie, ce, p2, kk, g1, q37, show ¬ (1 : Int32) = 0 by decide, k1, m1, dg_1, db_1, db_0, dl_1, dp_1, dv_1, dv_x, di_1, di_x, dw_1, ec_eq, ec_ne, ec_lt, ec_ge, ec_gt, ec_le, hq_z, hq_wz, hq_wc, hq_thr, hq_p29, hq_pw, eq_self, decide_true, decide_false, not_true_eq_false, not_false_eq_true, kq_0, kq_1, kq_2, kq_3, kq_4, kq_5, kq_6, kq_7, kq_8, kq_9, kq_10, kq_11, kq_12, kq_13, kq_14, kq_15, kq_16, kq_17, kq_18, kq_19, kq_20, kq_21, kq_22, kq_23, kq_24, kq_25, kq_26, kq_27, kq_28, kq_29, kq_30, kq_31, kq_32, kq_33, kq_34, kq_35, kq_36, kq_37, kq_38, kq_39, kq_40, kq_41, kq_42, kq_43, kq_44, kq_45, kq_46, kq_47, kq_48, kq_49, kq_50, kq_51, kq_52, kq_53, kq_54, kq_55, kq_56, kq_57, kq_58, kq_59, kq_60, kq_61, kq_62, kq_63, kq_64, kq_65, kq_66, kq_67, kq_68, kq_69, kq_70, kq_71, kq_72, kq_73, kq_74, kq_75, kq_76, kq_77, kq_78, kq_79, kq_80, kq_81, pq_0_0, pq_0_1, pq_0_2, pq_0_3, pq_0_4, pq_0_5, pq_0_6, pq_0_7, pq_1_0, pq_1_1, pq_1_2, pq_1_3, pq_1_4, pq_1_5, pq_1_6, pq_1_7, pq_10_0, pq_10_1, pq_10_2, pq_10_3, pq_15_0, pq_17_0, pq_19_0, pq_21_0, pq_21_1, pq_21_2, pq_21_3, pq_21_4, pq_21_5, pq_28_0, pq_30_0, pq_30_1, pq_30_2, pq_31_0, pq_35_0, pq_35_1, pq_35_2, pq_36_0, pq_40_0, pq_40_1, pq_40_2, pq_41_0, pq_45_0, pq_45_1, pq_45_2, pq_46_0, pq_50_0, pq_52_0, pq_52_1, pq_52_2, pq_52_3, pq_52_4, pq_52_5, pq_52_6, pq_52_8, pq_52_10, pq_52_11, pq_52_14, pq_52_15, pq_52_16, pq_52_17, pq_52_18, pq_52_27, pq_52_29, pq_52_30, pq_52_31, pq_52_32, pq_52_33, pq_52_34, pq_52_35, pq_52_36, pq_52_37, pq_52_38, pq_52_39, pq_52_40, pq_52_41, aq_1, aq_11, aq_12, aq_13, aq_14, aq_16, aq_18, aq_20, aq_22, aq_23, aq_24, aq_25, aq_26, aq_27, aq_29, aq_32, aq_33, aq_34, aq_37, aq_38, aq_39, aq_42, aq_43, aq_44, aq_47, aq_48, aq_49, aq_51, aq_53, aq_54, aq_55, aq_56, aq_57, aq_58, aq_59, aq_60, aq_61, aq_62, aq_63, aq_64, aq_65, aq_66, aq_67, aq_68, aq_69, aq_70, aq_71, aq_72, aq_73, aq_74, aq_75, aq_76, aq_77, aq_78, aq_79, aq_80, aq_81]
    · rw [va_up_self, pk_us, rmS_c (by rw [adS_c]; exact X1)]
    · rw [va_up_ne _ _ (by omega), va_up_ne _ _ (by omega), k2 _ (by omega), k2 _ (by omega)]; exact W1.2.2.1 k hk
    · rw [va_up_ne _ _ (by omega)]; exact k4
    · cases hEE
      refine ⟨hE', h7, cb_ne (by omega) k3⟩
  · rw [if_neg hcp] at q37 ⊢
    dsimp only
    refine ⟨z1, w, ?_, W1, fun b hb _ => g2 b (by omega), fun b hb => g2 b (by omega), fun E hEE => by cases hEE⟩
    simp only [B_40_63, okI, ie, ce, p2, kk, g1, q37, dg_1, db_1, db_0, dl_1, dp_1, dv_1, dv_x, di_1, di_x, dw_1, ec_eq, ec_ne, ec_lt, ec_ge, ec_gt, ec_le, hq_z, hq_wz, hq_wc, hq_thr, hq_p29, hq_pw, eq_self, decide_true, decide_false, not_true_eq_false, not_false_eq_true, kq_0, kq_1, kq_2, kq_3, kq_4, kq_5, kq_6, kq_7, kq_8, kq_9, kq_10, kq_11, kq_12, kq_13, kq_14, kq_15, kq_16, kq_17, kq_18, kq_19, kq_20, kq_21, kq_22, kq_23, kq_24, kq_25, kq_26, kq_27, kq_28, kq_29, kq_30, kq_31, kq_32, kq_33, kq_34, kq_35, kq_36, kq_37, kq_38, kq_39, kq_40, kq_41, kq_42, kq_43, kq_44, kq_45, kq_46, kq_47, kq_48, kq_49, kq_50, kq_51, kq_52, kq_53, kq_54, kq_55, kq_56, kq_57, kq_58, kq_59, kq_60, kq_61, kq_62, kq_63, kq_64, kq_65, kq_66, kq_67, kq_68, kq_69, kq_70, kq_71, kq_72, kq_73, kq_74, kq_75, kq_76, kq_77, kq_78, kq_79, kq_80, kq_81, pq_0_0, pq_0_1, pq_0_2, pq_0_3, pq_0_4, pq_0_5, pq_0_6, pq_0_7, pq_1_0, pq_1_1, pq_1_2, pq_1_3, pq_1_4, pq_1_5, pq_1_6, pq_1_7, pq_10_0, pq_10_1, pq_10_2, pq_10_3, pq_15_0, pq_17_0, pq_19_0, pq_21_0, pq_21_1, pq_21_2, pq_21_3, pq_21_4, pq_21_5, pq_28_0, pq_30_0, pq_30_1, pq_30_2, pq_31_0, pq_35_0, pq_35_1, pq_35_2, pq_36_0, pq_40_0, pq_40_1, pq_40_2, pq_41_0, pq_45_0, pq_45_1, pq_45_2, pq_46_0, pq_50_0, pq_52_0, pq_52_1, pq_52_2, pq_52_3, pq_52_4, pq_52_5, pq_52_6, pq_52_8, pq_52_10, pq_52_11, pq_52_14, pq_52_15, pq_52_16, pq_52_17, pq_52_18, pq_52_27, pq_52_29, pq_52_30, pq_52_31, pq_52_32, pq_52_33, pq_52_34, pq_52_35, pq_52_36, pq_52_37, pq_52_38, pq_52_39, pq_52_40, pq_52_41, aq_1, aq_11, aq_12, aq_13, aq_14, aq_16, aq_18, aq_20, aq_22, aq_23, aq_24, aq_25, aq_26, aq_27, aq_29, aq_32, aq_33, aq_34, aq_37, aq_38, aq_39, aq_42, aq_43, aq_44, aq_47, aq_48, aq_49, aq_51, aq_53, aq_54, aq_55, aq_56, aq_57, aq_58, aq_59, aq_60, aq_61, aq_62, aq_63, aq_64, aq_65, aq_66, aq_67, aq_68, aq_69, aq_70, aq_71, aq_72, aq_73, aq_74, aq_75, aq_76, aq_77, aq_78, aq_79, aq_80, aq_81]
end Wait77
