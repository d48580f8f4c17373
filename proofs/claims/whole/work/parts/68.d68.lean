-- answers: the reference
section Ans68
variable {S : St9} {z : Nat → Nat → Int32} {w : Nat → Option Nat} {f c s p M sz data : Nat} {P : Nat → Nat}
theorem m99 (hE : mE S z) (hW : wE S) (hpt : p < 8) (hP : mb z 61 M P) (hM : M ≤ 4100) (h0 : 20 ≤ hl P) (h12 : z 52 12 = nI sz) (hsz : sz = hl P + data) (hMq : hl P + data ≤ M) (hd8 : 8 ≤ data) (hd4 : data ≤ 4000) (h2 : cn S 2 = 0) (h11 : cn S 11 = 0) (hf : 30000 < f) : ∃ z', F_99 f 52 (nI p) (hq z w c s) = some (.inl none, hq z' w c s) ∧ mE (anS S p P data) z' ∧ (∀ a, a ≠ 52 → a < 61 ∨ 67 < a → z' a = z a) ∧ ∀ k, k ≠ 12 → k ≠ 13 → k ≠ 19 → k ≠ 21 → z' 52 k = z 52 k := by
  have hl6 := hl_le P
  have l12 := n4_lt hP.1 12
  have l16 := n4_lt hP.1 16
  have b0 := hP.1 0
  have v0 := hP.2 0 (by omega)
  have e15 := (nI_mask (a := P 0) (by omega)).1
  have hm4 := hl_m (B := P)
  have i0 : ev_in 0 4100 = true := by decide
  have c0 : Int32.toNatClampNeg 0 = 0 := rfl
  have ip : ev_in (nI p) 8 = true := ev_in_nI hpt (by omega)
  have cp : (nI p).toNatClampNeg = p := nI_clamp (by omega)
  have hE' := hE
  have hW' := hW
  obtain ⟨E1, E2, E3, E4⟩ := hE
  obtain ⟨W1, ⟨W2, W3⟩, ⟨W4, W5⟩, W6⟩ := hW
  have g3 := (E1 p hpt).2.2
  by_cases hx : S 2 p = 0
  · refine ⟨z, ?_, ?_, fun _ _ _ => rfl, fun _ _ _ _ _ => rfl⟩
    · rw [if_pos hx] at g3
      simp only [F_99, ip, cp, g3, show ¬ (1 : Int32) = 0 by decide, dg_1, db_1, db_0, dl_1, dp_1, dv_1, dv_x, di_1, di_x, dw_1, ec_eq, ec_ne, ec_lt, ec_ge, ec_gt, ec_le, hq_z, hq_wz, hq_wc, hq_thr, hq_p29, hq_pw, eq_self, decide_true, decide_false, not_true_eq_false, not_false_eq_true, kq_0, kq_1, kq_2, kq_3, kq_4, kq_5, kq_6, kq_7, kq_8, kq_9, kq_10, kq_11, kq_12, kq_13, kq_14, kq_15, kq_16, kq_17, kq_18, kq_19, kq_20, kq_21, kq_22, kq_23, kq_24, kq_25, kq_26, kq_27, kq_28, kq_29, kq_30, kq_31, kq_32, kq_33, kq_34, kq_35, kq_36, kq_37, kq_38, kq_39, kq_40, kq_41, kq_42, kq_43, kq_44, kq_45, kq_46, kq_47, kq_48, kq_49, kq_50, kq_51, kq_52, kq_53, kq_54, kq_55, kq_56, kq_57, kq_58, kq_59, kq_60, kq_61, kq_62, kq_63, kq_64, kq_65, kq_66, kq_67, kq_68, kq_69, kq_70, kq_71, kq_72, kq_73, kq_74, kq_75, kq_76, kq_77, kq_78, kq_79, kq_80, kq_81, pq_0_0, pq_0_1, pq_0_2, pq_0_3, pq_0_4, pq_0_5, pq_0_6, pq_0_7, pq_1_0, pq_1_1, pq_1_2, pq_1_3, pq_1_4, pq_1_5, pq_1_6, pq_1_7, pq_10_0, pq_10_1, pq_10_2, pq_10_3, pq_15_0, pq_17_0, pq_19_0, pq_21_0, pq_21_1, pq_21_2, pq_21_3, pq_21_4, pq_21_5, pq_28_0, pq_30_0, pq_30_1, pq_30_2, pq_31_0, pq_35_0, pq_35_1, pq_35_2, pq_36_0, pq_40_0, pq_40_1, pq_40_2, pq_41_0, pq_45_0, pq_45_1, pq_45_2, pq_46_0, pq_50_0, pq_52_0, pq_52_1, pq_52_2, pq_52_3, pq_52_4, pq_52_5, pq_52_6, pq_52_8, pq_52_10, pq_52_11, pq_52_14, pq_52_15, pq_52_16, pq_52_17, pq_52_18, pq_52_27, pq_52_29, pq_52_30, pq_52_31, pq_52_32, pq_52_33, pq_52_34, pq_52_35, pq_52_36, pq_52_37, pq_52_38, pq_52_39, pq_52_40, pq_52_41, aq_1, aq_11, aq_12, aq_13, aq_14, aq_16, aq_18, aq_20, aq_22, aq_23, aq_24, aq_25, aq_26, aq_27, aq_29, aq_32, aq_33, aq_34, aq_37, aq_38, aq_39, aq_42, aq_43, aq_44, aq_47, aq_48, aq_49, aq_51, aq_53, aq_54, aq_55, aq_56, aq_57, aq_58, aq_59, aq_60, aq_61, aq_62, aq_63, aq_64, aq_65, aq_66, aq_67, aq_68, aq_69, aq_70, aq_71, aq_72, aq_73, aq_74, aq_75, aq_76, aq_77, aq_78, aq_79, aq_80, aq_81]
    · unfold anS; rw [if_pos hx]; exact hE'
  rw [if_neg hx] at g3
  have hmt := mtN_e hW' hpt
  have q90a : F_90 f 61 12 (hq z w c s) = some (.inl (some (.int (nI (n4 P 12)))), hq z w c s) := n90 (t := 12) kq_61 hP hM (by omega) (by omega)
  have q90b : F_90 f 61 16 (hq z w c s) = some (.inl (some (.int (nI (n4 P 16)))), hq z w c s) := n90 (t := 16) kq_61 hP hM (by omega) (by omega)
  obtain ⟨z2, k1, k2, k3, k4, k5⟩ := m97 (f := f) (w := w) (c := c) (s := s) (z := z) (id := cn S 4) (src := n4 P 16) (dst := n4 P 12) (E3.trans W4) W5 l16 l12 (by omega)
  have k62 : ∀ z, hp_k (hq z w c s) 62 = some (64, 4200) := fun z => kq_62
  have hP2 : mb z2 61 M P := ⟨hP.1, fun i hi => by rw [k3 61 (by omega) (by omega)]; exact hP.2 i hi⟩
  -- the data
  have s2 := lp_99a (f := f) (w := w) (c := c) (s := s) (l1 := nI p) (l2 := hl P) (l3 := data) (by omega) data 0 (f - data) z2 (by omega)
  rw [show f - data + data = f by omega] at s2
  obtain ⟨z3, e3⟩ : ∃ x, x = cpz z2 62 61 (hl P + 0) (20 + 0) data := ⟨_, rfl⟩
  rw [← e3] at s2
  have n3 : ∀ a, a ≠ 62 → z3 a = z2 a := fun a ha => by rw [e3, cpz_ne ha]
  have B3 := mb_cp (d := 20 + 0) (s := hl P + 0) (q := data) (M2 := 20 + data) k2 hP2 (by omega) (fun i hi h => by omega)
  rw [← e3] at B3
  obtain ⟨z4, e4⟩ : ∃ x, x = va_up z3 62 (upd (z3 62) 20 0) := ⟨_, rfl⟩
  have n4' : ∀ a, a ≠ 62 → z4 a = z2 a := fun a ha => by rw [e4, va_up_ne _ _ ha, n3 a ha]
  have B4 := mb_1 (t := 20) (M2 := 20 + data) (v := 0) B3 (by omega) (fun i hi h => by omega)
  have e4' : va_up z3 62 (upd (z3 62) 20 (nI 0)) = z4 := e4.symm
  rw [e4'] at B4
  have hD : ∀ i, anD P i < 256 := fun i => by unfold anD; split; omega; exact hP.1 _
  have B5 : mb z4 62 (20 + data) (rpQ 1157627904 (cn S 4) (n4 P 16) (n4 P 12) (anD P)) := by
    refine mb_of B4 (rpQ_lt hD _ _ _ _) (fun i hi => ?_)
    unfold rpQ b1 anD
    dsimp only
    by_cases h : i < 20
    · rw [if_pos h, if_neg (by omega), if_neg (by omega)]
    · rw [if_neg h]
      by_cases h20 : i = 20
      · rw [if_pos h20, if_pos (by omega)]
      · rw [if_neg h20, if_pos (by omega), if_neg (by omega), show hl P + 0 + (i - (20 + 0)) = hl P + (i - 20) by omega]
  obtain ⟨K, eK⟩ : ∃ x, x = ck (sN (rpQ 1157627904 (cn S 4) (n4 P 16) (n4 P 12) (anD P)) 20 2 data) := ⟨_, rfl⟩
  have hK : K < 65536 := by rw [eK]; exact ck_lt _
  have q87 : F_87 f 62 20 (nI data) 2 (hq z4 w c s) = some (.inl (some (.int (nI K))), hq z4 w c s) := by
    rw [eK]; exact t87 (at_ := 20) (sk := 2) (N := 4200) k62 (by omega) (by omega) (by omega) B5.1 (fun i _ h _ _ => B5.2 i (by omega)) (by omega)
  obtain ⟨z5, e5⟩ : ∃ x, x = u2z z4 62 22 K := ⟨_, rfl⟩
  have q88 : F_88 f 62 22 (nI K) (hq z4 w c s) = some (.inl none, hq z5 w c s) := by rw [e5]; exact m88 (t := 22) (N := 4200) k62 (by omega) (by omega) (by omega)
  have n5' : ∀ a, a ≠ 62 → z5 a = z2 a := fun a ha => by rw [e5, u2z_ne ha, n4' a ha]
  obtain ⟨R, eR⟩ : ∃ x, x = rpB 1157627904 (cn S 4) (n4 P 16) (n4 P 12) data (anD P) := ⟨_, rfl⟩
  have B6 : mb z5 62 (20 + data) R := by
    rw [eR]; unfold rpB; rw [← eK, e5]; exact mb_u2 B5 (fun i hi _ _ => hi)
  obtain ⟨z6, e6⟩ : ∃ x, x = va_up z5 52 (upd (z5 52) 12 (nI (20 + data))) := ⟨_, rfl⟩
  have n6' : ∀ a, a ≠ 52 → z6 a = z5 a := fun a ha => by rw [e6, va_up_ne _ _ ha]
  have m6 : ∀ k, k ≠ 12 → k ≠ 21 → z6 52 k = z 52 k := fun k h12 h21 => by rw [e6, va_up_self, pk_un h12, n5' 52 (by omega), k5 k h21]
  have g12 : z6 52 12 = nI (20 + data) := by rw [e6, va_up_self, pk_us]
  have s4 := lp_99b (f := f) (w := w) (c := c) (s := s) (l1 := nI p) (sz := 20 + data) (by omega) (20 + data) 0 (f - (20 + data)) z6 g12 (by omega)
  rw [show f - (20 + data) + (20 + data) = f by omega] at s4
  obtain ⟨z7, e7⟩ : ∃ x, x = cpz z6 61 62 (0 + 0) (0 + 0) (20 + data) := ⟨_, rfl⟩
  rw [← e7] at s4
  have n7 : ∀ a, a ≠ 61 → z7 a = z6 a := fun a ha => by rw [e7, cpz_ne ha]
  have B7 : mb z7 61 (20 + data) R := ⟨B6.1, fun i hi => by
    rw [e7, cpz_at, if_pos (by omega), show 0 + 0 + (i - (0 + 0)) = i by omega, n6' 62 (by omega)]; exact B6.2 i hi⟩
  have hlR : hl R = 20 := by rw [eR]; exact rp_h (by omega) (by omega)
  have O7 : OM (rpS S) z7 := OM_S E4 (rpS_3 (by omega)) (rpS_3 (by omega)) (fun k _ _ => rpS_k (by omega)) (fun a _ _ => by rw [n7 a (by omega), n6' a (by omega), n5' a (by omega), k3 a (by omega) (by omega)]) (by rw [n7 52 (by omega), m6 19 (by omega) (by omega)])
  obtain ⟨z8, j1, j2, j3, j4⟩ := m95 (f := f) (w := w) (c := c) (s := s) (next := 0) (S := rpS S) (k := p) (m := mtN S p) (data := data) (sz := 20 + data) hpt B7 (by rw [hlR]) (by omega) (by omega) (by rw [n7 52 (by omega)]; exact g12) (by rw [n7 54 (by omega), n6' 54 (by omega), n5' 54 (by omega), k3 54 (by omega) (by omega), (E1 p hpt).2.1]; exact hmt.1) hmt.2.1 hmt.2.2 O7 (rpS_ow W6) (by rw [hlR, rpS_c (by omega), rpS_c (by omega), h2, h11]; exact cap_a hmt.2.1 hd4) (wo_20 hlR) (by rw [eR, rp_6]; omega) (by omega)
  obtain ⟨g, hg⟩ : ∃ g, f - data = g + 1 := ⟨f - data - 1, by omega⟩
  rw [hg] at s2
  obtain ⟨g', hg'⟩ : ∃ g, f - (20 + data) = g + 1 := ⟨f - (20 + data) - 1, by omega⟩
  rw [hg'] at s4
  have y0 : nI data ≤ nI (0 + data) := nI_le (by omega) (by omega)
  have y1 : nI (20 + data) ≤ nI (0 + (20 + data)) := nI_le (by omega) (by omega)
  have y2 : z7 52 12 = nI (20 + data) := by rw [n7 52 (by omega)]; exact g12
  have y3 : (20 : Int32) + nI data = nI (20 + data) := nI_add 20 _
  have i20 : ev_in 20 4200 = true := by decide
  have c20 : Int32.toNatClampNeg 20 = 20 := rfl
  have s5 : B_99_124 f f 52 (nI p) 0 (hq z6 w c s) = some (.inl none, hq z8 w c s) := by
    refine Eq.trans s4 ?_
    simp only [B_99_124, y1, y2, j1, dg_1, db_1, db_0, dl_1, dp_1, dv_1, dv_x, di_1, di_x, dw_1, ec_eq, ec_ne, ec_lt, ec_ge, ec_gt, ec_le, hq_z, hq_wz, hq_wc, hq_thr, hq_p29, hq_pw, eq_self, decide_true, decide_false, not_true_eq_false, not_false_eq_true, kq_0, kq_1, kq_2, kq_3, kq_4, kq_5, kq_6, kq_7, kq_8, kq_9, kq_10, kq_11, kq_12, kq_13, kq_14, kq_15, kq_16, kq_17, kq_18, kq_19, kq_20, kq_21, kq_22, kq_23, kq_24, kq_25, kq_26, kq_27, kq_28, kq_29, kq_30, kq_31, kq_32, kq_33, kq_34, kq_35, kq_36, kq_37, kq_38, kq_39, kq_40, kq_41, kq_42, kq_43, kq_44, kq_45, kq_46, kq_47, kq_48, kq_49, kq_50, kq_51, kq_52, kq_53, kq_54, kq_55, kq_56, kq_57, kq_58, kq_59, kq_60, kq_61, kq_62, kq_63, kq_64, kq_65, kq_66, kq_67, kq_68, kq_69, kq_70, kq_71, kq_72, kq_73, kq_74, kq_75, kq_76, kq_77, kq_78, kq_79, kq_80, kq_81, pq_0_0, pq_0_1, pq_0_2, pq_0_3, pq_0_4, pq_0_5, pq_0_6, pq_0_7, pq_1_0, pq_1_1, pq_1_2, pq_1_3, pq_1_4, pq_1_5, pq_1_6, pq_1_7, pq_10_0, pq_10_1, pq_10_2, pq_10_3, pq_15_0, pq_17_0, pq_19_0, pq_21_0, pq_21_1, pq_21_2, pq_21_3, pq_21_4, pq_21_5, pq_28_0, pq_30_0, pq_30_1, pq_30_2, pq_31_0, pq_35_0, pq_35_1, pq_35_2, pq_36_0, pq_40_0, pq_40_1, pq_40_2, pq_41_0, pq_45_0, pq_45_1, pq_45_2, pq_46_0, pq_50_0, pq_52_0, pq_52_1, pq_52_2, pq_52_3, pq_52_4, pq_52_5, pq_52_6, pq_52_8, pq_52_10, pq_52_11, pq_52_14, pq_52_15, pq_52_16, pq_52_17, pq_52_18, pq_52_27, pq_52_29, pq_52_30, pq_52_31, pq_52_32, pq_52_33, pq_52_34, pq_52_35, pq_52_36, pq_52_37, pq_52_38, pq_52_39, pq_52_40, pq_52_41, aq_1, aq_11, aq_12, aq_13, aq_14, aq_16, aq_18, aq_20, aq_22, aq_23, aq_24, aq_25, aq_26, aq_27, aq_29, aq_32, aq_33, aq_34, aq_37, aq_38, aq_39, aq_42, aq_43, aq_44, aq_47, aq_48, aq_49, aq_51, aq_53, aq_54, aq_55, aq_56, aq_57, aq_58, aq_59, aq_60, aq_61, aq_62, aq_63, aq_64, aq_65, aq_66, aq_67, aq_68, aq_69, aq_70, aq_71, aq_72, aq_73, aq_74, aq_75, aq_76, aq_77, aq_78, aq_79, aq_80, aq_81]
  have s3 : B_99_54 f f 52 (nI p) (nI (hl P)) (nI data) 0 (hq z2 w c s) = some (.inl none, hq z8 w c s) := by
    refine Eq.trans s2 ?_
    simp only [B_99_54, y0, i20, c20, ← e4, q87, q88, y3, ← e6, s5, dg_1, db_1, db_0, dl_1, dp_1, dv_1, dv_x, di_1, di_x, dw_1, ec_eq, ec_ne, ec_lt, ec_ge, ec_gt, ec_le, hq_z, hq_wz, hq_wc, hq_thr, hq_p29, hq_pw, eq_self, decide_true, decide_false, not_true_eq_false, not_false_eq_true, kq_0, kq_1, kq_2, kq_3, kq_4, kq_5, kq_6, kq_7, kq_8, kq_9, kq_10, kq_11, kq_12, kq_13, kq_14, kq_15, kq_16, kq_17, kq_18, kq_19, kq_20, kq_21, kq_22, kq_23, kq_24, kq_25, kq_26, kq_27, kq_28, kq_29, kq_30, kq_31, kq_32, kq_33, kq_34, kq_35, kq_36, kq_37, kq_38, kq_39, kq_40, kq_41, kq_42, kq_43, kq_44, kq_45, kq_46, kq_47, kq_48, kq_49, kq_50, kq_51, kq_52, kq_53, kq_54, kq_55, kq_56, kq_57, kq_58, kq_59, kq_60, kq_61, kq_62, kq_63, kq_64, kq_65, kq_66, kq_67, kq_68, kq_69, kq_70, kq_71, kq_72, kq_73, kq_74, kq_75, kq_76, kq_77, kq_78, kq_79, kq_80, kq_81, pq_0_0, pq_0_1, pq_0_2, pq_0_3, pq_0_4, pq_0_5, pq_0_6, pq_0_7, pq_1_0, pq_1_1, pq_1_2, pq_1_3, pq_1_4, pq_1_5, pq_1_6, pq_1_7, pq_10_0, pq_10_1, pq_10_2, pq_10_3, pq_15_0, pq_17_0, pq_19_0, pq_21_0, pq_21_1, pq_21_2, pq_21_3, pq_21_4, pq_21_5, pq_28_0, pq_30_0, pq_30_1, pq_30_2, pq_31_0, pq_35_0, pq_35_1, pq_35_2, pq_36_0, pq_40_0, pq_40_1, pq_40_2, pq_41_0, pq_45_0, pq_45_1, pq_45_2, pq_46_0, pq_50_0, pq_52_0, pq_52_1, pq_52_2, pq_52_3, pq_52_4, pq_52_5, pq_52_6, pq_52_8, pq_52_10, pq_52_11, pq_52_14, pq_52_15, pq_52_16, pq_52_17, pq_52_18, pq_52_27, pq_52_29, pq_52_30, pq_52_31, pq_52_32, pq_52_33, pq_52_34, pq_52_35, pq_52_36, pq_52_37, pq_52_38, pq_52_39, pq_52_40, pq_52_41, aq_1, aq_11, aq_12, aq_13, aq_14, aq_16, aq_18, aq_20, aq_22, aq_23, aq_24, aq_25, aq_26, aq_27, aq_29, aq_32, aq_33, aq_34, aq_37, aq_38, aq_39, aq_42, aq_43, aq_44, aq_47, aq_48, aq_49, aq_51, aq_53, aq_54, aq_55, aq_56, aq_57, aq_58, aq_59, aq_60, aq_61, aq_62, aq_63, aq_64, aq_65, aq_66, aq_67, aq_68, aq_69, aq_70, aq_71, aq_72, aq_73, aq_74, aq_75, aq_76, aq_77, aq_78, aq_79, aq_80, aq_81]
  have y4 : nI sz - nI (hl P) = nI data := by rw [nI_subN (by omega)]; exact congrArg nI (by omega)
  have hS : sdS (rpS S) R data (mtN S p) (nI p) 0 = anS S p P data := by
    unfold anS; rw [if_neg hx]
    apply sdS_c hlR (rp_h (by unfold vL; omega) (by unfold vL; omega))
    intro i hi i2 i3
    rw [eR]; exact (rp_v hd4 i2 i3).symm
  refine ⟨z8, ?_, ?_, ?_, ?_⟩
  · simp only [F_99, ip, cp, g3, i0, c0, q90b, q90a, k1, v0, e15, hm4, h12, y4, s3, dg_1, db_1, db_0, dl_1, dp_1, dv_1, dv_x, di_1, di_x, dw_1, ec_eq, ec_ne, ec_lt, ec_ge, ec_gt, ec_le, hq_z, hq_wz, hq_wc, hq_thr, hq_p29, hq_pw, eq_self, decide_true, decide_false, not_true_eq_false, not_false_eq_true, kq_0, kq_1, kq_2, kq_3, kq_4, kq_5, kq_6, kq_7, kq_8, kq_9, kq_10, kq_11, kq_12, kq_13, kq_14, kq_15, kq_16, kq_17, kq_18, kq_19, kq_20, kq_21, kq_22, kq_23, kq_24, kq_25, kq_26, kq_27, kq_28, kq_29, kq_30, kq_31, kq_32, kq_33, kq_34, kq_35, kq_36, kq_37, kq_38, kq_39, kq_40, kq_41, kq_42, kq_43, kq_44, kq_45, kq_46, kq_47, kq_48, kq_49, kq_50, kq_51, kq_52, kq_53, kq_54, kq_55, kq_56, kq_57, kq_58, kq_59, kq_60, kq_61, kq_62, kq_63, kq_64, kq_65, kq_66, kq_67, kq_68, kq_69, kq_70, kq_71, kq_72, kq_73, kq_74, kq_75, kq_76, kq_77, kq_78, kq_79, kq_80, kq_81, pq_0_0, pq_0_1, pq_0_2, pq_0_3, pq_0_4, pq_0_5, pq_0_6, pq_0_7, pq_1_0, pq_1_1, pq_1_2, pq_1_3, pq_1_4, pq_1_5, pq_1_6, pq_1_7, pq_10_0, pq_10_1, pq_10_2, pq_10_3, pq_15_0, pq_17_0, pq_19_0, pq_21_0, pq_21_1, pq_21_2, pq_21_3, pq_21_4, pq_21_5, pq_28_0, pq_30_0, pq_30_1, pq_30_2, pq_31_0, pq_35_0, pq_35_1, pq_35_2, pq_36_0, pq_40_0, pq_40_1, pq_40_2, pq_41_0, pq_45_0, pq_45_1, pq_45_2, pq_46_0, pq_50_0, pq_52_0, pq_52_1, pq_52_2, pq_52_3, pq_52_4, pq_52_5, pq_52_6, pq_52_8, pq_52_10, pq_52_11, pq_52_14, pq_52_15, pq_52_16, pq_52_17, pq_52_18, pq_52_27, pq_52_29, pq_52_30, pq_52_31, pq_52_32, pq_52_33, pq_52_34, pq_52_35, pq_52_36, pq_52_37, pq_52_38, pq_52_39, pq_52_40, pq_52_41, aq_1, aq_11, aq_12, aq_13, aq_14, aq_16, aq_18, aq_20, aq_22, aq_23, aq_24, aq_25, aq_26, aq_27, aq_29, aq_32, aq_33, aq_34, aq_37, aq_38, aq_39, aq_42, aq_43, aq_44, aq_47, aq_48, aq_49, aq_51, aq_53, aq_54, aq_55, aq_56, aq_57, aq_58, aq_59, aq_60, aq_61, aq_62, aq_63, aq_64, aq_65, aq_66, aq_67, aq_68, aq_69, aq_70, aq_71, aq_72, aq_73, aq_74, aq_75, aq_76, aq_77, aq_78, aq_79, aq_80, aq_81]
  · rw [← hS]
    obtain ⟨-, o1, o2, o3, o4⟩ := sdS_all (S := rpS S) (P := R) (data := data) (m := mtN S p) (way := nI p) (next := 0) (by rw [hlR, rpS_c (by omega), rpS_c (by omega), h2, h11]; exact cap_a hmt.2.1 hd4) (rpS_ow W6) (by omega) hmt.2.1 hmt.2.2
    refine ⟨fun i hi => ?_, ?_, ?_, j2⟩
    · rw [j3 53 (by omega) (by omega), j3 54 (by omega) (by omega), j3 55 (by omega) (by omega), n7 53 (by omega), n7 54 (by omega), n7 55 (by omega), n6' 53 (by omega), n6' 54 (by omega), n6' 55 (by omega), n5' 53 (by omega), n5' 54 (by omega), n5' 55 (by omega), k3 53 (by omega) (by omega), k3 54 (by omega) (by omega), k3 55 (by omega) (by omega), o3 0 (by omega) (by omega), o3 1 (by omega) (by omega), o3 2 (by omega) (by omega), rpS_k (by omega), rpS_k (by omega), rpS_k (by omega)]; exact E1 i hi
    · rw [j4 20 (by omega) (by omega), n7 52 (by omega), m6 20 (by omega) (by omega), o4 3 (by omega) (by omega), rpS_3 (by omega)]; exact E2
    · rw [j4 21 (by omega) (by omega), n7 52 (by omega), e6, va_up_self, pk_un (by omega), n5' 52 (by omega), k4, o4 4 (by omega) (by omega), rpS_4]
  · intro a h52 ha
    rw [j3 a (by omega) h52, n7 a (by omega), n6' a h52, n5' a (by omega), k3 a h52 (by omega)]
  · intro k h12' h13 h19 h21
    rw [j4 k h13 h19, n7 52 (by omega), m6 k h12' h21]
end Ans68
