-- waits of the reference: joins, the whole
section Wait82
variable {S : St9} {z : Nat → Nat → Int32} {w : Nat → Option Nat} {f c s n data p t : Nat} {P : Nat → Nat} {E : Nat → Int32}
theorem n33_tab : ∀ b : Fin 256, nI b.val &&& (-33 : Int32) = nI (b.val - b.val / 32 % 2 * 32) := by decide +kernel
theorem m_fin {e : Nat} (hM : wM S z) (hX : wX S) (he : e < cn S 10) (hpos : 0 < er (S (15 + e))) (hf : 20000 < f) : ∃ z', B_105_464 f 52 (nI e) (hq z w c s) = some (.inl (some (.int (if cpE (S (15 + e)) then 1 else 0))), hq z' w c s) ∧ wM (if cpE (S (15 + e)) then rmS S e else S) z' ∧ (∀ r, r ≠ 52 → r ≠ 61 → r < 69 ∨ 81 < r → z' r = z r) ∧ (∀ j, j ≠ 12 → j ≠ 28 → z' 52 j = z 52 j) ∧ (cpE (S (15 + e)) → mb z' 61 (hl (fq (S (15 + e))) + er (S (15 + e))) (whB (S (15 + e))) ∧ z' 52 12 = nI (hl (fq (S (15 + e))) + er (S (15 + e)))) := by
  obtain ⟨X1, X2⟩ := id hX
  have hE := X2 e he
  obtain ⟨⟨m0, m1, m2, m3, m4, m5⟩, m6, m7, m8, m9⟩ := hM.1 e he
  generalize hEE : S (15 + e) = E at *
  obtain ⟨-, -, -, ⟨w4, w5⟩, w6, w7, w8, -, wA, wB, wC⟩ := id hE
  have ie : ev_in (nI e) 4 = true := ev_in_nI (by omega) (by omega)
  have ce : (nI e).toNatClampNeg = e := nI_clamp (by omega)
  rcases w6 with h6 | h6
  · have hn : ¬ cpE E := fun h => by have h9 := h.1; rw [h6] at h9; exact absurd h9 (by decide)
    rw [if_pos h6] at m4
    rw [if_neg hn, if_neg hn]
    refine ⟨z, ?_, hM, fun _ _ _ _ => rfl, fun _ _ _ => rfl, fun h => absurd h hn⟩
    simp only [B_105_464, ie, ce, m4, show ¬ (0 : Int32) ≤ -1 by decide, dg_1, db_1, db_0, dl_1, dp_1, dv_1, dv_x, di_1, di_x, dw_1, ec_eq, ec_ne, ec_lt, ec_ge, ec_gt, ec_le, hq_z, hq_wz, hq_wc, hq_thr, hq_p29, hq_pw, eq_self, decide_true, decide_false, not_true_eq_false, not_false_eq_true, kq_0, kq_1, kq_2, kq_3, kq_4, kq_5, kq_6, kq_7, kq_8, kq_9, kq_10, kq_11, kq_12, kq_13, kq_14, kq_15, kq_16, kq_17, kq_18, kq_19, kq_20, kq_21, kq_22, kq_23, kq_24, kq_25, kq_26, kq_27, kq_28, kq_29, kq_30, kq_31, kq_32, kq_33, kq_34, kq_35, kq_36, kq_37, kq_38, kq_39, kq_40, kq_41, kq_42, kq_43, kq_44, kq_45, kq_46, kq_47, kq_48, kq_49, kq_50, kq_51, kq_52, kq_53, kq_54, kq_55, kq_56, kq_57, kq_58, kq_59, kq_60, kq_61, kq_62, kq_63, kq_64, kq_65, kq_66, kq_67, kq_68, kq_69, kq_70, kq_71, kq_72, kq_73, kq_74, kq_75, kq_76, kq_77, kq_78, kq_79, kq_80, kq_81, pq_0_0, pq_0_1, pq_0_2, pq_0_3, pq_0_4, pq_0_5, pq_0_6, pq_0_7, pq_1_0, pq_1_1, pq_1_2, pq_1_3, pq_1_4, pq_1_5, pq_1_6, pq_1_7, pq_10_0, pq_10_1, pq_10_2, pq_10_3, pq_15_0, pq_17_0, pq_19_0, pq_21_0, pq_21_1, pq_21_2, pq_21_3, pq_21_4, pq_21_5, pq_28_0, pq_30_0, pq_30_1, pq_30_2, pq_31_0, pq_35_0, pq_35_1, pq_35_2, pq_36_0, pq_40_0, pq_40_1, pq_40_2, pq_41_0, pq_45_0, pq_45_1, pq_45_2, pq_46_0, pq_50_0, pq_52_0, pq_52_1, pq_52_2, pq_52_3, pq_52_4, pq_52_5, pq_52_6, pq_52_8, pq_52_10, pq_52_11, pq_52_14, pq_52_15, pq_52_16, pq_52_17, pq_52_18, pq_52_27, pq_52_29, pq_52_30, pq_52_31, pq_52_32, pq_52_33, pq_52_34, pq_52_35, pq_52_36, pq_52_37, pq_52_38, pq_52_39, pq_52_40, pq_52_41, aq_1, aq_11, aq_12, aq_13, aq_14, aq_16, aq_18, aq_20, aq_22, aq_23, aq_24, aq_25, aq_26, aq_27, aq_29, aq_32, aq_33, aq_34, aq_37, aq_38, aq_39, aq_42, aq_43, aq_44, aq_47, aq_48, aq_49, aq_51, aq_53, aq_54, aq_55, aq_56, aq_57, aq_58, aq_59, aq_60, aq_61, aq_62, aq_63, aq_64, aq_65, aq_66, aq_67, aq_68, aq_69, aq_70, aq_71, aq_72, aq_73, aq_74, aq_75, aq_76, aq_77, aq_78, aq_79, aq_80, aq_81]
  rw [if_neg (by rw [h6]; decide), w4] at m4
  have p0 : (0 : Int32) ≤ nI (er E) := nI_pos' (by omega)
  have s1 : B_105_464 f 52 (nI e) (hq z w c s) = B_105_479 f f 52 (nI e) 0 (hq z w c s) := by
    simp only [B_105_464, ie, ce, m4, p0, dg_1, db_1, db_0, dl_1, dp_1, dv_1, dv_x, di_1, di_x, dw_1, ec_eq, ec_ne, ec_lt, ec_ge, ec_gt, ec_le, hq_z, hq_wz, hq_wc, hq_thr, hq_p29, hq_pw, eq_self, decide_true, decide_false, not_true_eq_false, not_false_eq_true, kq_0, kq_1, kq_2, kq_3, kq_4, kq_5, kq_6, kq_7, kq_8, kq_9, kq_10, kq_11, kq_12, kq_13, kq_14, kq_15, kq_16, kq_17, kq_18, kq_19, kq_20, kq_21, kq_22, kq_23, kq_24, kq_25, kq_26, kq_27, kq_28, kq_29, kq_30, kq_31, kq_32, kq_33, kq_34, kq_35, kq_36, kq_37, kq_38, kq_39, kq_40, kq_41, kq_42, kq_43, kq_44, kq_45, kq_46, kq_47, kq_48, kq_49, kq_50, kq_51, kq_52, kq_53, kq_54, kq_55, kq_56, kq_57, kq_58, kq_59, kq_60, kq_61, kq_62, kq_63, kq_64, kq_65, kq_66, kq_67, kq_68, kq_69, kq_70, kq_71, kq_72, kq_73, kq_74, kq_75, kq_76, kq_77, kq_78, kq_79, kq_80, kq_81, pq_0_0, pq_0_1, pq_0_2, pq_0_3, pq_0_4, pq_0_5, pq_0_6, pq_0_7, pq_1_0, pq_1_1, pq_1_2, pq_1_3, pq_1_4, pq_1_5, pq_1_6, pq_1_7, pq_10_0, pq_10_1, pq_10_2, pq_10_3, pq_15_0, pq_17_0, pq_19_0, pq_21_0, pq_21_1, pq_21_2, pq_21_3, pq_21_4, pq_21_5, pq_28_0, pq_30_0, pq_30_1, pq_30_2, pq_31_0, pq_35_0, pq_35_1, pq_35_2, pq_36_0, pq_40_0, pq_40_1, pq_40_2, pq_41_0, pq_45_0, pq_45_1, pq_45_2, pq_46_0, pq_50_0, pq_52_0, pq_52_1, pq_52_2, pq_52_3, pq_52_4, pq_52_5, pq_52_6, pq_52_8, pq_52_10, pq_52_11, pq_52_14, pq_52_15, pq_52_16, pq_52_17, pq_52_18, pq_52_27, pq_52_29, pq_52_30, pq_52_31, pq_52_32, pq_52_33, pq_52_34, pq_52_35, pq_52_36, pq_52_37, pq_52_38, pq_52_39, pq_52_40, pq_52_41, aq_1, aq_11, aq_12, aq_13, aq_14, aq_16, aq_18, aq_20, aq_22, aq_23, aq_24, aq_25, aq_26, aq_27, aq_29, aq_32, aq_33, aq_34, aq_37, aq_38, aq_39, aq_42, aq_43, aq_44, aq_47, aq_48, aq_49, aq_51, aq_53, aq_54, aq_55, aq_56, aq_57, aq_58, aq_59, aq_60, aq_61, aq_62, aq_63, aq_64, aq_65, aq_66, aq_67, aq_68, aq_69, aq_70, aq_71, aq_72, aq_73, aq_74, aq_75, aq_76, aq_77, aq_78, aq_79, aq_80, aq_81]
  by_cases hcp : cpE E
  case neg =>
    rw [if_neg hcp, if_neg hcp]
    have hx : ∃ i, 0 ≤ i ∧ i < er E ∧ ¬ thE E i := by
      apply Classical.byContradiction
      intro h9
      apply hcp
      refine ⟨h6, (cp_all hE).mpr (fun i hi => ?_)⟩
      apply Classical.byContradiction
      intro h8; exact h9 ⟨i, by omega, hi, h8⟩
    refine ⟨z, s1.trans (lp_105n (show e < 4 by omega) w5 m4 m9 (er E) 0 f (by omega) (by omega) hx), hM, fun _ _ _ _ => rfl, fun _ _ _ => rfl, fun h => absurd h hcp⟩
  rw [if_pos hcp, if_pos hcp]
  have hall := (cp_all hE).mp hcp.2
  have h7 : E 7 = 1 := wA (hall 0 hpos).1
  obtain ⟨-, v1, v2, v3⟩ := wB h7
  obtain ⟨k1, k2, k3, k4, k5⟩ := m7 h7
  have hl6 := hl_le (fq E)
  have s2 := lp_105t (f := f) (w := w) (c := c) (s := s) (show e < 4 by omega) w5 m4 m9 (er E) 0 f (by omega) (by omega) (fun i _ hi => hall i hi)
  rw [k1] at s2
  have s3 := lp_105d (f := f) (w := w) (c := c) (s := s) (l7 := hl (fq E)) (e := e) (by omega) hl6 (hl (fq E)) 0 (f - hl (fq E)) z (by omega)
  rw [show f - hl (fq E) + hl (fq E) = f by omega] at s3
  obtain ⟨z1, e1⟩ : ∃ x, x = cpz z 61 76 (60 * e + 0) (0 + 0) (hl (fq E)) := ⟨_, rfl⟩
  rw [← e1] at s3
  have n1 : ∀ r, r ≠ 61 → z1 r = z r := fun r h1 => by rw [e1, cpz_ne h1]
  have s4 := lp_105e (f := f) (w := w) (c := c) (s := s) (l7 := hl (fq E)) (e := e) (rc := er E) (by omega) hl6 w5 (er E) 0 (f - er E) z1 (by rw [n1 73 (by omega)]; exact m4) (by omega)
  rw [show f - er E + er E = f by omega] at s4
  obtain ⟨z2, e2⟩ : ∃ x, x = cpz z1 61 80 (4000 * e + 0) (hl (fq E) + 0) (er E) := ⟨_, rfl⟩
  rw [← e2] at s4
  have n2' : ∀ r, r ≠ 61 → z2 r = z r := fun r h1 => by rw [e2, cpz_ne h1, n1 r h1]
  have B2 : mb z2 61 (hl (fq E) + er E) (hp2 (fq E) (ebN E) (hl (fq E)) 0) := by
    refine ⟨hp2_lt (fq_lt E) (eb_lt E) _ _, fun i hi => ?_⟩
    rw [e2, cpz_at]
    unfold hp2
    by_cases h : i < hl (fq E)
    · rw [if_neg (by omega), if_pos h, e1, cpz_at, if_pos (by omega), show 60 * e + 0 + (i - (0 + 0)) = 60 * e + i by omega, k4 i h]
      exact v3 i (by omega)
    · rw [if_pos (by omega), if_neg h, n1 80 (by omega), show 4000 * e + 0 + (i - (hl (fq E) + 0)) = 4000 * e + (i - hl (fq E)) by omega, m8 _ (by omega) (hall _ (by omega)), show 0 + (i - hl (fq E)) = i - hl (fq E) by omega]
      obtain ⟨b, hb, hb2⟩ := wC (i - hl (fq E)) (by omega)
      have h4 : ebN E (i - hl (fq E)) = b := by unfold ebN; rw [hb2, nI_clamp (by omega)]; omega
      rw [h4, hb2]
  obtain ⟨z3, e3⟩ : ∃ x, x = va_up z2 52 (upd (z2 52) 12 (nI (hl (fq E) + er E))) := ⟨_, rfl⟩
  have n3 : ∀ r, r ≠ 52 → z3 r = z2 r := fun r h1 => by rw [e3, va_up_ne _ _ h1]
  have h6f : z3 61 6 = nI (fq E 6) := by
    rw [n3 61 (by omega), B2.2 6 (by omega)]
    unfold hp2; rw [if_pos (by omega)]
  have x33 : nI (fq E 6) &&& (-33 : Int32) = nI (fq E 6 - fq E 6 / 32 % 2 * 32) := n33_tab ⟨fq E 6, fq_lt E 6⟩
  have l6 := fq_lt E 6
  have l7 := fq_lt E 7
  obtain ⟨z4, e4⟩ : ∃ x, x = va_up z3 61 (upd (z3 61) 6 (nI (fq E 6 - fq E 6 / 32 % 2 * 32))) := ⟨_, rfl⟩
  have n4' : ∀ r, r ≠ 61 → z4 r = z3 r := fun r h1 => by rw [e4, va_up_ne _ _ h1]
  have B3 : mb z3 61 (hl (fq E) + er E) (hp2 (fq E) (ebN E) (hl (fq E)) 0) := ⟨B2.1, fun i hi => by rw [n3 61 (by omega)]; exact B2.2 i hi⟩
  have B4 := mb_1 (t := 6) (M2 := hl (fq E) + er E) (v := fq E 6 - fq E 6 / 32 % 2 * 32) B3 (by omega) (fun i hi _ => hi)
  rw [← e4] at B4
  have k61 : ∀ z, hp_k (hq z w c s) 61 = some (64, 4100) := fun z => kq_61
  obtain ⟨z5, e5⟩ : ∃ x, x = u2z z4 61 2 (hl (fq E) + er E) := ⟨_, rfl⟩
  have q88a : F_88 f 61 2 (nI (hl (fq E) + er E)) (hq z4 w c s) = some (.inl none, hq z5 w c s) := by rw [e5]; exact m88 (t := 2) (N := 4100) k61 (by omega) (by omega) (by omega)
  have n5' : ∀ r, r ≠ 61 → z5 r = z3 r := fun r h1 => by rw [e5, u2z_ne h1, n4' r h1]
  have B5 := mb_u2 (t := 2) (M2 := hl (fq E) + er E) (v := hl (fq E) + er E) B4 (fun i hi _ _ => hi)
  rw [← e5] at B5
  have B5' : mb z5 61 (hl (fq E) + er E) (whR E) := by
    refine mb_of B5 (whR_lt E) (fun i hi => ?_)
    have hX2 : n2 (fq E) 6 = fq E 6 * 256 + fq E 7 := by unfold n2; rfl
    have u1 : (n2 (fq E) 6 - n2 (fq E) 6 / 8192 % 2 * 8192) / 256 % 256 = fq E 6 - fq E 6 / 32 % 2 * 32 := by rw [hX2]; omega
    have u2 : (n2 (fq E) 6 - n2 (fq E) 6 / 8192 % 2 * 8192) % 256 = fq E 7 := by rw [hX2]; omega
    unfold whR
    generalize n2 (fq E) 6 - n2 (fq E) 6 / 8192 % 2 * 8192 = X at u1 u2
    by_cases h23 : i = 2 ∨ i = 3
    · rw [bu2_ne (t := 6) (by omega)]
      rcases h23 with h | h
      · rw [h]; unfold bu2 b1; rw [if_neg (by omega), if_pos rfl, if_neg (by omega), if_pos rfl]
      · rw [h]; unfold bu2 b1; rw [if_pos rfl, if_pos rfl]
    · rw [bu2_ne (t := 2) (by omega)]
      by_cases h6' : i = 6
      · rw [h6']
        unfold bu2 b1
        rw [if_pos rfl, if_neg (by omega), if_pos rfl, u1]
      · by_cases h7' : i = 7
        · rw [h7']
          unfold bu2 b1
          rw [if_neg (by omega), if_pos (by omega), u2]
          unfold hp2; rw [if_pos (by omega)]
        · rw [bu2_ne (t := 6) (by omega), bu2_ne (t := 2) (by omega)]
          unfold b1; rw [if_neg h6']
  obtain ⟨K, eK⟩ : ∃ x, x = ck (sN (whR E) 0 10 (hl (fq E))) := ⟨_, rfl⟩
  have hK : K < 65536 := by rw [eK]; exact ck_lt _
  have q87 : F_87 f 61 0 (nI (hl (fq E))) 10 (hq z5 w c s) = some (.inl (some (.int (nI K))), hq z5 w c s) := by
    rw [eK]; exact t87 (at_ := 0) (sk := 10) (N := 4100) k61 (by omega) (by omega) (by omega) B5'.1 (fun i _ h _ _ => B5'.2 i (by omega)) (by omega)
  obtain ⟨z6, e6⟩ : ∃ x, x = u2z z5 61 10 K := ⟨_, rfl⟩
  have q88b : F_88 f 61 10 (nI K) (hq z5 w c s) = some (.inl none, hq z6 w c s) := by rw [e6]; exact m88 (t := 10) (N := 4100) k61 (by omega) (by omega) (by omega)
  have n6' : ∀ r, r ≠ 61 → r ≠ 52 → z6 r = z r := fun r h1 h52 => by rw [e6, u2z_ne h1, n5' r h1, n3 r h52, n2' r h1]
  have m52 : ∀ j, j ≠ 12 → z6 52 j = z 52 j := fun j hj => by rw [e6, u2z_ne (by omega), n5' 52 (by omega), e3, va_up_self, pk_un hj, n2' 52 (by omega)]
  have B6 : mb z6 61 (hl (fq E) + er E) (whB E) := by
    unfold whB; rw [← eK, e6]; exact mb_u2 B5' (fun i hi _ _ => hi)
  have M6 : wM S z6 := by
    refine ⟨fun i hi => ?_, by rw [m52 28 (by omega)]; exact hM.2⟩
    have := hM.1 i hi
    unfold eMz at this ⊢
    rw [n6' 69 (by omega) (by omega), n6' 70 (by omega) (by omega), n6' 71 (by omega) (by omega), n6' 72 (by omega) (by omega), n6' 73 (by omega) (by omega), n6' 74 (by omega) (by omega), n6' 75 (by omega) (by omega), n6' 76 (by omega) (by omega), n6' 77 (by omega) (by omega), n6' 78 (by omega) (by omega), n6' 79 (by omega) (by omega), n6' 80 (by omega) (by omega), n6' 81 (by omega) (by omega)]
    exact this
  obtain ⟨z7, j1, j2, j3, j4⟩ := m101 (f := f) (w := w) (c := c) (s := s) (e := e) M6 hX he (by omega)
  obtain ⟨g1, hg1⟩ : ∃ g, f - hl (fq E) = g + 1 := ⟨f - hl (fq E) - 1, by omega⟩
  obtain ⟨g2, hg2⟩ : ∃ g, f - er E = g + 1 := ⟨f - er E - 1, by omega⟩
  rw [hg1] at s3
  rw [hg2] at s4
  have y1 : nI (hl (fq E)) ≤ nI (0 + hl (fq E)) := nI_le (by omega) (by omega)
  have y2 : nI (er E) ≤ nI (0 + er E) := nI_le (by omega) (by omega)
  have y3 : z2 73 e = nI (er E) := by rw [n2' 73 (by omega)]; exact m4
  have y4 : z4 52 12 = nI (hl (fq E) + er E) := by rw [n4' 52 (by omega), e3, va_up_self, pk_us]
  have i6 : ev_in 6 4100 = true := by decide
  have c6 : Int32.toNatClampNeg 6 = 6 := rfl
  have s5 : B_105_564 f f 52 (nI e) (nI (hl (fq E))) 0 (hq z1 w c s) = some (.inl (some (.int 1)), hq z7 w c s) := by
    refine Eq.trans s4 ?_
    simp only [B_105_564, ie, ce, y3, y2, nI_add, ← e3, i6, c6, h6f, x33, ← e4, y4, q88a, q87, q88b, j1, dg_1, db_1, db_0, dl_1, dp_1, dv_1, dv_x, di_1, di_x, dw_1, ec_eq, ec_ne, ec_lt, ec_ge, ec_gt, ec_le, hq_z, hq_wz, hq_wc, hq_thr, hq_p29, hq_pw, eq_self, decide_true, decide_false, not_true_eq_false, not_false_eq_true, kq_0, kq_1, kq_2, kq_3, kq_4, kq_5, kq_6, kq_7, kq_8, kq_9, kq_10, kq_11, kq_12, kq_13, kq_14, kq_15, kq_16, kq_17, kq_18, kq_19, kq_20, kq_21, kq_22, kq_23, kq_24, kq_25, kq_26, kq_27, kq_28, kq_29, kq_30, kq_31, kq_32, kq_33, kq_34, kq_35, kq_36, kq_37, kq_38, kq_39, kq_40, kq_41, kq_42, kq_43, kq_44, kq_45, kq_46, kq_47, kq_48, kq_49, kq_50, kq_51, kq_52, kq_53, kq_54, kq_55, kq_56, kq_57, kq_58, kq_59, kq_60, kq_61, kq_62, kq_63, kq_64, kq_65, kq_66, kq_67, kq_68, kq_69, kq_70, kq_71, kq_72, kq_73, kq_74, kq_75, kq_76, kq_77, kq_78, kq_79, kq_80, kq_81, pq_0_0, pq_0_1, pq_0_2, pq_0_3, pq_0_4, pq_0_5, pq_0_6, pq_0_7, pq_1_0, pq_1_1, pq_1_2, pq_1_3, pq_1_4, pq_1_5, pq_1_6, pq_1_7, pq_10_0, pq_10_1, pq_10_2, pq_10_3, pq_15_0, pq_17_0, pq_19_0, pq_21_0, pq_21_1, pq_21_2, pq_21_3, pq_21_4, pq_21_5, pq_28_0, pq_30_0, pq_30_1, pq_30_2, pq_31_0, pq_35_0, pq_35_1, pq_35_2, pq_36_0, pq_40_0, pq_40_1, pq_40_2, pq_41_0, pq_45_0, pq_45_1, pq_45_2, pq_46_0, pq_50_0, pq_52_0, pq_52_1, pq_52_2, pq_52_3, pq_52_4, pq_52_5, pq_52_6, pq_52_8, pq_52_10, pq_52_11, pq_52_14, pq_52_15, pq_52_16, pq_52_17, pq_52_18, pq_52_27, pq_52_29, pq_52_30, pq_52_31, pq_52_32, pq_52_33, pq_52_34, pq_52_35, pq_52_36, pq_52_37, pq_52_38, pq_52_39, pq_52_40, pq_52_41, aq_1, aq_11, aq_12, aq_13, aq_14, aq_16, aq_18, aq_20, aq_22, aq_23, aq_24, aq_25, aq_26, aq_27, aq_29, aq_32, aq_33, aq_34, aq_37, aq_38, aq_39, aq_42, aq_43, aq_44, aq_47, aq_48, aq_49, aq_51, aq_53, aq_54, aq_55, aq_56, aq_57, aq_58, aq_59, aq_60, aq_61, aq_62, aq_63, aq_64, aq_65, aq_66, aq_67, aq_68, aq_69, aq_70, aq_71, aq_72, aq_73, aq_74, aq_75, aq_76, aq_77, aq_78, aq_79, aq_80, aq_81]
  have s6 : B_105_528 f f 52 (nI e) (nI (hl (fq E))) 0 (hq z w c s) = some (.inl (some (.int 1)), hq z7 w c s) := by
    refine Eq.trans s3 ?_
    simp only [B_105_528, y1, s5, dg_1, db_1, db_0, dl_1, dp_1, dv_1, dv_x, di_1, di_x, dw_1, ec_eq, ec_ne, ec_lt, ec_ge, ec_gt, ec_le, hq_z, hq_wz, hq_wc, hq_thr, hq_p29, hq_pw, eq_self, decide_true, decide_false, not_true_eq_false, not_false_eq_true, kq_0, kq_1, kq_2, kq_3, kq_4, kq_5, kq_6, kq_7, kq_8, kq_9, kq_10, kq_11, kq_12, kq_13, kq_14, kq_15, kq_16, kq_17, kq_18, kq_19, kq_20, kq_21, kq_22, kq_23, kq_24, kq_25, kq_26, kq_27, kq_28, kq_29, kq_30, kq_31, kq_32, kq_33, kq_34, kq_35, kq_36, kq_37, kq_38, kq_39, kq_40, kq_41, kq_42, kq_43, kq_44, kq_45, kq_46, kq_47, kq_48, kq_49, kq_50, kq_51, kq_52, kq_53, kq_54, kq_55, kq_56, kq_57, kq_58, kq_59, kq_60, kq_61, kq_62, kq_63, kq_64, kq_65, kq_66, kq_67, kq_68, kq_69, kq_70, kq_71, kq_72, kq_73, kq_74, kq_75, kq_76, kq_77, kq_78, kq_79, kq_80, kq_81, pq_0_0, pq_0_1, pq_0_2, pq_0_3, pq_0_4, pq_0_5, pq_0_6, pq_0_7, pq_1_0, pq_1_1, pq_1_2, pq_1_3, pq_1_4, pq_1_5, pq_1_6, pq_1_7, pq_10_0, pq_10_1, pq_10_2, pq_10_3, pq_15_0, pq_17_0, pq_19_0, pq_21_0, pq_21_1, pq_21_2, pq_21_3, pq_21_4, pq_21_5, pq_28_0, pq_30_0, pq_30_1, pq_30_2, pq_31_0, pq_35_0, pq_35_1, pq_35_2, pq_36_0, pq_40_0, pq_40_1, pq_40_2, pq_41_0, pq_45_0, pq_45_1, pq_45_2, pq_46_0, pq_50_0, pq_52_0, pq_52_1, pq_52_2, pq_52_3, pq_52_4, pq_52_5, pq_52_6, pq_52_8, pq_52_10, pq_52_11, pq_52_14, pq_52_15, pq_52_16, pq_52_17, pq_52_18, pq_52_27, pq_52_29, pq_52_30, pq_52_31, pq_52_32, pq_52_33, pq_52_34, pq_52_35, pq_52_36, pq_52_37, pq_52_38, pq_52_39, pq_52_40, pq_52_41, aq_1, aq_11, aq_12, aq_13, aq_14, aq_16, aq_18, aq_20, aq_22, aq_23, aq_24, aq_25, aq_26, aq_27, aq_29, aq_32, aq_33, aq_34, aq_37, aq_38, aq_39, aq_42, aq_43, aq_44, aq_47, aq_48, aq_49, aq_51, aq_53, aq_54, aq_55, aq_56, aq_57, aq_58, aq_59, aq_60, aq_61, aq_62, aq_63, aq_64, aq_65, aq_66, aq_67, aq_68, aq_69, aq_70, aq_71, aq_72, aq_73, aq_74, aq_75, aq_76, aq_77, aq_78, aq_79, aq_80, aq_81]
  refine ⟨z7, (s1.trans s2).trans s6, j2, fun r h52 h61 hr => by rw [j3 r h52 hr, n6' r h61 h52], fun j h12 h28 => by rw [j4 j h28, m52 j h12], fun _ => ⟨⟨B6.1, fun i hi => by rw [j3 61 (by omega) (by omega)]; exact B6.2 i hi⟩, ?_⟩⟩
  rw [j4 12 (by omega), e6, u2z_ne (by omega), n5' 52 (by omega), e3, va_up_self, pk_us]
theorem m_jn2 {e : Nat} (hM : wM S z) (hX : wX S) (he : e < cn S 10) (hR : rdM z n P data) (hdt : n2 P 2 = hl P + data) (hp : p < 8) (hw : ¬ wrP P data) (hr : ¬ rfE (S (15 + e)) P data) (hpc : ¬ n2 P 6 % 16384 = 0) (hf : 20000 < f) : ∃ z', B_105_236 f 52 (nI p) (nI (hl P)) (nI (stN P)) (nI (moN P)) (nI data) (nI e) (hq z w c s) = some (.inl (some (.int (okI (jn2 S e P p data).2))), hq z' w c s) ∧ wM (jn2 S e P p data).1 z' ∧ (∀ r, r ≠ 52 → r ≠ 61 → r < 69 ∨ 81 < r → z' r = z r) ∧ (∀ j, j ≠ 12 → j ≠ 28 → z' 52 j = z 52 j) ∧ ∀ E, (jn2 S e P p data).2 = some E → mb z' 61 (hl (fq E) + er E) (whB E) ∧ z' 52 12 = nI (hl (fq E) + er E) := by
  obtain ⟨z1, s1, hM1, n1⟩ := m_add (f := f) (w := w) (c := c) (s := s) (p := p) hM hX he hR hw hr hpc (by omega)
  have hE := hX.2 e he
  have hX1 : wX (adS S e P p data) := by
    refine ⟨by rw [adS_c]; exact hX.1, fun i hi => ?_⟩
    rw [adS_c] at hi
    by_cases h : i = e
    · rw [h, adS_e]; exact eW_ad hE hR.1.1 hp hR.2.2.1 hdt hpc hw hr
    · rw [adS_k (by omega)]; exact hX.2 i hi
  have her := adx_r (E := S (15 + e)) (P := P) (p := p) (data := data) (by omega) hE.2.2.2.1.2
  obtain ⟨z2, k1, k2, k3, k4, k5⟩ := m_fin (f := f) (w := w) (c := c) (s := s) (e := e) hM1 hX1 (by rw [adS_c]; exact he) (by rw [adS_e, her]; split <;> omega) hf
  rw [adS_e] at k1 k2 k5
  unfold jn2
  by_cases hcp : cpE (adE (S (15 + e)) P p data)
  · rw [if_pos hcp] at k1 k2 ⊢
    dsimp only
    refine ⟨z2, s1.trans k1, k2, fun r h52 h61 hr => by rw [k3 r h52 h61 hr, n1 r hr], fun j h12 h28 => by rw [k4 j h12 h28, n1 52 (by omega)], fun E hEE => ?_⟩
    cases hEE; exact k5 hcp
  · rw [if_neg hcp] at k1 k2 ⊢
    dsimp only
    refine ⟨z2, s1.trans k1, k2, fun r h52 h61 hr => by rw [k3 r h52 h61 hr, n1 r hr], fun j h12 h28 => by rw [k4 j h12 h28, n1 52 (by omega)], fun E hEE => by cases hEE⟩
theorem m_new (hM : wM S z) (hc : cn S 10 < 4) (hR : rdM z n P data) (ht : z 52 22 = nI t) (hf : 6000 < f) : ∃ z', B_105_110 f 52 (nI p) (nI (hl P)) (nI (stN P)) (nI (moN P)) (nI data) (hq z w c s) = B_105_236 f 52 (nI p) (nI (hl P)) (nI (stN P)) (nI (moN P)) (nI data) (nI (cn S 10)) (hq z' w c s) ∧ wM (nwS S P t) z' ∧ (∀ r, r ≠ 52 → r < 69 ∨ 81 < r → z' r = z r) ∧ ∀ j, j ≠ 28 → z' 52 j = z 52 j := by
  obtain ⟨e, he⟩ : ∃ e, e = cn S 10 := ⟨_, rfl⟩
  obtain ⟨M1, M2⟩ := hM
  rw [← he] at hc M2
  have rdq : ∀ z1 : Nat → Nat → Int32, z1 61 = z 61 → z1 52 12 = z 52 12 → rdM z1 n P data := fun z1 h1 h2 => ⟨⟨hR.1.1, fun i hi => by rw [h1]; exact hR.1.2 i hi⟩, hR.2.1, hR.2.2.1, by rw [h2]; exact hR.2.2.2.1, hR.2.2.2.2⟩
  have hn := hR.2.1
  have h0 := hR.2.2.1
  have hMq := hR.2.2.2.2
  have ie : ev_in (nI e) 4 = true := ev_in_nI (by omega) (by omega)
  have ce : (nI e).toNatClampNeg = e := nI_clamp (by omega)
  obtain ⟨z1, e1⟩ : ∃ x, x = va_up z 52 (upd (z 52) 28 (nI (e + 1))) := ⟨_, rfl⟩
  obtain ⟨z2, e2⟩ : ∃ x, x = va_up z1 69 (upd (z1 69) e (nI (n4 P 12))) := ⟨_, rfl⟩
  obtain ⟨z3, e3⟩ : ∃ x, x = va_up z2 70 (upd (z2 70) e (nI (n4 P 16))) := ⟨_, rfl⟩
  obtain ⟨z4, e4⟩ : ∃ x, x = va_up z3 71 (upd (z3 71) e (nI (n2 P 4 * 256 + P 9))) := ⟨_, rfl⟩
  obtain ⟨z5, e5⟩ : ∃ x, x = va_up (va_up (va_up (va_up z4 72 (upd (z4 72) e (nI t))) 73 (upd (z4 73) e (-1))) 74 (upd (z4 74) e 0)) 75 (upd (z4 75) e 0) := ⟨_, rfl⟩
  have a1 : z1 61 = z 61 := by rw [e1, va_up_ne _ _ (by decide)]
  have a2 : z2 61 = z 61 := by rw [e2, va_up_ne _ _ (by decide), a1]
  have a3 : z3 61 = z 61 := by rw [e3, va_up_ne _ _ (by decide), a2]
  have o1 : ∀ j, j ≠ 28 → z1 52 j = z 52 j := fun j hj => by rw [e1, va_up_self, pk_un hj]
  have o2 : z2 52 = z1 52 := by rw [e2, va_up_ne _ _ (by decide)]
  have o3 : z3 52 = z1 52 := by rw [e3, va_up_ne _ _ (by decide), o2]
  have o4 : z4 52 = z1 52 := by rw [e4, va_up_ne _ _ (by decide), o3]
  have q12 : F_90 f 61 12 (hq z1 w c s) = some (.inl (some (.int (nI (n4 P 12)))), hq z1 w c s) := n90 (t := 12) kq_61 (rdq z1 a1 (o1 12 (by omega))).1 (by omega) (by omega) (by omega)
  have q16 : F_90 f 61 16 (hq z2 w c s) = some (.inl (some (.int (nI (n4 P 16)))), hq z2 w c s) := n90 (t := 16) kq_61 (rdq z2 a2 (by rw [o2]; exact o1 12 (by omega))).1 (by omega) (by omega) (by omega)
  have q102 := m102 (f := f) (w := w) (c := c) (s := s) (rdq z3 a3 (by rw [o3]; exact o1 12 (by omega)))
  have g22 : z4 52 22 = nI t := by rw [o4, o1 22 (by omega)]; exact ht
  have s1 := lp_105f (f := f) (w := w) (c := c) (s := s) (l1 := nI p) (l2 := nI (hl P)) (l3 := nI (stN P)) (l4 := nI (moN P)) (l5 := nI data) (e := e) hc 4000 0 (f - 4000) z5 (by omega)
  rw [show f - 4000 + 4000 = f by omega] at s1
  obtain ⟨z6, e6⟩ : ∃ x, x = va_up z5 81 (fun i => if 4000 * e + 0 ≤ i ∧ i < 4000 * e + 0 + 4000 then 0 else z5 81 i) := ⟨_, rfl⟩
  rw [← e6] at s1
  obtain ⟨g, hg⟩ : ∃ g, f - 4000 = g + 1 := ⟨f - 4001, by omega⟩
  rw [hg] at s1
  have s2 : B_105_207 f f 52 (nI p) (nI (hl P)) (nI (stN P)) (nI (moN P)) (nI data) (nI e) 0 (hq z5 w c s) = B_105_236 f 52 (nI p) (nI (hl P)) (nI (stN P)) (nI (moN P)) (nI data) (nI e) (hq z6 w c s) := by
    refine Eq.trans s1 ?_
    simp only [B_105_207, show (4000 : Int32) ≤ nI (0 + 4000) from nI_le (a := 4000) (by omega) (by omega), dg_1, db_1, db_0, dl_1, dp_1, dv_1, dv_x, di_1, di_x, dw_1, ec_eq, ec_ne, ec_lt, ec_ge, ec_gt, ec_le, hq_z, hq_wz, hq_wc, hq_thr, hq_p29, hq_pw, eq_self, decide_true, decide_false, not_true_eq_false, not_false_eq_true, kq_0, kq_1, kq_2, kq_3, kq_4, kq_5, kq_6, kq_7, kq_8, kq_9, kq_10, kq_11, kq_12, kq_13, kq_14, kq_15, kq_16, kq_17, kq_18, kq_19, kq_20, kq_21, kq_22, kq_23, kq_24, kq_25, kq_26, kq_27, kq_28, kq_29, kq_30, kq_31, kq_32, kq_33, kq_34, kq_35, kq_36, kq_37, kq_38, kq_39, kq_40, kq_41, kq_42, kq_43, kq_44, kq_45, kq_46, kq_47, kq_48, kq_49, kq_50, kq_51, kq_52, kq_53, kq_54, kq_55, kq_56, kq_57, kq_58, kq_59, kq_60, kq_61, kq_62, kq_63, kq_64, kq_65, kq_66, kq_67, kq_68, kq_69, kq_70, kq_71, kq_72, kq_73, kq_74, kq_75, kq_76, kq_77, kq_78, kq_79, kq_80, kq_81, pq_0_0, pq_0_1, pq_0_2, pq_0_3, pq_0_4, pq_0_5, pq_0_6, pq_0_7, pq_1_0, pq_1_1, pq_1_2, pq_1_3, pq_1_4, pq_1_5, pq_1_6, pq_1_7, pq_10_0, pq_10_1, pq_10_2, pq_10_3, pq_15_0, pq_17_0, pq_19_0, pq_21_0, pq_21_1, pq_21_2, pq_21_3, pq_21_4, pq_21_5, pq_28_0, pq_30_0, pq_30_1, pq_30_2, pq_31_0, pq_35_0, pq_35_1, pq_35_2, pq_36_0, pq_40_0, pq_40_1, pq_40_2, pq_41_0, pq_45_0, pq_45_1, pq_45_2, pq_46_0, pq_50_0, pq_52_0, pq_52_1, pq_52_2, pq_52_3, pq_52_4, pq_52_5, pq_52_6, pq_52_8, pq_52_10, pq_52_11, pq_52_14, pq_52_15, pq_52_16, pq_52_17, pq_52_18, pq_52_27, pq_52_29, pq_52_30, pq_52_31, pq_52_32, pq_52_33, pq_52_34, pq_52_35, pq_52_36, pq_52_37, pq_52_38, pq_52_39, pq_52_40, pq_52_41, aq_1, aq_11, aq_12, aq_13, aq_14, aq_16, aq_18, aq_20, aq_22, aq_23, aq_24, aq_25, aq_26, aq_27, aq_29, aq_32, aq_33, aq_34, aq_37, aq_38, aq_39, aq_42, aq_43, aq_44, aq_47, aq_48, aq_49, aq_51, aq_53, aq_54, aq_55, aq_56, aq_57, aq_58, aq_59, aq_60, aq_61, aq_62, aq_63, aq_64, aq_65, aq_66, aq_67, aq_68, aq_69, aq_70, aq_71, aq_72, aq_73, aq_74, aq_75, aq_76, aq_77, aq_78, aq_79, aq_80, aq_81]
  have n5' : ∀ r, r < 69 ∨ 75 < r → z5 r = z1 r := fun r hr => by
    rw [e5, va_up_ne _ _ (by omega), va_up_ne _ _ (by omega), va_up_ne _ _ (by omega), va_up_ne _ _ (by omega), e4, va_up_ne _ _ (by omega), e3, va_up_ne _ _ (by omega), e2, va_up_ne _ _ (by omega)]
  have n6' : ∀ r, r ≠ 81 → z6 r = z5 r := fun r h1 => by rw [e6, va_up_ne _ _ h1]
  have n1 : ∀ r, r ≠ 52 → z1 r = z r := fun r h1 => by rw [e1, va_up_ne _ _ h1]
  have t69 : z6 69 = upd (z 69) e (nI (n4 P 12)) := by
    rw [n6' 69 (by omega), e5, va_up_ne _ _ (by omega), va_up_ne _ _ (by omega), va_up_ne _ _ (by omega), va_up_ne _ _ (by omega), e4, va_up_ne _ _ (by omega), e3, va_up_ne _ _ (by omega), e2, va_up_self, n1 69 (by omega)]
  have t70 : z6 70 = upd (z 70) e (nI (n4 P 16)) := by
    rw [n6' 70 (by omega), e5, va_up_ne _ _ (by omega), va_up_ne _ _ (by omega), va_up_ne _ _ (by omega), va_up_ne _ _ (by omega), e4, va_up_ne _ _ (by omega), e3, va_up_self, e2, va_up_ne _ _ (by omega), n1 70 (by omega)]
  have t71 : z6 71 = upd (z 71) e (nI (n2 P 4 * 256 + P 9)) := by
    rw [n6' 71 (by omega), e5, va_up_ne _ _ (by omega), va_up_ne _ _ (by omega), va_up_ne _ _ (by omega), va_up_ne _ _ (by omega), e4, va_up_self, e3, va_up_ne _ _ (by omega), e2, va_up_ne _ _ (by omega), n1 71 (by omega)]
  have z4r : ∀ r, 71 < r → z4 r = z r := fun r hr => by rw [e4, va_up_ne _ _ (by omega), e3, va_up_ne _ _ (by omega), e2, va_up_ne _ _ (by omega), n1 r (by omega)]
  have t72 : z6 72 = upd (z 72) e (nI t) := by
    rw [n6' 72 (by omega), e5, va_up_ne _ _ (by omega), va_up_ne _ _ (by omega), va_up_ne _ _ (by omega), va_up_self, z4r 72 (by omega)]
  have t73 : z6 73 = upd (z 73) e (-1) := by
    rw [n6' 73 (by omega), e5, va_up_ne _ _ (by omega), va_up_ne _ _ (by omega), va_up_self, z4r 73 (by omega)]
  have t74 : z6 74 = upd (z 74) e 0 := by
    rw [n6' 74 (by omega), e5, va_up_ne _ _ (by omega), va_up_self, z4r 74 (by omega)]
  have t75 : z6 75 = upd (z 75) e 0 := by
    rw [n6' 75 (by omega), e5, va_up_self, z4r 75 (by omega)]
  have tr : ∀ r, 76 ≤ r → r ≤ 80 → z6 r = z r := fun r h1 h2 => by rw [n6' r (by omega), n5' r (by omega), n1 r (by omega)]
  have t81 : ∀ i, z6 81 i = if 4000 * e ≤ i ∧ i < 4000 * e + 4000 then 0 else z 81 i := fun i => by
    rw [e6, va_up_self, n5' 81 (by omega), n1 81 (by omega)]; rfl
  have x1 : nI e + 1 = nI (e + 1) := nI_1 e
  rw [← he]
  refine ⟨z6, ?_, ⟨fun i hi => ?_, ?_⟩, fun r h52 hr => ?_, fun j hj => ?_⟩
  · rw [← s2, e5]
    simp (decide := true) only [B_105_110, M2, x1, ← e1, q12, ie, ce, ← e2, q16, ← e3, q102, ← e4, g22, va_up_ne, dg_1, db_1, db_0, dl_1, dp_1, dv_1, dv_x, di_1, di_x, dw_1, ec_eq, ec_ne, ec_lt, ec_ge, ec_gt, ec_le, hq_z, hq_wz, hq_wc, hq_thr, hq_p29, hq_pw, eq_self, decide_true, decide_false, not_true_eq_false, not_false_eq_true, kq_0, kq_1, kq_2, kq_3, kq_4, kq_5, kq_6, kq_7, kq_8, kq_9, kq_10, kq_11, kq_12, kq_13, kq_14, kq_15, kq_16, kq_17, kq_18, kq_19, kq_20, kq_21, kq_22, kq_23, kq_24, kq_25, kq_26, kq_27, kq_28, kq_29, kq_30, kq_31, kq_32, kq_33, kq_34, kq_35, kq_36, kq_37, kq_38, kq_39, kq_40, kq_41, kq_42, kq_43, kq_44, kq_45, kq_46, kq_47, kq_48, kq_49, kq_50, kq_51, kq_52, kq_53, kq_54, kq_55, kq_56, kq_57, kq_58, kq_59, kq_60, kq_61, kq_62, kq_63, kq_64, kq_65, kq_66, kq_67, kq_68, kq_69, kq_70, kq_71, kq_72, kq_73, kq_74, kq_75, kq_76, kq_77, kq_78, kq_79, kq_80, kq_81, pq_0_0, pq_0_1, pq_0_2, pq_0_3, pq_0_4, pq_0_5, pq_0_6, pq_0_7, pq_1_0, pq_1_1, pq_1_2, pq_1_3, pq_1_4, pq_1_5, pq_1_6, pq_1_7, pq_10_0, pq_10_1, pq_10_2, pq_10_3, pq_15_0, pq_17_0, pq_19_0, pq_21_0, pq_21_1, pq_21_2, pq_21_3, pq_21_4, pq_21_5, pq_28_0, pq_30_0, pq_30_1, pq_30_2, pq_31_0, pq_35_0, pq_35_1, pq_35_2, pq_36_0, pq_40_0, pq_40_1, pq_40_2, pq_41_0, pq_45_0, pq_45_1, pq_45_2, pq_46_0, pq_50_0, pq_52_0, pq_52_1, pq_52_2, pq_52_3, pq_52_4, pq_52_5, pq_52_6, pq_52_8, pq_52_10, pq_52_11, pq_52_14, pq_52_15, pq_52_16, pq_52_17, pq_52_18, pq_52_27, pq_52_29, pq_52_30, pq_52_31, pq_52_32, pq_52_33, pq_52_34, pq_52_35, pq_52_36, pq_52_37, pq_52_38, pq_52_39, pq_52_40, pq_52_41, aq_1, aq_11, aq_12, aq_13, aq_14, aq_16, aq_18, aq_20, aq_22, aq_23, aq_24, aq_25, aq_26, aq_27, aq_29, aq_32, aq_33, aq_34, aq_37, aq_38, aq_39, aq_42, aq_43, aq_44, aq_47, aq_48, aq_49, aq_51, aq_53, aq_54, aq_55, aq_56, aq_57, aq_58, aq_59, aq_60, aq_61, aq_62, aq_63, aq_64, aq_65, aq_66, aq_67, aq_68, aq_69, aq_70, aq_71, aq_72, aq_73, aq_74, aq_75, aq_76, aq_77, aq_78, aq_79, aq_80, aq_81]
    have z43 : ∀ r, r ≠ 71 → z4 r = z3 r := fun r h1 => by rw [e4, va_up_ne _ _ h1]
    have g23 : z3 52 22 = nI t := by rw [← z43 52 (by omega)]; exact g22
    rw [g23, z43 72 (by omega), z43 73 (by omega), z43 74 (by omega), z43 75 (by omega)]
  · rw [nwS_c (by omega)] at hi
    by_cases h : i = e
    · rw [h, he, nwS_e, ← he]
      have hnm := nmx_e (n2_lt hR.1.1 4) (hR.1.1 9)
      have nth : ∀ j, ¬ thE (nwE P t) j := fun j hj => by have h9 := hj.1; rw [nw_k (by omega)] at h9; exact absurd h9 (by decide)
      refine ⟨⟨?_, ?_, ?_, ?_, ?_, ?_⟩, fun _ => ?_, fun h9 => ?_, fun j hj h9 => absurd h9 (nth j), fun j hj => ?_⟩
      · rw [t69, pk_us, nw_0]
      · rw [t70, pk_us, nw_1]
      · rw [t71, pk_us, nw_2, nw_3, hnm]
      · rw [t72, pk_us, nw_4]
      · rw [t73, pk_us, nw_k (k := 6) (by omega), if_pos rfl]
      · rw [t74, pk_us, nw_k (by omega)]
      · rw [t75, pk_us]
      · rw [nw_k (by omega)] at h9; exact absurd h9 (by decide)
      · rw [t81, if_pos (by omega), if_neg (nth j)]
    · rw [nwS_k (by omega) (by omega)]
      refine eM_mv (M1 i (by omega)) (fun r h1 h2 => ?_) (fun j hj => ?_) (fun j hj => ?_) (fun j hj => ?_) (fun j hj => ?_) (fun _ => hl_le _)
      · by_cases h76 : r < 76
        · rcases (show r = 69 ∨ r = 70 ∨ r = 71 ∨ r = 72 ∨ r = 73 ∨ r = 74 ∨ r = 75 by omega) with h9 | h9 | h9 | h9 | h9 | h9 | h9
          · rw [h9, t69, pk_un h]
          · rw [h9, t70, pk_un h]
          · rw [h9, t71, pk_un h]
          · rw [h9, t72, pk_un h]
          · rw [h9, t73, pk_un h]
          · rw [h9, t74, pk_un h]
          · rw [h9, t75, pk_un h]
        · rw [tr r (by omega) (by omega)]
      · rw [tr 76 (by omega) (by omega)]
      · rw [tr 77 (by omega) (by omega)]
      · rw [tr 80 (by omega) (by omega)]
      · rw [t81, if_neg (by omega)]
  · rw [n6' 52 (by omega), n5' 52 (by omega), e1, va_up_self, pk_us, nwS_c (by omega), ← he]
  · by_cases h81 : r = 81
    · omega
    · rw [n6' r h81, n5' r (by omega), n1 r h52]
  · rw [n6' 52 (by omega), n5' 52 (by omega), o1 j hj]
theorem m105 (hM : wM S z) (hX : wX S) (hR : rdM z n P data) (hdt : n2 P 2 = hl P + data) (hp : p < 8) (hpc : ¬ n2 P 6 % 16384 = 0) (ht : z 52 22 = nI t) (ht6 : t ≤ 60000) (hf : 20000 < f) : ∃ z', F_105 f 52 (nI p) (hq z w c s) = some (.inl (some (.int (okI (jnS S P p data t).2))), hq z' w c s) ∧ wM (jnS S P p data t).1 z' ∧ (∀ r, r ≠ 52 → r ≠ 61 → r < 69 ∨ 81 < r → z' r = z r) ∧ (∀ j, j ≠ 12 → j ≠ 28 → z' 52 j = z 52 j) ∧ ∀ E, (jnS S P p data t).2 = some E → mb z' 61 (hl (fq E) + er E) (whB E) ∧ z' 52 12 = nI (hl (fq E) + er E) := by
  obtain ⟨hP, hn, h0, h12, hMq⟩ := id hR
  have hl6 := hl_le P
  have l6 := n2_lt hP.1 6
  have b0 := hP.1 0
  have b6 := hP.1 6
  have b7 := hP.1 7
  have v0 := hP.2 0 (by omega)
  have v6 := hP.2 6 (by omega)
  have hmo := mo_lt P
  have e15 := (nI_mask (a := P 0) (by omega)).1
  have hm4 := hl_m (B := P)
  have i0 : ev_in 0 4100 = true := by decide
  have i6 : ev_in 6 4100 = true := by decide
  have c0 : Int32.toNatClampNeg 0 = 0 := rfl
  have c6 : Int32.toNatClampNeg 6 = 6 := rfl
  have q89 : F_89 f 61 6 (hq z w c s) = some (.inl (some (.int (nI (n2 P 6)))), hq z w c s) := n89 (t := 6) kq_61 hP (by omega) (by omega) (by omega)
  have e81 := (nI_mask (a := n2 P 6) (by omega)).2.2.1
  have e8 : (8 : Int32) * nI (n2 P 6 % 8192) = nI (stN P) := by rw [show (8 : Int32) = nI 8 from rfl, nI_mulN, Nat.mul_comm]; rfl
  have e32 := (nI_bit (a := P 6) (by omega)).2.2.1
  have hmo6 : moN P = P 6 / 32 % 2 := by
    rw [mo_e, show n2 P 6 = P 6 * 256 + P 7 from rfl]; omega
  have s1 : F_105 f 52 (nI p) (hq z w c s) = B_105_47 f 52 (nI p) (nI (hl P)) (nI (stN P)) (nI (moN P)) (hq z w c s) := by
    by_cases h : moN P = 0
    · have h' : nI (P 6 / 32 % 2 * 32) ≤ 0 := by rw [← hmo6, h]; decide
      rw [h]
      simp only [F_105, i0, c0, v0, e15, hm4, q89, i6, c6, v6, e32, h', e81, e8, nI_0, dg_1, db_1, db_0, dl_1, dp_1, dv_1, dv_x, di_1, di_x, dw_1, ec_eq, ec_ne, ec_lt, ec_ge, ec_gt, ec_le, hq_z, hq_wz, hq_wc, hq_thr, hq_p29, hq_pw, eq_self, decide_true, decide_false, not_true_eq_false, not_false_eq_true, kq_0, kq_1, kq_2, kq_3, kq_4, kq_5, kq_6, kq_7, kq_8, kq_9, kq_10, kq_11, kq_12, kq_13, kq_14, kq_15, kq_16, kq_17, kq_18, kq_19, kq_20, kq_21, kq_22, kq_23, kq_24, kq_25, kq_26, kq_27, kq_28, kq_29, kq_30, kq_31, kq_32, kq_33, kq_34, kq_35, kq_36, kq_37, kq_38, kq_39, kq_40, kq_41, kq_42, kq_43, kq_44, kq_45, kq_46, kq_47, kq_48, kq_49, kq_50, kq_51, kq_52, kq_53, kq_54, kq_55, kq_56, kq_57, kq_58, kq_59, kq_60, kq_61, kq_62, kq_63, kq_64, kq_65, kq_66, kq_67, kq_68, kq_69, kq_70, kq_71, kq_72, kq_73, kq_74, kq_75, kq_76, kq_77, kq_78, kq_79, kq_80, kq_81, pq_0_0, pq_0_1, pq_0_2, pq_0_3, pq_0_4, pq_0_5, pq_0_6, pq_0_7, pq_1_0, pq_1_1, pq_1_2, pq_1_3, pq_1_4, pq_1_5, pq_1_6, pq_1_7, pq_10_0, pq_10_1, pq_10_2, pq_10_3, pq_15_0, pq_17_0, pq_19_0, pq_21_0, pq_21_1, pq_21_2, pq_21_3, pq_21_4, pq_21_5, pq_28_0, pq_30_0, pq_30_1, pq_30_2, pq_31_0, pq_35_0, pq_35_1, pq_35_2, pq_36_0, pq_40_0, pq_40_1, pq_40_2, pq_41_0, pq_45_0, pq_45_1, pq_45_2, pq_46_0, pq_50_0, pq_52_0, pq_52_1, pq_52_2, pq_52_3, pq_52_4, pq_52_5, pq_52_6, pq_52_8, pq_52_10, pq_52_11, pq_52_14, pq_52_15, pq_52_16, pq_52_17, pq_52_18, pq_52_27, pq_52_29, pq_52_30, pq_52_31, pq_52_32, pq_52_33, pq_52_34, pq_52_35, pq_52_36, pq_52_37, pq_52_38, pq_52_39, pq_52_40, pq_52_41, aq_1, aq_11, aq_12, aq_13, aq_14, aq_16, aq_18, aq_20, aq_22, aq_23, aq_24, aq_25, aq_26, aq_27, aq_29, aq_32, aq_33, aq_34, aq_37, aq_38, aq_39, aq_42, aq_43, aq_44, aq_47, aq_48, aq_49, aq_51, aq_53, aq_54, aq_55, aq_56, aq_57, aq_58, aq_59, aq_60, aq_61, aq_62, aq_63, aq_64, aq_65, aq_66, aq_67, aq_68, aq_69, aq_70, aq_71, aq_72, aq_73, aq_74, aq_75, aq_76, aq_77, aq_78, aq_79, aq_80, aq_81]
    · have h1 : moN P = 1 := by omega
      have h' : ¬ nI (P 6 / 32 % 2 * 32) ≤ 0 := by rw [← hmo6, h1]; decide
      rw [h1]
      simp only [F_105, i0, c0, v0, e15, hm4, q89, i6, c6, v6, e32, h', e81, e8, dg_1, db_1, db_0, dl_1, dp_1, dv_1, dv_x, di_1, di_x, dw_1, ec_eq, ec_ne, ec_lt, ec_ge, ec_gt, ec_le, hq_z, hq_wz, hq_wc, hq_thr, hq_p29, hq_pw, eq_self, decide_true, decide_false, not_true_eq_false, not_false_eq_true, kq_0, kq_1, kq_2, kq_3, kq_4, kq_5, kq_6, kq_7, kq_8, kq_9, kq_10, kq_11, kq_12, kq_13, kq_14, kq_15, kq_16, kq_17, kq_18, kq_19, kq_20, kq_21, kq_22, kq_23, kq_24, kq_25, kq_26, kq_27, kq_28, kq_29, kq_30, kq_31, kq_32, kq_33, kq_34, kq_35, kq_36, kq_37, kq_38, kq_39, kq_40, kq_41, kq_42, kq_43, kq_44, kq_45, kq_46, kq_47, kq_48, kq_49, kq_50, kq_51, kq_52, kq_53, kq_54, kq_55, kq_56, kq_57, kq_58, kq_59, kq_60, kq_61, kq_62, kq_63, kq_64, kq_65, kq_66, kq_67, kq_68, kq_69, kq_70, kq_71, kq_72, kq_73, kq_74, kq_75, kq_76, kq_77, kq_78, kq_79, kq_80, kq_81, pq_0_0, pq_0_1, pq_0_2, pq_0_3, pq_0_4, pq_0_5, pq_0_6, pq_0_7, pq_1_0, pq_1_1, pq_1_2, pq_1_3, pq_1_4, pq_1_5, pq_1_6, pq_1_7, pq_10_0, pq_10_1, pq_10_2, pq_10_3, pq_15_0, pq_17_0, pq_19_0, pq_21_0, pq_21_1, pq_21_2, pq_21_3, pq_21_4, pq_21_5, pq_28_0, pq_30_0, pq_30_1, pq_30_2, pq_31_0, pq_35_0, pq_35_1, pq_35_2, pq_36_0, pq_40_0, pq_40_1, pq_40_2, pq_41_0, pq_45_0, pq_45_1, pq_45_2, pq_46_0, pq_50_0, pq_52_0, pq_52_1, pq_52_2, pq_52_3, pq_52_4, pq_52_5, pq_52_6, pq_52_8, pq_52_10, pq_52_11, pq_52_14, pq_52_15, pq_52_16, pq_52_17, pq_52_18, pq_52_27, pq_52_29, pq_52_30, pq_52_31, pq_52_32, pq_52_33, pq_52_34, pq_52_35, pq_52_36, pq_52_37, pq_52_38, pq_52_39, pq_52_40, pq_52_41, aq_1, aq_11, aq_12, aq_13, aq_14, aq_16, aq_18, aq_20, aq_22, aq_23, aq_24, aq_25, aq_26, aq_27, aq_29, aq_32, aq_33, aq_34, aq_37, aq_38, aq_39, aq_42, aq_43, aq_44, aq_47, aq_48, aq_49, aq_51, aq_53, aq_54, aq_55, aq_56, aq_57, aq_58, aq_59, aq_60, aq_61, aq_62, aq_63, aq_64, aq_65, aq_66, aq_67, aq_68, aq_69, aq_70, aq_71, aq_72, aq_73, aq_74, aq_75, aq_76, aq_77, aq_78, aq_79, aq_80, aq_81]
      rfl
  rw [s1]
  have q103 := m103 (f := f) (w := w) (c := c) (s := s) hR hM hX (by omega)
  have y1 : nI (hl P + data) - nI (hl P) = nI data := by rw [nI_subN (by omega)]; exact congrArg nI (by omega)
  unfold jnS
  cases hfd : fd S P with
  | none =>
    rw [hfd] at q103
    dsimp only
    have q104 := m104_a (f := f) (z := z) (w := w) (c := c) (s := s) (P := P) (data := data) (by omega)
    by_cases hw : wrP P data
    · rw [if_pos hw] at q104 ⊢
      refine ⟨z, ?_, hM, fun _ _ _ _ => rfl, fun _ _ _ => rfl, fun E hE => by cases hE⟩
      simp only [B_105_47, B_105_89, okI, q103, woI, h12, y1, q104, show ¬ (1 : Int32) = 0 by decide, dg_1, db_1, db_0, dl_1, dp_1, dv_1, dv_x, di_1, di_x, dw_1, ec_eq, ec_ne, ec_lt, ec_ge, ec_gt, ec_le, hq_z, hq_wz, hq_wc, hq_thr, hq_p29, hq_pw, eq_self, decide_true, decide_false, not_true_eq_false, not_false_eq_true, kq_0, kq_1, kq_2, kq_3, kq_4, kq_5, kq_6, kq_7, kq_8, kq_9, kq_10, kq_11, kq_12, kq_13, kq_14, kq_15, kq_16, kq_17, kq_18, kq_19, kq_20, kq_21, kq_22, kq_23, kq_24, kq_25, kq_26, kq_27, kq_28, kq_29, kq_30, kq_31, kq_32, kq_33, kq_34, kq_35, kq_36, kq_37, kq_38, kq_39, kq_40, kq_41, kq_42, kq_43, kq_44, kq_45, kq_46, kq_47, kq_48, kq_49, kq_50, kq_51, kq_52, kq_53, kq_54, kq_55, kq_56, kq_57, kq_58, kq_59, kq_60, kq_61, kq_62, kq_63, kq_64, kq_65, kq_66, kq_67, kq_68, kq_69, kq_70, kq_71, kq_72, kq_73, kq_74, kq_75, kq_76, kq_77, kq_78, kq_79, kq_80, kq_81, pq_0_0, pq_0_1, pq_0_2, pq_0_3, pq_0_4, pq_0_5, pq_0_6, pq_0_7, pq_1_0, pq_1_1, pq_1_2, pq_1_3, pq_1_4, pq_1_5, pq_1_6, pq_1_7, pq_10_0, pq_10_1, pq_10_2, pq_10_3, pq_15_0, pq_17_0, pq_19_0, pq_21_0, pq_21_1, pq_21_2, pq_21_3, pq_21_4, pq_21_5, pq_28_0, pq_30_0, pq_30_1, pq_30_2, pq_31_0, pq_35_0, pq_35_1, pq_35_2, pq_36_0, pq_40_0, pq_40_1, pq_40_2, pq_41_0, pq_45_0, pq_45_1, pq_45_2, pq_46_0, pq_50_0, pq_52_0, pq_52_1, pq_52_2, pq_52_3, pq_52_4, pq_52_5, pq_52_6, pq_52_8, pq_52_10, pq_52_11, pq_52_14, pq_52_15, pq_52_16, pq_52_17, pq_52_18, pq_52_27, pq_52_29, pq_52_30, pq_52_31, pq_52_32, pq_52_33, pq_52_34, pq_52_35, pq_52_36, pq_52_37, pq_52_38, pq_52_39, pq_52_40, pq_52_41, aq_1, aq_11, aq_12, aq_13, aq_14, aq_16, aq_18, aq_20, aq_22, aq_23, aq_24, aq_25, aq_26, aq_27, aq_29, aq_32, aq_33, aq_34, aq_37, aq_38, aq_39, aq_42, aq_43, aq_44, aq_47, aq_48, aq_49, aq_51, aq_53, aq_54, aq_55, aq_56, aq_57, aq_58, aq_59, aq_60, aq_61, aq_62, aq_63, aq_64, aq_65, aq_66, aq_67, aq_68, aq_69, aq_70, aq_71, aq_72, aq_73, aq_74, aq_75, aq_76, aq_77, aq_78, aq_79, aq_80, aq_81]
    · rw [if_neg hw] at q104 ⊢
      have key : ∃ z1, B_105_47 f 52 (nI p) (nI (hl P)) (nI (stN P)) (nI (moN P)) (hq z w c s) = B_105_110 f 52 (nI p) (nI (hl P)) (nI (stN P)) (nI (moN P)) (nI data) (hq z1 w c s) ∧ wM (bg1 S) z1 ∧ (∀ r, r ≠ 52 → r < 69 ∨ 81 < r → z1 r = z r) ∧ ∀ j, j ≠ 28 → z1 52 j = z 52 j := by
        have hx := hX.1
        unfold bg1
        by_cases h : cn S 10 < 4
        · have h' : ¬ nI (cn S 10) = 4 := fun h9 => by have := (nI_eq (b := 4) (by omega) (by omega)).mp h9; omega
          rw [if_pos h]
          refine ⟨z, ?_, hM, fun _ _ _ => rfl, fun _ _ => rfl⟩
          simp only [B_105_47, q103, woI, h12, y1, q104, hM.2, h', dg_1, db_1, db_0, dl_1, dp_1, dv_1, dv_x, di_1, di_x, dw_1, ec_eq, ec_ne, ec_lt, ec_ge, ec_gt, ec_le, hq_z, hq_wz, hq_wc, hq_thr, hq_p29, hq_pw, eq_self, decide_true, decide_false, not_true_eq_false, not_false_eq_true, kq_0, kq_1, kq_2, kq_3, kq_4, kq_5, kq_6, kq_7, kq_8, kq_9, kq_10, kq_11, kq_12, kq_13, kq_14, kq_15, kq_16, kq_17, kq_18, kq_19, kq_20, kq_21, kq_22, kq_23, kq_24, kq_25, kq_26, kq_27, kq_28, kq_29, kq_30, kq_31, kq_32, kq_33, kq_34, kq_35, kq_36, kq_37, kq_38, kq_39, kq_40, kq_41, kq_42, kq_43, kq_44, kq_45, kq_46, kq_47, kq_48, kq_49, kq_50, kq_51, kq_52, kq_53, kq_54, kq_55, kq_56, kq_57, kq_58, kq_59, kq_60, kq_61, kq_62, kq_63, kq_64, kq_65, kq_66, kq_67, kq_68, kq_69, kq_70, kq_71, kq_72, kq_73, kq_74, kq_75, kq_76, kq_77, kq_78, kq_79, kq_80, kq_81, pq_0_0, pq_0_1, pq_0_2, pq_0_3, pq_0_4, pq_0_5, pq_0_6, pq_0_7, pq_1_0, pq_1_1, pq_1_2, pq_1_3, pq_1_4, pq_1_5, pq_1_6, pq_1_7, pq_10_0, pq_10_1, pq_10_2, pq_10_3, pq_15_0, pq_17_0, pq_19_0, pq_21_0, pq_21_1, pq_21_2, pq_21_3, pq_21_4, pq_21_5, pq_28_0, pq_30_0, pq_30_1, pq_30_2, pq_31_0, pq_35_0, pq_35_1, pq_35_2, pq_36_0, pq_40_0, pq_40_1, pq_40_2, pq_41_0, pq_45_0, pq_45_1, pq_45_2, pq_46_0, pq_50_0, pq_52_0, pq_52_1, pq_52_2, pq_52_3, pq_52_4, pq_52_5, pq_52_6, pq_52_8, pq_52_10, pq_52_11, pq_52_14, pq_52_15, pq_52_16, pq_52_17, pq_52_18, pq_52_27, pq_52_29, pq_52_30, pq_52_31, pq_52_32, pq_52_33, pq_52_34, pq_52_35, pq_52_36, pq_52_37, pq_52_38, pq_52_39, pq_52_40, pq_52_41, aq_1, aq_11, aq_12, aq_13, aq_14, aq_16, aq_18, aq_20, aq_22, aq_23, aq_24, aq_25, aq_26, aq_27, aq_29, aq_32, aq_33, aq_34, aq_37, aq_38, aq_39, aq_42, aq_43, aq_44, aq_47, aq_48, aq_49, aq_51, aq_53, aq_54, aq_55, aq_56, aq_57, aq_58, aq_59, aq_60, aq_61, aq_62, aq_63, aq_64, aq_65, aq_66, aq_67, aq_68, aq_69, aq_70, aq_71, aq_72, aq_73, aq_74, aq_75, aq_76, aq_77, aq_78, aq_79, aq_80, aq_81]
        · have h' : nI (cn S 10) = 4 := by rw [show cn S 10 = 4 by omega]; rfl
          rw [if_neg h]
          obtain ⟨z1, k1, k2, k3, k4⟩ := m101 (f := f) (w := w) (c := c) (s := s) (e := 0) hM hX (by omega) (by omega)
          have k1' : F_101 f 52 0 (hq z w c s) = some (.inl none, hq z1 w c s) := k1
          refine ⟨z1, ?_, k2, k3, k4⟩
          simp only [B_105_47, q103, woI, h12, y1, q104, hM.2, h', k1', dg_1, db_1, db_0, dl_1, dp_1, dv_1, dv_x, di_1, di_x, dw_1, ec_eq, ec_ne, ec_lt, ec_ge, ec_gt, ec_le, hq_z, hq_wz, hq_wc, hq_thr, hq_p29, hq_pw, eq_self, decide_true, decide_false, not_true_eq_false, not_false_eq_true, kq_0, kq_1, kq_2, kq_3, kq_4, kq_5, kq_6, kq_7, kq_8, kq_9, kq_10, kq_11, kq_12, kq_13, kq_14, kq_15, kq_16, kq_17, kq_18, kq_19, kq_20, kq_21, kq_22, kq_23, kq_24, kq_25, kq_26, kq_27, kq_28, kq_29, kq_30, kq_31, kq_32, kq_33, kq_34, kq_35, kq_36, kq_37, kq_38, kq_39, kq_40, kq_41, kq_42, kq_43, kq_44, kq_45, kq_46, kq_47, kq_48, kq_49, kq_50, kq_51, kq_52, kq_53, kq_54, kq_55, kq_56, kq_57, kq_58, kq_59, kq_60, kq_61, kq_62, kq_63, kq_64, kq_65, kq_66, kq_67, kq_68, kq_69, kq_70, kq_71, kq_72, kq_73, kq_74, kq_75, kq_76, kq_77, kq_78, kq_79, kq_80, kq_81, pq_0_0, pq_0_1, pq_0_2, pq_0_3, pq_0_4, pq_0_5, pq_0_6, pq_0_7, pq_1_0, pq_1_1, pq_1_2, pq_1_3, pq_1_4, pq_1_5, pq_1_6, pq_1_7, pq_10_0, pq_10_1, pq_10_2, pq_10_3, pq_15_0, pq_17_0, pq_19_0, pq_21_0, pq_21_1, pq_21_2, pq_21_3, pq_21_4, pq_21_5, pq_28_0, pq_30_0, pq_30_1, pq_30_2, pq_31_0, pq_35_0, pq_35_1, pq_35_2, pq_36_0, pq_40_0, pq_40_1, pq_40_2, pq_41_0, pq_45_0, pq_45_1, pq_45_2, pq_46_0, pq_50_0, pq_52_0, pq_52_1, pq_52_2, pq_52_3, pq_52_4, pq_52_5, pq_52_6, pq_52_8, pq_52_10, pq_52_11, pq_52_14, pq_52_15, pq_52_16, pq_52_17, pq_52_18, pq_52_27, pq_52_29, pq_52_30, pq_52_31, pq_52_32, pq_52_33, pq_52_34, pq_52_35, pq_52_36, pq_52_37, pq_52_38, pq_52_39, pq_52_40, pq_52_41, aq_1, aq_11, aq_12, aq_13, aq_14, aq_16, aq_18, aq_20, aq_22, aq_23, aq_24, aq_25, aq_26, aq_27, aq_29, aq_32, aq_33, aq_34, aq_37, aq_38, aq_39, aq_42, aq_43, aq_44, aq_47, aq_48, aq_49, aq_51, aq_53, aq_54, aq_55, aq_56, aq_57, aq_58, aq_59, aq_60, aq_61, aq_62, aq_63, aq_64, aq_65, aq_66, aq_67, aq_68, aq_69, aq_70, aq_71, aq_72, aq_73, aq_74, aq_75, aq_76, aq_77, aq_78, aq_79, aq_80, aq_81]
      obtain ⟨z1, s2, hM1, n1, o1⟩ := key
      have hk4 := bg_c hX.1
      have hR1 : rdM z1 n P data := ⟨⟨hP.1, fun i hi => by rw [n1 61 (by omega) (by omega)]; exact hP.2 i hi⟩, hn, h0, by rw [o1 12 (by omega)]; exact h12, hMq⟩
      obtain ⟨z2, s3, hM2, n2', o2⟩ := m_new (f := f) (w := w) (c := c) (s := s) (p := p) (t := t) hM1 hk4 hR1 (by rw [o1 22 (by omega)]; exact ht) (by omega)
      have hR2 : rdM z2 n P data := ⟨⟨hP.1, fun i hi => by rw [n2' 61 (by omega) (by omega)]; exact hR1.1.2 i hi⟩, hn, h0, by rw [o2 12 (by omega)]; exact hR1.2.2.2.1, hMq⟩
      obtain ⟨z3, s4, m2, m3, m4, m5⟩ := m_jn2 (f := f) (w := w) (c := c) (s := s) (p := p) (e := cn (bg1 S) 10) hM2 (wX_nw (wX_bg hX) hk4 hP.1 ht6) (by rw [nwS_c hk4]; omega) hR2 hdt hp hw (by rw [nwS_e]; exact rf_nw) hpc hf
      exact ⟨z3, (s2.trans s3).trans s4, m2, fun r h52 h61 hr => by rw [m3 r h52 h61 hr, n2' r h52 hr, n1 r h52 hr], fun j h12' h28 => by rw [m4 j h12' h28, o2 j h28, o1 j h28], m5⟩
  | some e =>
    rw [hfd] at q103
    dsimp only
    have hb := fdS_b _ _ _ (show fdS S P (cn S 10) 0 = some e from hfd)
    have he : e < cn S 10 := by omega
    have hx1 := hX.1
    have ne1 : ¬ nI e = -1 := by
      intro h
      have h9 : (nI e).toInt = (-1 : Int32).toInt := by rw [h]
      rw [nI_toInt (by omega), show (-1 : Int32).toInt = -1 from rfl] at h9
      omega
    have q104 := m104_b (f := f) (w := w) (c := c) (s := s) (P := P) (data := data) (by omega) (show e < 4 by omega) (hX.2 e he) (hM.1 e he)
    by_cases hwr : wrP P data ∨ rfE (S (15 + e)) P data
    · rw [if_pos hwr] at q104 ⊢
      obtain ⟨z1, k1, k2, k3, k4⟩ := m101 (f := f) (w := w) (c := c) (s := s) (e := e) hM hX he (by omega)
      refine ⟨z1, ?_, k2, fun r h52 _ hr => k3 r h52 hr, fun j _ h28 => k4 j h28, fun E hE => by cases hE⟩
      simp only [B_105_47, B_105_89, okI, q103, woI, h12, y1, q104, show ¬ (1 : Int32) = 0 by decide, ne1, k1, dg_1, db_1, db_0, dl_1, dp_1, dv_1, dv_x, di_1, di_x, dw_1, ec_eq, ec_ne, ec_lt, ec_ge, ec_gt, ec_le, hq_z, hq_wz, hq_wc, hq_thr, hq_p29, hq_pw, eq_self, decide_true, decide_false, not_true_eq_false, not_false_eq_true, kq_0, kq_1, kq_2, kq_3, kq_4, kq_5, kq_6, kq_7, kq_8, kq_9, kq_10, kq_11, kq_12, kq_13, kq_14, kq_15, kq_16, kq_17, kq_18, kq_19, kq_20, kq_21, kq_22, kq_23, kq_24, kq_25, kq_26, kq_27, kq_28, kq_29, kq_30, kq_31, kq_32, kq_33, kq_34, kq_35, kq_36, kq_37, kq_38, kq_39, kq_40, kq_41, kq_42, kq_43, kq_44, kq_45, kq_46, kq_47, kq_48, kq_49, kq_50, kq_51, kq_52, kq_53, kq_54, kq_55, kq_56, kq_57, kq_58, kq_59, kq_60, kq_61, kq_62, kq_63, kq_64, kq_65, kq_66, kq_67, kq_68, kq_69, kq_70, kq_71, kq_72, kq_73, kq_74, kq_75, kq_76, kq_77, kq_78, kq_79, kq_80, kq_81, pq_0_0, pq_0_1, pq_0_2, pq_0_3, pq_0_4, pq_0_5, pq_0_6, pq_0_7, pq_1_0, pq_1_1, pq_1_2, pq_1_3, pq_1_4, pq_1_5, pq_1_6, pq_1_7, pq_10_0, pq_10_1, pq_10_2, pq_10_3, pq_15_0, pq_17_0, pq_19_0, pq_21_0, pq_21_1, pq_21_2, pq_21_3, pq_21_4, pq_21_5, pq_28_0, pq_30_0, pq_30_1, pq_30_2, pq_31_0, pq_35_0, pq_35_1, pq_35_2, pq_36_0, pq_40_0, pq_40_1, pq_40_2, pq_41_0, pq_45_0, pq_45_1, pq_45_2, pq_46_0, pq_50_0, pq_52_0, pq_52_1, pq_52_2, pq_52_3, pq_52_4, pq_52_5, pq_52_6, pq_52_8, pq_52_10, pq_52_11, pq_52_14, pq_52_15, pq_52_16, pq_52_17, pq_52_18, pq_52_27, pq_52_29, pq_52_30, pq_52_31, pq_52_32, pq_52_33, pq_52_34, pq_52_35, pq_52_36, pq_52_37, pq_52_38, pq_52_39, pq_52_40, pq_52_41, aq_1, aq_11, aq_12, aq_13, aq_14, aq_16, aq_18, aq_20, aq_22, aq_23, aq_24, aq_25, aq_26, aq_27, aq_29, aq_32, aq_33, aq_34, aq_37, aq_38, aq_39, aq_42, aq_43, aq_44, aq_47, aq_48, aq_49, aq_51, aq_53, aq_54, aq_55, aq_56, aq_57, aq_58, aq_59, aq_60, aq_61, aq_62, aq_63, aq_64, aq_65, aq_66, aq_67, aq_68, aq_69, aq_70, aq_71, aq_72, aq_73, aq_74, aq_75, aq_76, aq_77, aq_78, aq_79, aq_80, aq_81]
    · rw [if_neg hwr] at q104 ⊢
      obtain ⟨z3, s4, m2, m3, m4, m5⟩ := m_jn2 (f := f) (w := w) (c := c) (s := s) (p := p) (e := e) hM hX he hR hdt hp (fun h => hwr (Or.inl h)) (fun h => hwr (Or.inr h)) hpc hf
      refine ⟨z3, ?_, m2, m3, m4, m5⟩
      rw [← s4]
      simp only [B_105_47, q103, woI, h12, y1, q104, ne1, dg_1, db_1, db_0, dl_1, dp_1, dv_1, dv_x, di_1, di_x, dw_1, ec_eq, ec_ne, ec_lt, ec_ge, ec_gt, ec_le, hq_z, hq_wz, hq_wc, hq_thr, hq_p29, hq_pw, eq_self, decide_true, decide_false, not_true_eq_false, not_false_eq_true, kq_0, kq_1, kq_2, kq_3, kq_4, kq_5, kq_6, kq_7, kq_8, kq_9, kq_10, kq_11, kq_12, kq_13, kq_14, kq_15, kq_16, kq_17, kq_18, kq_19, kq_20, kq_21, kq_22, kq_23, kq_24, kq_25, kq_26, kq_27, kq_28, kq_29, kq_30, kq_31, kq_32, kq_33, kq_34, kq_35, kq_36, kq_37, kq_38, kq_39, kq_40, kq_41, kq_42, kq_43, kq_44, kq_45, kq_46, kq_47, kq_48, kq_49, kq_50, kq_51, kq_52, kq_53, kq_54, kq_55, kq_56, kq_57, kq_58, kq_59, kq_60, kq_61, kq_62, kq_63, kq_64, kq_65, kq_66, kq_67, kq_68, kq_69, kq_70, kq_71, kq_72, kq_73, kq_74, kq_75, kq_76, kq_77, kq_78, kq_79, kq_80, kq_81, pq_0_0, pq_0_1, pq_0_2, pq_0_3, pq_0_4, pq_0_5, pq_0_6, pq_0_7, pq_1_0, pq_1_1, pq_1_2, pq_1_3, pq_1_4, pq_1_5, pq_1_6, pq_1_7, pq_10_0, pq_10_1, pq_10_2, pq_10_3, pq_15_0, pq_17_0, pq_19_0, pq_21_0, pq_21_1, pq_21_2, pq_21_3, pq_21_4, pq_21_5, pq_28_0, pq_30_0, pq_30_1, pq_30_2, pq_31_0, pq_35_0, pq_35_1, pq_35_2, pq_36_0, pq_40_0, pq_40_1, pq_40_2, pq_41_0, pq_45_0, pq_45_1, pq_45_2, pq_46_0, pq_50_0, pq_52_0, pq_52_1, pq_52_2, pq_52_3, pq_52_4, pq_52_5, pq_52_6, pq_52_8, pq_52_10, pq_52_11, pq_52_14, pq_52_15, pq_52_16, pq_52_17, pq_52_18, pq_52_27, pq_52_29, pq_52_30, pq_52_31, pq_52_32, pq_52_33, pq_52_34, pq_52_35, pq_52_36, pq_52_37, pq_52_38, pq_52_39, pq_52_40, pq_52_41, aq_1, aq_11, aq_12, aq_13, aq_14, aq_16, aq_18, aq_20, aq_22, aq_23, aq_24, aq_25, aq_26, aq_27, aq_29, aq_32, aq_33, aq_34, aq_37, aq_38, aq_39, aq_42, aq_43, aq_44, aq_47, aq_48, aq_49, aq_51, aq_53, aq_54, aq_55, aq_56, aq_57, aq_58, aq_59, aq_60, aq_61, aq_62, aq_63, aq_64, aq_65, aq_66, aq_67, aq_68, aq_69, aq_70, aq_71, aq_72, aq_73, aq_74, aq_75, aq_76, aq_77, aq_78, aq_79, aq_80, aq_81]
end Wait82
