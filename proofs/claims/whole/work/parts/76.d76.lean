-- waits of the class: begin, add, complete, write
section Wait76
variable {S : St9} {z : Nat → Nat → Int32} {w : Nat → Option Nat} {f c s n data j p t : Nat} {P : Nat → Nat} {E : Nat → Int32}
theorem dn_k {t a n : Nat} {h : hp_T} {k : Nat → Option ev_O} (hk : hp_k h a = some (t, n)) : dn t h a k = k n := by
  unfold dn; rw [hk]; simp
theorem n33_l (hj : j < 4) : ∀ (q k g : Nat) (z : Nat → Nat → Int32), k + q = 500 → q < g → ∃ z', B_33_59 f g (30 + 5 * j) (nI k) (hq z w c s) = some (.inl none, hq z' w c s) ∧ (∀ b, b ≠ 34 + 5 * j → z' b = z b) ∧ ∀ i, i < 500 → z' (34 + 5 * j) i = if k ≤ i then 0 else z (34 + 5 * j) i := by
  intro q
  induction q with
  | zero =>
    intro k g z h1 h2
    obtain ⟨g, rfl⟩ : ∃ g', g = g' + 1 := ⟨g - 1, by omega⟩
    obtain ⟨k1, k2, k3, k4, k5, k6⟩ := wk (z := z) (w := w) (c := c) (s := s) hj
    have e1 : Int32.ofNat 500 ≤ nI k := nI_le (a := 500) (by omega) (by omega)
    refine ⟨z, ?_, fun _ _ => rfl, fun i hi => by rw [if_neg (by omega)]⟩
    simp only [B_33_59, k1, k4, dn_k k6, e1, dg_1, db_1, db_0, dl_1, dp_1, dv_1, dv_x, di_1, di_x, dw_1, ec_eq, ec_ne, ec_lt, ec_ge, ec_gt, ec_le, hq_z, hq_wz, hq_wc, hq_thr, hq_p29, hq_pw, eq_self, decide_true, decide_false, not_true_eq_false, not_false_eq_true, kq_0, kq_1, kq_2, kq_3, kq_4, kq_5, kq_6, kq_7, kq_8, kq_9, kq_10, kq_11, kq_12, kq_13, kq_14, kq_15, kq_16, kq_17, kq_18, kq_19, kq_20, kq_21, kq_22, kq_23, kq_24, kq_25, kq_26, kq_27, kq_28, kq_29, kq_30, kq_31, kq_32, kq_33, kq_34, kq_35, kq_36, kq_37, kq_38, kq_39, kq_40, kq_41, kq_42, kq_43, kq_44, kq_45, kq_46, kq_47, kq_48, kq_49, kq_50, kq_51, kq_52, kq_53, kq_54, kq_55, kq_56, kq_57, kq_58, kq_59, kq_60, kq_61, kq_62, kq_63, kq_64, kq_65, kq_66, kq_67, kq_68, kq_69, kq_70, kq_71, kq_72, kq_73, kq_74, kq_75, kq_76, kq_77, kq_78, kq_79, kq_80, kq_81, pq_0_0, pq_0_1, pq_0_2, pq_0_3, pq_0_4, pq_0_5, pq_0_6, pq_0_7, pq_1_0, pq_1_1, pq_1_2, pq_1_3, pq_1_4, pq_1_5, pq_1_6, pq_1_7, pq_10_0, pq_10_1, pq_10_2, pq_10_3, pq_15_0, pq_17_0, pq_19_0, pq_21_0, pq_21_1, pq_21_2, pq_21_3, pq_21_4, pq_21_5, pq_28_0, pq_30_0, pq_30_1, pq_30_2, pq_31_0, pq_35_0, pq_35_1, pq_35_2, pq_36_0, pq_40_0, pq_40_1, pq_40_2, pq_41_0, pq_45_0, pq_45_1, pq_45_2, pq_46_0, pq_50_0, pq_52_0, pq_52_1, pq_52_2, pq_52_3, pq_52_4, pq_52_5, pq_52_6, pq_52_8, pq_52_10, pq_52_11, pq_52_14, pq_52_15, pq_52_16, pq_52_17, pq_52_18, pq_52_27, pq_52_29, pq_52_30, pq_52_31, pq_52_32, pq_52_33, pq_52_34, pq_52_35, pq_52_36, pq_52_37, pq_52_38, pq_52_39, pq_52_40, pq_52_41, aq_1, aq_11, aq_12, aq_13, aq_14, aq_16, aq_18, aq_20, aq_22, aq_23, aq_24, aq_25, aq_26, aq_27, aq_29, aq_32, aq_33, aq_34, aq_37, aq_38, aq_39, aq_42, aq_43, aq_44, aq_47, aq_48, aq_49, aq_51, aq_53, aq_54, aq_55, aq_56, aq_57, aq_58, aq_59, aq_60, aq_61, aq_62, aq_63, aq_64, aq_65, aq_66, aq_67, aq_68, aq_69, aq_70, aq_71, aq_72, aq_73, aq_74, aq_75, aq_76, aq_77, aq_78, aq_79, aq_80, aq_81]
  | succ q ih =>
    intro k g z h1 h2
    obtain ⟨g, rfl⟩ : ∃ g', g = g' + 1 := ⟨g - 1, by omega⟩
    obtain ⟨k1, k2, k3, k4, k5, k6⟩ := wk (z := z) (w := w) (c := c) (s := s) hj
    have e1 : ¬ Int32.ofNat 500 ≤ nI k := nI_ge (b := 500) (by omega) (by omega)
    have i1 : ev_in (nI k) 500 = true := ev_in_nI (by omega) (by omega)
    have i2 : (nI k).toNatClampNeg = k := nI_clamp (by omega)
    have hv : vp_nar .boolean (0 : Int32) = 0 := rfl
    obtain ⟨z2, g1, g2, g3⟩ := ih (k + 1) g (va_up z (34 + 5 * j) (upd (z (34 + 5 * j)) k 0)) (by omega) (by omega)
    refine ⟨z2, ?_, fun b hb => by rw [g2 b hb, va_up_ne _ _ hb], fun i hi => ?_⟩
    · rw [← g1]
      simp only [B_33_59, k1, k4, dn_k k6, aib_k k6, e1, i1, i2, hv, nI_1, dg_1, db_1, db_0, dl_1, dp_1, dv_1, dv_x, di_1, di_x, dw_1, ec_eq, ec_ne, ec_lt, ec_ge, ec_gt, ec_le, hq_z, hq_wz, hq_wc, hq_thr, hq_p29, hq_pw, eq_self, decide_true, decide_false, not_true_eq_false, not_false_eq_true, kq_0, kq_1, kq_2, kq_3, kq_4, kq_5, kq_6, kq_7, kq_8, kq_9, kq_10, kq_11, kq_12, kq_13, kq_14, kq_15, kq_16, kq_17, kq_18, kq_19, kq_20, kq_21, kq_22, kq_23, kq_24, kq_25, kq_26, kq_27, kq_28, kq_29, kq_30, kq_31, kq_32, kq_33, kq_34, kq_35, kq_36, kq_37, kq_38, kq_39, kq_40, kq_41, kq_42, kq_43, kq_44, kq_45, kq_46, kq_47, kq_48, kq_49, kq_50, kq_51, kq_52, kq_53, kq_54, kq_55, kq_56, kq_57, kq_58, kq_59, kq_60, kq_61, kq_62, kq_63, kq_64, kq_65, kq_66, kq_67, kq_68, kq_69, kq_70, kq_71, kq_72, kq_73, kq_74, kq_75, kq_76, kq_77, kq_78, kq_79, kq_80, kq_81, pq_0_0, pq_0_1, pq_0_2, pq_0_3, pq_0_4, pq_0_5, pq_0_6, pq_0_7, pq_1_0, pq_1_1, pq_1_2, pq_1_3, pq_1_4, pq_1_5, pq_1_6, pq_1_7, pq_10_0, pq_10_1, pq_10_2, pq_10_3, pq_15_0, pq_17_0, pq_19_0, pq_21_0, pq_21_1, pq_21_2, pq_21_3, pq_21_4, pq_21_5, pq_28_0, pq_30_0, pq_30_1, pq_30_2, pq_31_0, pq_35_0, pq_35_1, pq_35_2, pq_36_0, pq_40_0, pq_40_1, pq_40_2, pq_41_0, pq_45_0, pq_45_1, pq_45_2, pq_46_0, pq_50_0, pq_52_0, pq_52_1, pq_52_2, pq_52_3, pq_52_4, pq_52_5, pq_52_6, pq_52_8, pq_52_10, pq_52_11, pq_52_14, pq_52_15, pq_52_16, pq_52_17, pq_52_18, pq_52_27, pq_52_29, pq_52_30, pq_52_31, pq_52_32, pq_52_33, pq_52_34, pq_52_35, pq_52_36, pq_52_37, pq_52_38, pq_52_39, pq_52_40, pq_52_41, aq_1, aq_11, aq_12, aq_13, aq_14, aq_16, aq_18, aq_20, aq_22, aq_23, aq_24, aq_25, aq_26, aq_27, aq_29, aq_32, aq_33, aq_34, aq_37, aq_38, aq_39, aq_42, aq_43, aq_44, aq_47, aq_48, aq_49, aq_51, aq_53, aq_54, aq_55, aq_56, aq_57, aq_58, aq_59, aq_60, aq_61, aq_62, aq_63, aq_64, aq_65, aq_66, aq_67, aq_68, aq_69, aq_70, aq_71, aq_72, aq_73, aq_74, aq_75, aq_76, aq_77, aq_78, aq_79, aq_80, aq_81]
    · rw [g3 i hi, va_up_self, upd_if]
      by_cases h : i = k
      · rw [if_neg (by omega), if_pos h, if_pos (by omega)]
      · by_cases h3 : k + 1 ≤ i
        · rw [if_pos h3, if_pos (by omega)]
        · rw [if_neg h3, if_neg h, if_neg (by omega)]
theorem n33 (hj : j < 4) (hR : rdP z n P data) (hf : 1000 < f) : ∃ z', F_33 f (30 + 5 * j) 15 (nI t) (hq z w c s) = some (.inl none, hq z' w c s) ∧ (∀ b, b ≠ 30 + 5 * j → b ≠ 34 + 5 * j → z' b = z b) ∧ eC (nwE P t) (z' (30 + 5 * j)) (z' (30 + 5 * j + 2)) (z' (30 + 5 * j + 3)) (z' (30 + 5 * j + 4)) := by
  obtain ⟨hP, hn, hr, h0, hdt, hMq⟩ := hR
  have hl6 := hl_le P
  obtain ⟨a, ea⟩ : ∃ a, a = 30 + 5 * j := ⟨_, rfl⟩
  have rdq : ∀ z1 : Nat → Nat → Int32, (∀ b, b ≠ a → z1 b = z b) → cb z1 16 n P := fun z1 h => ⟨hP.1, fun i hi => by rw [h 16 (by omega)]; exact hP.2 i hi⟩
  obtain ⟨z1, e1⟩ : ∃ x, x = va_up z a (upd (z a) 5 (nI (n4 P 12))) := ⟨_, rfl⟩
  obtain ⟨z2, e2⟩ : ∃ x, x = va_up z1 a (upd (z1 a) 6 (nI (n4 P 16))) := ⟨_, rfl⟩
  obtain ⟨z3, e3⟩ : ∃ x, x = va_up z2 a (upd (z2 a) 7 (nI (n2 P 4))) := ⟨_, rfl⟩
  obtain ⟨z4, e4⟩ : ∃ x, x = va_up z3 a (upd (upd (upd (upd (upd (upd (z3 a) 8 (nI (P 9))) 9 (nI t)) 3 0) 10 0) 11 0) 12 0) := ⟨_, rfl⟩
  have n1 : ∀ b, b ≠ a → z1 b = z b := fun b hb => by rw [e1, va_up_ne _ _ hb]
  have n2' : ∀ b, b ≠ a → z2 b = z b := fun b hb => by rw [e2, va_up_ne _ _ hb, n1 b hb]
  have n3 : ∀ b, b ≠ a → z3 b = z b := fun b hb => by rw [e3, va_up_ne _ _ hb, n2' b hb]
  have n4' : ∀ b, b ≠ a → z4 b = z b := fun b hb => by rw [e4, va_up_ne _ _ hb, n3 b hb]
  have q18 := n18 (f := f) (w := w) (c := c) (s := s) pk_t hP hn (by omega) (by omega)
  have q19 := n19 (f := f) (w := w) (c := c) (s := s) pk_t (rdq z1 n1) hn (by omega) (by omega)
  have q11 := n11 (f := f) (w := w) (c := c) (s := s) pk_t (rdq z2 n2') hn (by omega) (by omega)
  have q17 := n17 (f := f) (w := w) (c := c) (s := s) pk_t (rdq z3 n3) hn (by omega) (by omega)
  have hk : ∀ z, hp_k (hq z w c s) a = some (5, 0) := fun z => by rw [ea]; exact (wk hj).1
  obtain ⟨z5, g1, g2, g3⟩ := n33_l (f := f) (w := w) (c := c) (s := s) hj 500 0 f z4 (by omega) (by omega)
  have g1' : B_33_59 f f a 0 (hq z4 w c s) = some (.inl none, hq z5 w c s) := by rw [ea]; exact g1
  rw [← ea]
  refine ⟨z5, ?_, fun b hb h4 => by rw [g2 b h4, n4' b hb], ⟨?_, ?_, ?_, ?_⟩⟩
  · rw [e4] at g1'
    simp only [F_33, hk, q18, ← e1, q19, ← e2, q11, ← e3, q17, va_up_self, va_up2, g1', dg_1, db_1, db_0, dl_1, dp_1, dv_1, dv_x, di_1, di_x, dw_1, ec_eq, ec_ne, ec_lt, ec_ge, ec_gt, ec_le, hq_z, hq_wz, hq_wc, hq_thr, hq_p29, hq_pw, eq_self, decide_true, decide_false, not_true_eq_false, not_false_eq_true, kq_0, kq_1, kq_2, kq_3, kq_4, kq_5, kq_6, kq_7, kq_8, kq_9, kq_10, kq_11, kq_12, kq_13, kq_14, kq_15, kq_16, kq_17, kq_18, kq_19, kq_20, kq_21, kq_22, kq_23, kq_24, kq_25, kq_26, kq_27, kq_28, kq_29, kq_30, kq_31, kq_32, kq_33, kq_34, kq_35, kq_36, kq_37, kq_38, kq_39, kq_40, kq_41, kq_42, kq_43, kq_44, kq_45, kq_46, kq_47, kq_48, kq_49, kq_50, kq_51, kq_52, kq_53, kq_54, kq_55, kq_56, kq_57, kq_58, kq_59, kq_60, kq_61, kq_62, kq_63, kq_64, kq_65, kq_66, kq_67, kq_68, kq_69, kq_70, kq_71, kq_72, kq_73, kq_74, kq_75, kq_76, kq_77, kq_78, kq_79, kq_80, kq_81, pq_0_0, pq_0_1, pq_0_2, pq_0_3, pq_0_4, pq_0_5, pq_0_6, pq_0_7, pq_1_0, pq_1_1, pq_1_2, pq_1_3, pq_1_4, pq_1_5, pq_1_6, pq_1_7, pq_10_0, pq_10_1, pq_10_2, pq_10_3, pq_15_0, pq_17_0, pq_19_0, pq_21_0, pq_21_1, pq_21_2, pq_21_3, pq_21_4, pq_21_5, pq_28_0, pq_30_0, pq_30_1, pq_30_2, pq_31_0, pq_35_0, pq_35_1, pq_35_2, pq_36_0, pq_40_0, pq_40_1, pq_40_2, pq_41_0, pq_45_0, pq_45_1, pq_45_2, pq_46_0, pq_50_0, pq_52_0, pq_52_1, pq_52_2, pq_52_3, pq_52_4, pq_52_5, pq_52_6, pq_52_8, pq_52_10, pq_52_11, pq_52_14, pq_52_15, pq_52_16, pq_52_17, pq_52_18, pq_52_27, pq_52_29, pq_52_30, pq_52_31, pq_52_32, pq_52_33, pq_52_34, pq_52_35, pq_52_36, pq_52_37, pq_52_38, pq_52_39, pq_52_40, pq_52_41, aq_1, aq_11, aq_12, aq_13, aq_14, aq_16, aq_18, aq_20, aq_22, aq_23, aq_24, aq_25, aq_26, aq_27, aq_29, aq_32, aq_33, aq_34, aq_37, aq_38, aq_39, aq_42, aq_43, aq_44, aq_47, aq_48, aq_49, aq_51, aq_53, aq_54, aq_55, aq_56, aq_57, aq_58, aq_59, aq_60, aq_61, aq_62, aq_63, aq_64, aq_65, aq_66, aq_67, aq_68, aq_69, aq_70, aq_71, aq_72, aq_73, aq_74, aq_75, aq_76, aq_77, aq_78, aq_79, aq_80, aq_81]
  · have hu : uc (nwE P t) 500 = 0 := uc_z 500 (fun i _ => nw_k (by omega))
    rw [g2 a (by omega), hu, nw_0, nw_1, nw_2, nw_3, nw_4, nw_k (k := 5) (by omega), nw_k (k := 6) (by omega), nw_k (k := 7) (by omega), e4, va_up_self]
    refine ⟨?_, ?_, ?_, ?_, ?_, ?_, ?_, ?_, ?_⟩
    · rw [pk_un (by omega), pk_un (by omega), pk_un (by omega), pk_un (by omega), pk_un (by omega), pk_un (by omega), e3, va_up_self, pk_un (by omega), e2, va_up_self, pk_un (by omega), e1, va_up_self, pk_us]
    · rw [pk_un (by omega), pk_un (by omega), pk_un (by omega), pk_un (by omega), pk_un (by omega), pk_un (by omega), e3, va_up_self, pk_un (by omega), e2, va_up_self, pk_us]
    · rw [pk_un (by omega), pk_un (by omega), pk_un (by omega), pk_un (by omega), pk_un (by omega), pk_un (by omega), e3, va_up_self, pk_us]
    · rw [pk_un (by omega), pk_un (by omega), pk_un (by omega), pk_un (by omega), pk_un (by omega), pk_us]
    · rw [pk_un (by omega), pk_un (by omega), pk_un (by omega), pk_un (by omega), pk_us]
    · rw [pk_un (by omega), pk_us]
    · rw [pk_us]
    · rw [pk_un (by omega), pk_un (by omega), pk_un (by omega), pk_us]
    · rw [pk_un (by omega), pk_un (by omega), pk_us]; rfl
  · intro h; rw [nw_k (by omega)] at h; exact absurd h (by decide)
  · intro i hi h; unfold thE at h; rw [nw_k (by omega)] at h; exact absurd h.1 (by decide)
  · intro i hi
    rw [show a + 4 = 34 + 5 * j by omega, g3 i hi, if_pos (by omega), nw_k (by omega)]
-- the units of a piece
def suE (E : Nat → Int32) (k m : Nat) : Nat → Int32 := fun t => if 6000 + k ≤ t ∧ 8 * (t - 6000) < m then 1 else E t
theorem n36_l (hj : j < 4) {l2 : Int32} {st : Nat} (hm : st + data ≤ 4000) : ∀ (q k g : Nat) (E : Nat → Int32) (z : Nat → Nat → Int32), k + q = (st + data + 7) / 8 → q < g → (∀ i, i < 500 → dz (E (6000 + i))) → (∀ i, i < 500 → z (34 + 5 * j) i = E (6000 + i)) → z (30 + 5 * j) 10 = nI (uc E 500) → ∃ z', B_36_35 f g (30 + 5 * j) 15 l2 (nI st) (nI data) (nI k) (hq z w c s) = B_36_35 f (g - q) (30 + 5 * j) 15 l2 (nI st) (nI data) (nI (k + q)) (hq z' w c s) ∧ (∀ b, b ≠ 30 + 5 * j → b ≠ 34 + 5 * j → z' b = z b) ∧ (∀ k, k ≠ 10 → z' (30 + 5 * j) k = z (30 + 5 * j) k) ∧ (∀ i, i < 500 → z' (34 + 5 * j) i = suE E k (st + data) (6000 + i)) ∧ z' (30 + 5 * j) 10 = nI (uc (suE E k (st + data)) 500) := by
  intro q
  induction q with
  | zero =>
    intro k g E z h1 h2 hd hu h10
    have ee : ∀ i, suE E k (st + data) (6000 + i) = E (6000 + i) := fun i => by unfold suE; rw [if_neg (by omega)]
    refine ⟨z, rfl, fun _ _ _ => rfl, fun _ _ => rfl, fun i hi => by rw [ee, hu i hi], ?_⟩
    rw [h10, uc_c 500 (fun i _ => ee i)]
  | succ q ih =>
    intro k g E z h1 h2 hd hu h10
    obtain ⟨g, rfl⟩ : ∃ g', g = g' + 1 := ⟨g - 1, by omega⟩
    obtain ⟨k1, k2, k3, k4, k5, k6⟩ := wk (z := z) (w := w) (c := c) (s := s) hj
    have e1 : ¬ nI (st + data) ≤ nI (k * 8) := nI_ge (by omega) (by omega)
    have x8 : nI k * (8 : Int32) = nI (k * 8) := nI_mulN k 8
    have i1 : ev_in (nI k) 500 = true := ev_in_nI (by omega) (by omega)
    have i2 : (nI k).toNatClampNeg = k := nI_clamp (by omega)
    have hv : vp_nar .boolean (1 : Int32) = 1 := rfl
    have hzk := hu k (by omega)
    have eS : suE (fun t => if t = 6000 + k then 1 else E t) (k + 1) (st + data) = suE E k (st + data) := by
      funext t
      unfold suE
      dsimp only
      by_cases h3 : t = 6000 + k
      · rw [if_neg (by omega), if_pos h3, if_pos (by omega)]
      · by_cases h4 : 6000 + (k + 1) ≤ t ∧ 8 * (t - 6000) < st + data
        · rw [if_pos h4, if_pos (by omega)]
        · rw [if_neg h4, if_neg h3, if_neg (by omega)]
    by_cases h3 : E (6000 + k) = 1
    · have eE : (fun t => if t = 6000 + k then 1 else E t) = E := by
        funext t
        by_cases h5 : t = 6000 + k
        · rw [if_pos h5, h5, h3]
        · rw [if_neg h5]
      rw [eE] at eS
      obtain ⟨z2, g1, g2, g3, g4, g5⟩ := ih (k + 1) g E z (by omega) (by omega) hd hu h10
      rw [eS] at g4 g5
      refine ⟨z2, ?_, g2, g3, g4, g5⟩
      rw [show g + 1 - (q + 1) = g - q by omega, show k + (q + 1) = k + 1 + q by omega, ← g1]
      rw [h3] at hzk
      simp only [B_36_35, B_36_75, nI_add, x8, e1, k1, k4, aib_k k6, i1, i2, hzk, show ¬ (1 : Int32) = 0 by decide, nI_1, dg_1, db_1, db_0, dl_1, dp_1, dv_1, dv_x, di_1, di_x, dw_1, ec_eq, ec_ne, ec_lt, ec_ge, ec_gt, ec_le, hq_z, hq_wz, hq_wc, hq_thr, hq_p29, hq_pw, eq_self, decide_true, decide_false, not_true_eq_false, not_false_eq_true, kq_0, kq_1, kq_2, kq_3, kq_4, kq_5, kq_6, kq_7, kq_8, kq_9, kq_10, kq_11, kq_12, kq_13, kq_14, kq_15, kq_16, kq_17, kq_18, kq_19, kq_20, kq_21, kq_22, kq_23, kq_24, kq_25, kq_26, kq_27, kq_28, kq_29, kq_30, kq_31, kq_32, kq_33, kq_34, kq_35, kq_36, kq_37, kq_38, kq_39, kq_40, kq_41, kq_42, kq_43, kq_44, kq_45, kq_46, kq_47, kq_48, kq_49, kq_50, kq_51, kq_52, kq_53, kq_54, kq_55, kq_56, kq_57, kq_58, kq_59, kq_60, kq_61, kq_62, kq_63, kq_64, kq_65, kq_66, kq_67, kq_68, kq_69, kq_70, kq_71, kq_72, kq_73, kq_74, kq_75, kq_76, kq_77, kq_78, kq_79, kq_80, kq_81, pq_0_0, pq_0_1, pq_0_2, pq_0_3, pq_0_4, pq_0_5, pq_0_6, pq_0_7, pq_1_0, pq_1_1, pq_1_2, pq_1_3, pq_1_4, pq_1_5, pq_1_6, pq_1_7, pq_10_0, pq_10_1, pq_10_2, pq_10_3, pq_15_0, pq_17_0, pq_19_0, pq_21_0, pq_21_1, pq_21_2, pq_21_3, pq_21_4, pq_21_5, pq_28_0, pq_30_0, pq_30_1, pq_30_2, pq_31_0, pq_35_0, pq_35_1, pq_35_2, pq_36_0, pq_40_0, pq_40_1, pq_40_2, pq_41_0, pq_45_0, pq_45_1, pq_45_2, pq_46_0, pq_50_0, pq_52_0, pq_52_1, pq_52_2, pq_52_3, pq_52_4, pq_52_5, pq_52_6, pq_52_8, pq_52_10, pq_52_11, pq_52_14, pq_52_15, pq_52_16, pq_52_17, pq_52_18, pq_52_27, pq_52_29, pq_52_30, pq_52_31, pq_52_32, pq_52_33, pq_52_34, pq_52_35, pq_52_36, pq_52_37, pq_52_38, pq_52_39, pq_52_40, pq_52_41, aq_1, aq_11, aq_12, aq_13, aq_14, aq_16, aq_18, aq_20, aq_22, aq_23, aq_24, aq_25, aq_26, aq_27, aq_29, aq_32, aq_33, aq_34, aq_37, aq_38, aq_39, aq_42, aq_43, aq_44, aq_47, aq_48, aq_49, aq_51, aq_53, aq_54, aq_55, aq_56, aq_57, aq_58, aq_59, aq_60, aq_61, aq_62, aq_63, aq_64, aq_65, aq_66, aq_67, aq_68, aq_69, aq_70, aq_71, aq_72, aq_73, aq_74, aq_75, aq_76, aq_77, aq_78, aq_79, aq_80, aq_81]
    · have h0 : E (6000 + k) = 0 := (hd k (by omega)).resolve_right h3
      obtain ⟨z1, ez⟩ : ∃ x, x = va_up (va_up z (34 + 5 * j) (upd (z (34 + 5 * j)) k 1)) (30 + 5 * j) (upd (z (30 + 5 * j)) 10 (nI (uc E 500 + 1))) := ⟨_, rfl⟩
      have t4 : z1 (34 + 5 * j) = upd (z (34 + 5 * j)) k 1 := by rw [ez, va_up_ne _ _ (by omega), va_up_self]
      have t0 : z1 (30 + 5 * j) = upd (z (30 + 5 * j)) 10 (nI (uc E 500 + 1)) := by rw [ez, va_up_self]
      have tn : ∀ b, b ≠ 30 + 5 * j → b ≠ 34 + 5 * j → z1 b = z b := fun b hb hb4 => by rw [ez, va_up_ne _ _ hb, va_up_ne _ _ hb4]
      obtain ⟨z2, g1, g2, g3, g4, g5⟩ := ih (k + 1) g (fun t => if t = 6000 + k then 1 else E t) z1 (by omega) (by omega) (fun i hi => by
        by_cases h5 : 6000 + i = 6000 + k
        · rw [if_pos h5]; exact dz_1
        · rw [if_neg h5]; exact hd i hi) (fun i hi => by
        rw [t4, upd_if]
        by_cases h5 : i = k
        · rw [if_pos h5, if_pos (by omega)]
        · rw [if_neg h5, if_neg (by omega)]; exact hu i hi) (by rw [t0, pk_us, uc_set, if_pos ⟨by omega, h3⟩])
      rw [eS] at g4 g5
      refine ⟨z2, ?_, fun b hb hb4 => by rw [g2 b hb hb4, tn b hb hb4], fun i hi => by rw [g3 i hi, t0, pk_un hi], g4, g5⟩
      rw [show g + 1 - (q + 1) = g - q by omega, show k + (q + 1) = k + 1 + q by omega, ← g1, ez]
      rw [h0] at hzk
      have hne : va_up z (34 + 5 * j) (upd (z (34 + 5 * j)) k 1) (30 + 5 * j) = z (30 + 5 * j) := va_up_ne _ _ (by omega)
      have kk : ∀ z, hp_k (hq z w c s) (30 + 5 * j) = some (5, 0) := fun z => (wk hj).1
      simp only [B_36_35, B_36_75, nI_add, x8, e1, kk, k4, aib_k k6, i1, i2, hzk, hv, hne, h10, nI_1, dg_1, db_1, db_0, dl_1, dp_1, dv_1, dv_x, di_1, di_x, dw_1, ec_eq, ec_ne, ec_lt, ec_ge, ec_gt, ec_le, hq_z, hq_wz, hq_wc, hq_thr, hq_p29, hq_pw, eq_self, decide_true, decide_false, not_true_eq_false, not_false_eq_true, kq_0, kq_1, kq_2, kq_3, kq_4, kq_5, kq_6, kq_7, kq_8, kq_9, kq_10, kq_11, kq_12, kq_13, kq_14, kq_15, kq_16, kq_17, kq_18, kq_19, kq_20, kq_21, kq_22, kq_23, kq_24, kq_25, kq_26, kq_27, kq_28, kq_29, kq_30, kq_31, kq_32, kq_33, kq_34, kq_35, kq_36, kq_37, kq_38, kq_39, kq_40, kq_41, kq_42, kq_43, kq_44, kq_45, kq_46, kq_47, kq_48, kq_49, kq_50, kq_51, kq_52, kq_53, kq_54, kq_55, kq_56, kq_57, kq_58, kq_59, kq_60, kq_61, kq_62, kq_63, kq_64, kq_65, kq_66, kq_67, kq_68, kq_69, kq_70, kq_71, kq_72, kq_73, kq_74, kq_75, kq_76, kq_77, kq_78, kq_79, kq_80, kq_81, pq_0_0, pq_0_1, pq_0_2, pq_0_3, pq_0_4, pq_0_5, pq_0_6, pq_0_7, pq_1_0, pq_1_1, pq_1_2, pq_1_3, pq_1_4, pq_1_5, pq_1_6, pq_1_7, pq_10_0, pq_10_1, pq_10_2, pq_10_3, pq_15_0, pq_17_0, pq_19_0, pq_21_0, pq_21_1, pq_21_2, pq_21_3, pq_21_4, pq_21_5, pq_28_0, pq_30_0, pq_30_1, pq_30_2, pq_31_0, pq_35_0, pq_35_1, pq_35_2, pq_36_0, pq_40_0, pq_40_1, pq_40_2, pq_41_0, pq_45_0, pq_45_1, pq_45_2, pq_46_0, pq_50_0, pq_52_0, pq_52_1, pq_52_2, pq_52_3, pq_52_4, pq_52_5, pq_52_6, pq_52_8, pq_52_10, pq_52_11, pq_52_14, pq_52_15, pq_52_16, pq_52_17, pq_52_18, pq_52_27, pq_52_29, pq_52_30, pq_52_31, pq_52_32, pq_52_33, pq_52_34, pq_52_35, pq_52_36, pq_52_37, pq_52_38, pq_52_39, pq_52_40, pq_52_41, aq_1, aq_11, aq_12, aq_13, aq_14, aq_16, aq_18, aq_20, aq_22, aq_23, aq_24, aq_25, aq_26, aq_27, aq_29, aq_32, aq_33, aq_34, aq_37, aq_38, aq_39, aq_42, aq_43, aq_44, aq_47, aq_48, aq_49, aq_51, aq_53, aq_54, aq_55, aq_56, aq_57, aq_58, aq_59, aq_60, aq_61, aq_62, aq_63, aq_64, aq_65, aq_66, aq_67, aq_68, aq_69, aq_70, aq_71, aq_72, aq_73, aq_74, aq_75, aq_76, aq_77, aq_78, aq_79, aq_80, aq_81]
theorem n36 (hj : j < 4) (hR : rdP z n P data) (hp : p < 8) (hE : eW E) (hw : ¬ wrP P data) (hr : ¬ rfE E P data) (hpc : ¬ n2 P 6 % 16384 = 0) (hC : eC E (z (30 + 5 * j)) (z (30 + 5 * j + 2)) (z (30 + 5 * j + 3)) (z (30 + 5 * j + 4))) (b2 : ∀ i, br (z (32 + 5 * j) i)) (b3 : ∀ i, br (z (33 + 5 * j) i)) (hf : 1000 < f) : ∃ z', F_36 f (30 + 5 * j) 15 (nI p) (hq z w c s) = some (.inl none, hq z' w c s) ∧ (∀ b, b < 30 + 5 * j ∨ 34 + 5 * j < b → z' b = z b) ∧ eC (adE E P p data) (z' (30 + 5 * j)) (z' (30 + 5 * j + 2)) (z' (30 + 5 * j + 3)) (z' (30 + 5 * j + 4)) ∧ (∀ i, br (z' (32 + 5 * j) i)) ∧ ∀ i, br (z' (33 + 5 * j) i) := by
  have hR' := hR
  obtain ⟨hP, hn, hr16, h0, hdt, hMq⟩ := hR
  have hl6 := hl_le P
  have hst := st_le P
  have hst8 := st_8 P
  have hmo := mo_lt P
  have her := adx_r (E := E) (P := P) (p := p) (data := data) (by omega) hE.2.2.2.1.2
  obtain ⟨C1, C2, C3, C4⟩ := hC
  have w4 := hE.2.2.2.1.1
  have w5 := hE.2.2.2.1.2
  have w8 := hE.2.2.2.2.2.2.1
  have q15 := n15 (f := f) (w := w) (c := c) (s := s) pk_t hP hn (by omega) (by omega)
  rw [← st_e] at q15
  have q10 := n10 (f := f) (w := w) (c := c) (s := s) pk_t hP hn (by omega) (by omega) (by omega)
  rw [show n2 P 2 - hl P = data by omega] at q10
  have q8 := n8 (f := f) (w := w) (c := c) (s := s) pk_t hP hn (by omega) (by omega)
  obtain ⟨z1, e1⟩ : ∃ x, x = cpz z (33 + 5 * j) 16 (hl P) (stN P) data := ⟨_, rfl⟩
  have n1 : ∀ b, b ≠ 33 + 5 * j → z1 b = z b := fun b hb => by rw [e1, cpz_ne hb]
  have kk : ∀ z, hp_k (hq z w c s) (30 + 5 * j) = some (5, 0) := fun z => (wk hj).1
  have ca : acb 65 (hq z w c s) 16 (nI (hl P)) (33 + 5 * j) (nI (stN P)) (nI data) = true := acb_n kq_16 (wk hj).2.2.2.2.1 (by omega) (by omega) (by omega) (by omega)
  have wa : wc (hq z w c s) 16 (nI (hl P)) (33 + 5 * j) (nI (stN P)) (nI data) = hq z1 w c s := by rw [e1]; exact hq_cp (by omega) (by omega) (by omega)
  have x8 : nI (stN P) / (8 : Int32) = nI (stN P / 8) := nI_divN (b := 8) (by omega) (by omega)
  obtain ⟨z2, g1, g2, g3, g4, g5⟩ := n36_l (f := f) (w := w) (c := c) (s := s) hj (l2 := nI p) (st := stN P) (data := data) (by omega) ((stN P + data + 7) / 8 - stN P / 8) (stN P / 8) f E z1 (by omega) (by omega) (fun i hi => (w8 i hi).1) (fun i hi => by rw [n1 _ (by omega)]; have := C4 i hi; rw [show 30 + 5 * j + 4 = 34 + 5 * j by omega] at this; exact this) (by rw [n1 _ (by omega)]; exact C1.2.2.2.2.2.2.2.2)
  have eU : ∀ i, suE E (stN P / 8) (stN P + data) (6000 + i) = adE E P p data (6000 + i) := fun i => by
    rw [adx_u]; unfold suE
    by_cases h : stN P / 8 ≤ i ∧ 8 * i < stN P + data
    · rw [if_pos h, if_pos (by omega)]
    · rw [if_neg h, if_neg (by omega)]
  rw [uc_c 500 (fun i _ => eU i)] at g5
  -- the reach, the end
  obtain ⟨g, hg⟩ : ∃ g, f - ((stN P + data + 7) / 8 - stN P / 8) = g + 1 := ⟨f - ((stN P + data + 7) / 8 - stN P / 8) - 1, by omega⟩
  rw [hg, show stN P / 8 + ((stN P + data + 7) / 8 - stN P / 8) = (stN P + data + 7) / 8 by omega] at g1
  have y0 : nI (stN P + data) ≤ nI ((stN P + data + 7) / 8 * 8) := nI_le (by omega) (by omega)
  have y1 : nI ((stN P + data + 7) / 8) * (8 : Int32) = nI ((stN P + data + 7) / 8 * 8) := nI_mulN _ 8
  have h11 : z2 (30 + 5 * j) 11 = nI (er E) := by rw [g3 11 (by omega), n1 _ (by omega), C1.2.2.2.2.2.1]; exact w4
  have y2 : (if nI (er E) < nI (stN P + data) then nI (stN P + data) else nI (er E)) = adE E P p data 5 := by
    rw [adx_5]
    by_cases h : er E < stN P + data
    · rw [if_pos (nI_lt h (by omega)), if_pos h]
    · rw [if_neg (nI_nlt (by omega) (by omega)), if_neg h]
  obtain ⟨z3, e3⟩ : ∃ x, x = va_up z2 (30 + 5 * j) (upd (z2 (30 + 5 * j)) 11 (adE E P p data 5)) := ⟨_, rfl⟩
  have n3 : ∀ b, b ≠ 30 + 5 * j → z3 b = z2 b := fun b hb => by rw [e3, va_up_ne _ _ hb]
  have hP3 : cb z3 16 n P := ⟨hP.1, fun i hi => by rw [n3 16 (by omega), g2 16 (by omega) (by omega), n1 16 (by omega)]; exact hP.2 i hi⟩
  have q13 := n13 (f := f) (w := w) (c := c) (s := s) pk_t hP3 hn (by omega) (by omega)
  rw [← mo_e] at q13
  obtain ⟨z4, e4⟩ : ∃ x, x = va_up z3 (30 + 5 * j) (upd (z3 (30 + 5 * j)) 12 (adE E P p data 6)) := ⟨_, rfl⟩
  have h12 : z3 (30 + 5 * j) 12 = E 6 := by rw [e3, va_up_self, pk_un (by omega), g3 12 (by omega), n1 _ (by omega)]; exact C1.2.2.2.2.2.2.1
  have n4' : ∀ b, b ≠ 30 + 5 * j → z4 b = z2 b := fun b hb => by rw [e4, va_up_ne _ _ hb, n3 b hb]
  have upd_id : ∀ (G : Nat → Int32) (k : Nat), upd G k (G k) = G := fun G k => by
    funext i; rw [upd_if]; by_cases h : i = k
    · rw [if_pos h, h]
    · rw [if_neg h]
  have s2 : B_36_35 f (g + 1) (30 + 5 * j) 15 (nI p) (nI (stN P)) (nI data) (nI ((stN P + data + 7) / 8)) (hq z2 w c s) = B_36_108 f (30 + 5 * j) 15 (nI p) (nI (stN P)) (hq z4 w c s) := by
    by_cases h : moN P = 0
    · have e6 : adE E P p data 6 = 1 := by rw [adx_6, if_pos h]
      rw [e6] at e4
      rw [h] at q13
      simp only [B_36_35, nI_add, y1, y0, kk, h11, y2, ← e3, q13, nI_0, ← e4, dg_1, db_1, db_0, dl_1, dp_1, dv_1, dv_x, di_1, di_x, dw_1, ec_eq, ec_ne, ec_lt, ec_ge, ec_gt, ec_le, hq_z, hq_wz, hq_wc, hq_thr, hq_p29, hq_pw, eq_self, decide_true, decide_false, not_true_eq_false, not_false_eq_true, kq_0, kq_1, kq_2, kq_3, kq_4, kq_5, kq_6, kq_7, kq_8, kq_9, kq_10, kq_11, kq_12, kq_13, kq_14, kq_15, kq_16, kq_17, kq_18, kq_19, kq_20, kq_21, kq_22, kq_23, kq_24, kq_25, kq_26, kq_27, kq_28, kq_29, kq_30, kq_31, kq_32, kq_33, kq_34, kq_35, kq_36, kq_37, kq_38, kq_39, kq_40, kq_41, kq_42, kq_43, kq_44, kq_45, kq_46, kq_47, kq_48, kq_49, kq_50, kq_51, kq_52, kq_53, kq_54, kq_55, kq_56, kq_57, kq_58, kq_59, kq_60, kq_61, kq_62, kq_63, kq_64, kq_65, kq_66, kq_67, kq_68, kq_69, kq_70, kq_71, kq_72, kq_73, kq_74, kq_75, kq_76, kq_77, kq_78, kq_79, kq_80, kq_81, pq_0_0, pq_0_1, pq_0_2, pq_0_3, pq_0_4, pq_0_5, pq_0_6, pq_0_7, pq_1_0, pq_1_1, pq_1_2, pq_1_3, pq_1_4, pq_1_5, pq_1_6, pq_1_7, pq_10_0, pq_10_1, pq_10_2, pq_10_3, pq_15_0, pq_17_0, pq_19_0, pq_21_0, pq_21_1, pq_21_2, pq_21_3, pq_21_4, pq_21_5, pq_28_0, pq_30_0, pq_30_1, pq_30_2, pq_31_0, pq_35_0, pq_35_1, pq_35_2, pq_36_0, pq_40_0, pq_40_1, pq_40_2, pq_41_0, pq_45_0, pq_45_1, pq_45_2, pq_46_0, pq_50_0, pq_52_0, pq_52_1, pq_52_2, pq_52_3, pq_52_4, pq_52_5, pq_52_6, pq_52_8, pq_52_10, pq_52_11, pq_52_14, pq_52_15, pq_52_16, pq_52_17, pq_52_18, pq_52_27, pq_52_29, pq_52_30, pq_52_31, pq_52_32, pq_52_33, pq_52_34, pq_52_35, pq_52_36, pq_52_37, pq_52_38, pq_52_39, pq_52_40, pq_52_41, aq_1, aq_11, aq_12, aq_13, aq_14, aq_16, aq_18, aq_20, aq_22, aq_23, aq_24, aq_25, aq_26, aq_27, aq_29, aq_32, aq_33, aq_34, aq_37, aq_38, aq_39, aq_42, aq_43, aq_44, aq_47, aq_48, aq_49, aq_51, aq_53, aq_54, aq_55, aq_56, aq_57, aq_58, aq_59, aq_60, aq_61, aq_62, aq_63, aq_64, aq_65, aq_66, aq_67, aq_68, aq_69, aq_70, aq_71, aq_72, aq_73, aq_74, aq_75, aq_76, aq_77, aq_78, aq_79, aq_80, aq_81]
    · have h1 : moN P = 1 := by omega
      have e6 : adE E P p data 6 = E 6 := by rw [adx_6, if_neg h]
      have e4' : z4 = z3 := by rw [e4, e6, ← h12, upd_id, va_upi]
      rw [e4']
      rw [h1] at q13
      simp only [B_36_35, nI_add, y1, y0, kk, h11, y2, ← e3, q13, show ¬ nI 1 = 0 by decide, dg_1, db_1, db_0, dl_1, dp_1, dv_1, dv_x, di_1, di_x, dw_1, ec_eq, ec_ne, ec_lt, ec_ge, ec_gt, ec_le, hq_z, hq_wz, hq_wc, hq_thr, hq_p29, hq_pw, eq_self, decide_true, decide_false, not_true_eq_false, not_false_eq_true, kq_0, kq_1, kq_2, kq_3, kq_4, kq_5, kq_6, kq_7, kq_8, kq_9, kq_10, kq_11, kq_12, kq_13, kq_14, kq_15, kq_16, kq_17, kq_18, kq_19, kq_20, kq_21, kq_22, kq_23, kq_24, kq_25, kq_26, kq_27, kq_28, kq_29, kq_30, kq_31, kq_32, kq_33, kq_34, kq_35, kq_36, kq_37, kq_38, kq_39, kq_40, kq_41, kq_42, kq_43, kq_44, kq_45, kq_46, kq_47, kq_48, kq_49, kq_50, kq_51, kq_52, kq_53, kq_54, kq_55, kq_56, kq_57, kq_58, kq_59, kq_60, kq_61, kq_62, kq_63, kq_64, kq_65, kq_66, kq_67, kq_68, kq_69, kq_70, kq_71, kq_72, kq_73, kq_74, kq_75, kq_76, kq_77, kq_78, kq_79, kq_80, kq_81, pq_0_0, pq_0_1, pq_0_2, pq_0_3, pq_0_4, pq_0_5, pq_0_6, pq_0_7, pq_1_0, pq_1_1, pq_1_2, pq_1_3, pq_1_4, pq_1_5, pq_1_6, pq_1_7, pq_10_0, pq_10_1, pq_10_2, pq_10_3, pq_15_0, pq_17_0, pq_19_0, pq_21_0, pq_21_1, pq_21_2, pq_21_3, pq_21_4, pq_21_5, pq_28_0, pq_30_0, pq_30_1, pq_30_2, pq_31_0, pq_35_0, pq_35_1, pq_35_2, pq_36_0, pq_40_0, pq_40_1, pq_40_2, pq_41_0, pq_45_0, pq_45_1, pq_45_2, pq_46_0, pq_50_0, pq_52_0, pq_52_1, pq_52_2, pq_52_3, pq_52_4, pq_52_5, pq_52_6, pq_52_8, pq_52_10, pq_52_11, pq_52_14, pq_52_15, pq_52_16, pq_52_17, pq_52_18, pq_52_27, pq_52_29, pq_52_30, pq_52_31, pq_52_32, pq_52_33, pq_52_34, pq_52_35, pq_52_36, pq_52_37, pq_52_38, pq_52_39, pq_52_40, pq_52_41, aq_1, aq_11, aq_12, aq_13, aq_14, aq_16, aq_18, aq_20, aq_22, aq_23, aq_24, aq_25, aq_26, aq_27, aq_29, aq_32, aq_33, aq_34, aq_37, aq_38, aq_39, aq_42, aq_43, aq_44, aq_47, aq_48, aq_49, aq_51, aq_53, aq_54, aq_55, aq_56, aq_57, aq_58, aq_59, aq_60, aq_61, aq_62, aq_63, aq_64, aq_65, aq_66, aq_67, aq_68, aq_69, aq_70, aq_71, aq_72, aq_73, aq_74, aq_75, aq_76, aq_77, aq_78, aq_79, aq_80, aq_81]
  -- fields of z4
  have f4 : ∀ k, k ≠ 10 → k ≠ 11 → k ≠ 12 → z4 (30 + 5 * j) k = z (30 + 5 * j) k := fun k h10 h11' h12' => by rw [e4, va_up_self, pk_un h12', e3, va_up_self, pk_un h11', g3 k h10, n1 _ (by omega)]
  have f4a : z4 (30 + 5 * j) 10 = nI (uc (adE E P p data) 500) := by rw [e4, va_up_self, pk_un (by omega), e3, va_up_self, pk_un (by omega)]; exact g5
  have f4b : z4 (30 + 5 * j) 11 = adE E P p data 5 := by rw [e4, va_up_self, pk_un (by omega), e3, va_up_self, pk_us]
  have f4c : z4 (30 + 5 * j) 12 = adE E P p data 6 := by rw [e4, va_up_self, pk_us]
  have hbytes : ∀ zz : Nat → Nat → Int32, zz (33 + 5 * j) = z1 (33 + 5 * j) → ∀ i, i < 4000 → thE (adE E P p data) i → zz (33 + 5 * j) i &&& 255 = adE E P p data (1000 + i) := fun zz hzz i hi hth => by
    rw [hzz, e1, cpz_at, adx_b (by omega)]
    rcases (th_ad hE hw hr hi).mp hth with h | h
    · by_cases h7 : stN P ≤ i ∧ i < stN P + data
      · rw [if_pos h7, if_pos h7]; exact hP.2 _ (by omega)
      · rw [if_neg h7, if_neg h7]; have := C3 i hi h; rw [show 30 + 5 * j + 3 = 33 + 5 * j by omega] at this; exact this
    · rw [if_pos h, if_pos h]; exact hP.2 _ (by omega)
  have b31 : ∀ i, br (z1 (33 + 5 * j) i) := by rw [e1]; exact br_cpz b3 hr16
  have hC1 := C1
  obtain ⟨c5, c6, c7, c8', c9, c11, c12, c3', c10⟩ := hC1
  have s0 : F_36 f (30 + 5 * j) 15 (nI p) (hq z w c s) = B_36_108 f (30 + 5 * j) 15 (nI p) (nI (stN P)) (hq z4 w c s) := by
    rw [← s2, ← g1]
    simp only [F_36, q15, q10, q8, kk, (wk hj).2.2.1, ca, wa, x8, dg_1, db_1, db_0, dl_1, dp_1, dv_1, dv_x, di_1, di_x, dw_1, ec_eq, ec_ne, ec_lt, ec_ge, ec_gt, ec_le, hq_z, hq_wz, hq_thr, hq_p29, hq_pw, eq_self, decide_true, decide_false, not_true_eq_false, not_false_eq_true, kq_0, kq_1, kq_2, kq_3, kq_4, kq_5, kq_6, kq_7, kq_8, kq_9, kq_10, kq_11, kq_12, kq_13, kq_14, kq_15, kq_16, kq_17, kq_18, kq_19, kq_20, kq_21, kq_22, kq_23, kq_24, kq_25, kq_26, kq_27, kq_28, kq_29, kq_30, kq_31, kq_32, kq_33, kq_34, kq_35, kq_36, kq_37, kq_38, kq_39, kq_40, kq_41, kq_42, kq_43, kq_44, kq_45, kq_46, kq_47, kq_48, kq_49, kq_50, kq_51, kq_52, kq_53, kq_54, kq_55, kq_56, kq_57, kq_58, kq_59, kq_60, kq_61, kq_62, kq_63, kq_64, kq_65, kq_66, kq_67, kq_68, kq_69, kq_70, kq_71, kq_72, kq_73, kq_74, kq_75, kq_76, kq_77, kq_78, kq_79, kq_80, kq_81, pq_0_0, pq_0_1, pq_0_2, pq_0_3, pq_0_4, pq_0_5, pq_0_6, pq_0_7, pq_1_0, pq_1_1, pq_1_2, pq_1_3, pq_1_4, pq_1_5, pq_1_6, pq_1_7, pq_10_0, pq_10_1, pq_10_2, pq_10_3, pq_15_0, pq_17_0, pq_19_0, pq_21_0, pq_21_1, pq_21_2, pq_21_3, pq_21_4, pq_21_5, pq_28_0, pq_30_0, pq_30_1, pq_30_2, pq_31_0, pq_35_0, pq_35_1, pq_35_2, pq_36_0, pq_40_0, pq_40_1, pq_40_2, pq_41_0, pq_45_0, pq_45_1, pq_45_2, pq_46_0, pq_50_0, pq_52_0, pq_52_1, pq_52_2, pq_52_3, pq_52_4, pq_52_5, pq_52_6, pq_52_8, pq_52_10, pq_52_11, pq_52_14, pq_52_15, pq_52_16, pq_52_17, pq_52_18, pq_52_27, pq_52_29, pq_52_30, pq_52_31, pq_52_32, pq_52_33, pq_52_34, pq_52_35, pq_52_36, pq_52_37, pq_52_38, pq_52_39, pq_52_40, pq_52_41, aq_1, aq_11, aq_12, aq_13, aq_14, aq_16, aq_18, aq_20, aq_22, aq_23, aq_24, aq_25, aq_26, aq_27, aq_29, aq_32, aq_33, aq_34, aq_37, aq_38, aq_39, aq_42, aq_43, aq_44, aq_47, aq_48, aq_49, aq_51, aq_53, aq_54, aq_55, aq_56, aq_57, aq_58, aq_59, aq_60, aq_61, aq_62, aq_63, aq_64, aq_65, aq_66, aq_67, aq_68, aq_69, aq_70, aq_71, aq_72, aq_73, aq_74, aq_75, aq_76, aq_77, aq_78, aq_79, aq_80, aq_81]
  by_cases hs0 : stN P = 0
  · have hs0' : nI (stN P) = 0 := by rw [hs0]; rfl
    have hP4 : cb z4 16 n P := ⟨hP.1, fun i hi => by rw [n4' 16 (by omega), g2 16 (by omega) (by omega), n1 16 (by omega)]; exact hP.2 i hi⟩
    have q8b := n8 (f := f) (w := w) (c := c) (s := s) pk_t hP4 hn (by omega) (by omega)
    have hd8 : 8 ≤ data := by
      have hm1 : moN P = 1 := by
        rw [st_e] at hs0
        rw [mo_e]; omega
      have h2 : data % 8 = 0 := by
        apply Classical.byContradiction
        intro h4; exact hw (Or.inr (Or.inl ⟨hm1, h4⟩))
      have h3 : ¬ data = 0 := fun h => hw (Or.inl h)
      omega
    obtain ⟨z5, e5⟩ : ∃ x, x = cpz z4 (32 + 5 * j) 16 0 0 (hl P + 8) := ⟨_, rfl⟩
    have ca2 : acb 65 (hq z4 w c s) 16 0 (32 + 5 * j) 0 (nI (hl P + 8)) = true := acb_n (u := 0) (v := 0) kq_16 (pk_f hj _ _ _ _).2.2 (by omega) (by omega) (by omega) (by omega)
    have wa2 : wc (hq z4 w c s) 16 0 (32 + 5 * j) 0 (nI (hl P + 8)) = hq z5 w c s := by rw [e5]; exact hq_cp (u := 0) (v := 0) (by omega) (by omega) (by omega)
    have n5' : ∀ b, b ≠ 32 + 5 * j → z5 b = z4 b := fun b hb => by rw [e5, cpz_ne hb]
    obtain ⟨z6, e6⟩ : ∃ x, x = va_up z5 (30 + 5 * j) (upd (upd (z5 (30 + 5 * j)) 3 1) 4 (nI p)) := ⟨_, rfl⟩
    have n6' : ∀ b, b ≠ 30 + 5 * j → z6 b = z5 b := fun b hb => by rw [e6, va_up_ne _ _ hb]
    refine ⟨z6, ?_, fun b hb => by rw [n6' b (by omega), n5' b (by omega), n4' b (by omega), g2 b (by omega) (by omega), n1 b (by omega)], ⟨?_, ?_, ?_, ?_⟩, ?_, ?_⟩
    · rw [s0, e6]
      simp only [B_36_108, B_36_145, hs0', kk, (wk hj).2.1, (pk_f hj _ _ _ _).1, (pk_f hj _ _ _ _).2.1, q8b, nI_k8, ca2, wa2, va_up_self, va_up2, dg_1, db_1, db_0, dl_1, dp_1, dv_1, dv_x, di_1, di_x, dw_1, ec_eq, ec_ne, ec_lt, ec_ge, ec_gt, ec_le, hq_z, hq_wz, hq_thr, hq_p29, hq_pw, eq_self, decide_true, decide_false, not_true_eq_false, not_false_eq_true, kq_0, kq_1, kq_2, kq_3, kq_4, kq_5, kq_6, kq_7, kq_8, kq_9, kq_10, kq_11, kq_12, kq_13, kq_14, kq_15, kq_16, kq_17, kq_18, kq_19, kq_20, kq_21, kq_22, kq_23, kq_24, kq_25, kq_26, kq_27, kq_28, kq_29, kq_30, kq_31, kq_32, kq_33, kq_34, kq_35, kq_36, kq_37, kq_38, kq_39, kq_40, kq_41, kq_42, kq_43, kq_44, kq_45, kq_46, kq_47, kq_48, kq_49, kq_50, kq_51, kq_52, kq_53, kq_54, kq_55, kq_56, kq_57, kq_58, kq_59, kq_60, kq_61, kq_62, kq_63, kq_64, kq_65, kq_66, kq_67, kq_68, kq_69, kq_70, kq_71, kq_72, kq_73, kq_74, kq_75, kq_76, kq_77, kq_78, kq_79, kq_80, kq_81, pq_0_0, pq_0_1, pq_0_2, pq_0_3, pq_0_4, pq_0_5, pq_0_6, pq_0_7, pq_1_0, pq_1_1, pq_1_2, pq_1_3, pq_1_4, pq_1_5, pq_1_6, pq_1_7, pq_10_0, pq_10_1, pq_10_2, pq_10_3, pq_15_0, pq_17_0, pq_19_0, pq_21_0, pq_21_1, pq_21_2, pq_21_3, pq_21_4, pq_21_5, pq_28_0, pq_30_0, pq_30_1, pq_30_2, pq_31_0, pq_35_0, pq_35_1, pq_35_2, pq_36_0, pq_40_0, pq_40_1, pq_40_2, pq_41_0, pq_45_0, pq_45_1, pq_45_2, pq_46_0, pq_50_0, pq_52_0, pq_52_1, pq_52_2, pq_52_3, pq_52_4, pq_52_5, pq_52_6, pq_52_8, pq_52_10, pq_52_11, pq_52_14, pq_52_15, pq_52_16, pq_52_17, pq_52_18, pq_52_27, pq_52_29, pq_52_30, pq_52_31, pq_52_32, pq_52_33, pq_52_34, pq_52_35, pq_52_36, pq_52_37, pq_52_38, pq_52_39, pq_52_40, pq_52_41, aq_1, aq_11, aq_12, aq_13, aq_14, aq_16, aq_18, aq_20, aq_22, aq_23, aq_24, aq_25, aq_26, aq_27, aq_29, aq_32, aq_33, aq_34, aq_37, aq_38, aq_39, aq_42, aq_43, aq_44, aq_47, aq_48, aq_49, aq_51, aq_53, aq_54, aq_55, aq_56, aq_57, aq_58, aq_59, aq_60, aq_61, aq_62, aq_63, aq_64, aq_65, aq_66, aq_67, aq_68, aq_69, aq_70, aq_71, aq_72, aq_73, aq_74, aq_75, aq_76, aq_77, aq_78, aq_79, aq_80, aq_81]
    · rw [e6, va_up_self]
      simp (decide := true) only [pk_us, pk_un]
      rw [n5' (30 + 5 * j) (by omega), f4a, f4b, f4c, f4 5 (by omega) (by omega) (by omega), f4 6 (by omega) (by omega) (by omega), f4 7 (by omega) (by omega) (by omega), f4 8 (by omega) (by omega) (by omega), f4 9 (by omega) (by omega) (by omega), adx_k (k := 0) (by omega), adx_k (k := 1) (by omega), adx_k (k := 2) (by omega), adx_k (k := 3) (by omega), adx_k (k := 4) (by omega), adx_7, if_pos hs0]
      exact ⟨c5, c6, c7, c8', c9, rfl, rfl, rfl, rfl⟩
    · intro _
      have hq := fq_ad0 (E := E) (p := p) (data := data) hP.1 hs0
      have hhl : hl (fq (adE E P p data)) = hl P := hl_c (hq 0 (by omega))
      refine ⟨?_, fun i hi => ?_⟩
      · rw [e6, va_up_self, pk_us, adx_8, if_pos hs0]
      · rw [hhl] at hi
        rw [n6' (30 + 5 * j + 2) (by omega), show 30 + 5 * j + 2 = 32 + 5 * j by omega, e5, cpz_at, if_pos (by omega), show 0 + (i - 0) = i by omega, adx_f (by omega), if_pos hs0]
        exact hP4.2 i (by omega)
    · intro i hi hth
      rw [show 30 + 5 * j + 3 = 33 + 5 * j by omega]
      exact hbytes z6 (by rw [n6' _ (by omega), n5' _ (by omega), n4' _ (by omega), g2 _ (by omega) (by omega)]) i hi hth
    · intro i hi
      rw [show 30 + 5 * j + 4 = 34 + 5 * j by omega, n6' _ (by omega), n5' _ (by omega), n4' _ (by omega), g4 i hi, eU]
    · rw [n6' _ (by omega), e5]
      refine br_cpz ?_ ?_
      · rw [n4' _ (by omega), g2 _ (by omega) (by omega), n1 _ (by omega)]; exact b2
      · rw [n4' _ (by omega), g2 _ (by omega) (by omega), n1 _ (by omega)]; exact hr16
    · rw [n6' _ (by omega), n5' _ (by omega), n4' _ (by omega), g2 _ (by omega) (by omega)]; exact b31
  · have hs0' : ¬ nI (stN P) = 0 := nI_ne0 (by omega) (by omega)
    refine ⟨z4, ?_, fun b hb => by rw [n4' b (by omega), g2 b (by omega) (by omega), n1 b (by omega)], ⟨?_, ?_, ?_, ?_⟩, ?_, ?_⟩
    · rw [s0]
      simp only [B_36_108, B_36_145, hs0', dg_1, db_1, db_0, dl_1, dp_1, dv_1, dv_x, di_1, di_x, dw_1, ec_eq, ec_ne, ec_lt, ec_ge, ec_gt, ec_le, hq_z, hq_wz, hq_thr, hq_p29, hq_pw, eq_self, decide_true, decide_false, not_true_eq_false, not_false_eq_true, kq_0, kq_1, kq_2, kq_3, kq_4, kq_5, kq_6, kq_7, kq_8, kq_9, kq_10, kq_11, kq_12, kq_13, kq_14, kq_15, kq_16, kq_17, kq_18, kq_19, kq_20, kq_21, kq_22, kq_23, kq_24, kq_25, kq_26, kq_27, kq_28, kq_29, kq_30, kq_31, kq_32, kq_33, kq_34, kq_35, kq_36, kq_37, kq_38, kq_39, kq_40, kq_41, kq_42, kq_43, kq_44, kq_45, kq_46, kq_47, kq_48, kq_49, kq_50, kq_51, kq_52, kq_53, kq_54, kq_55, kq_56, kq_57, kq_58, kq_59, kq_60, kq_61, kq_62, kq_63, kq_64, kq_65, kq_66, kq_67, kq_68, kq_69, kq_70, kq_71, kq_72, kq_73, kq_74, kq_75, kq_76, kq_77, kq_78, kq_79, kq_80, kq_81, pq_0_0, pq_0_1, pq_0_2, pq_0_3, pq_0_4, pq_0_5, pq_0_6, pq_0_7, pq_1_0, pq_1_1, pq_1_2, pq_1_3, pq_1_4, pq_1_5, pq_1_6, pq_1_7, pq_10_0, pq_10_1, pq_10_2, pq_10_3, pq_15_0, pq_17_0, pq_19_0, pq_21_0, pq_21_1, pq_21_2, pq_21_3, pq_21_4, pq_21_5, pq_28_0, pq_30_0, pq_30_1, pq_30_2, pq_31_0, pq_35_0, pq_35_1, pq_35_2, pq_36_0, pq_40_0, pq_40_1, pq_40_2, pq_41_0, pq_45_0, pq_45_1, pq_45_2, pq_46_0, pq_50_0, pq_52_0, pq_52_1, pq_52_2, pq_52_3, pq_52_4, pq_52_5, pq_52_6, pq_52_8, pq_52_10, pq_52_11, pq_52_14, pq_52_15, pq_52_16, pq_52_17, pq_52_18, pq_52_27, pq_52_29, pq_52_30, pq_52_31, pq_52_32, pq_52_33, pq_52_34, pq_52_35, pq_52_36, pq_52_37, pq_52_38, pq_52_39, pq_52_40, pq_52_41, aq_1, aq_11, aq_12, aq_13, aq_14, aq_16, aq_18, aq_20, aq_22, aq_23, aq_24, aq_25, aq_26, aq_27, aq_29, aq_32, aq_33, aq_34, aq_37, aq_38, aq_39, aq_42, aq_43, aq_44, aq_47, aq_48, aq_49, aq_51, aq_53, aq_54, aq_55, aq_56, aq_57, aq_58, aq_59, aq_60, aq_61, aq_62, aq_63, aq_64, aq_65, aq_66, aq_67, aq_68, aq_69, aq_70, aq_71, aq_72, aq_73, aq_74, aq_75, aq_76, aq_77, aq_78, aq_79, aq_80, aq_81]
    · rw [f4a, f4b, f4c, f4 5 (by omega) (by omega) (by omega), f4 6 (by omega) (by omega) (by omega), f4 7 (by omega) (by omega) (by omega), f4 8 (by omega) (by omega) (by omega), f4 9 (by omega) (by omega) (by omega), f4 3 (by omega) (by omega) (by omega), adx_k (k := 0) (by omega), adx_k (k := 1) (by omega), adx_k (k := 2) (by omega), adx_k (k := 3) (by omega), adx_k (k := 4) (by omega), adx_7, if_neg hs0]
      exact ⟨c5, c6, c7, c8', c9, rfl, rfl, c3', rfl⟩
    · intro h7
      rw [adx_7, if_neg hs0] at h7
      have hq := fq_ad1 (E := E) (p := p) (data := data) hs0
      have hhl : hl (fq (adE E P p data)) = hl (fq E) := hl_c (hq 0 (by omega))
      have hfl := hl_le (fq E)
      refine ⟨?_, fun i hi => ?_⟩
      · rw [f4 4 (by omega) (by omega) (by omega), adx_8, if_neg hs0]; exact (C2 h7).1
      · rw [hhl] at hi
        rw [n4' _ (by omega), g2 _ (by omega) (by omega), n1 _ (by omega), adx_f (by omega), if_neg hs0]
        exact (C2 h7).2 i hi
    · intro i hi hth
      rw [show 30 + 5 * j + 3 = 33 + 5 * j by omega]
      exact hbytes z4 (by rw [n4' _ (by omega), g2 _ (by omega) (by omega)]) i hi hth
    · intro i hi
      rw [show 30 + 5 * j + 4 = 34 + 5 * j by omega, n4' _ (by omega), g4 i hi, eU]
    · rw [n4' _ (by omega), g2 _ (by omega) (by omega), n1 _ (by omega)]; exact b2
    · rw [n4' _ (by omega), g2 _ (by omega) (by omega)]; exact b31
end Wait76
