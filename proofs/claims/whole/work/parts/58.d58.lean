-- a packet goes out: both sides
section Out58
def emS (S : St9) (L : Nat) (way next : Int32) (P : Nat → Nat) : St9 := fun k => if k = 3 then upd (upd (S 3) 2 (nI (cn S 2 + 1))) 11 (nI (cn S 11 + L)) else if k = 9 then upd (S 9) (cn S 2) (nI (cn S 11)) else if k = 10 then upd (S 10) (cn S 2) (nI L) else if k = 11 then upd (S 11) (cn S 2) way else if k = 12 then upd (S 12) (cn S 2) next else if k = 13 then (fun j => if cn S 11 ≤ j ∧ j < cn S 11 + L then nI (P (j - cn S 11)) else S 13 j) else S k
def ow (S : St9) : Prop := wfn S 2 50 ∧ wfn S 11 5000 ∧ (cn S 2 = 0 → cn S 11 = 0) ∧ (∀ k, cn S 2 = k + 1 → ∃ a m, S 9 k = nI a ∧ S 10 k = nI m ∧ a + m = cn S 11) ∧ ∀ i, i < cn S 2 → ∃ a m, S 9 i = nI a ∧ S 10 i = nI m ∧ a + m ≤ cn S 11 ∧ m ≤ 2000
def OB (S : St9) (z : Nat → Nat → Int32) (b : Nat) : Prop := z 21 6 = S 3 2 ∧ z 21 7 = S 3 11 ∧ (∀ i, i < cn S 2 → z 23 i = S 9 i ∧ z 24 i = S 10 i) ∧ (∀ i, i < b → z 25 i = S 11 i ∧ z 26 i = S 12 i) ∧ (∀ j, j < cn S 11 → z 22 j &&& 255 = S 13 j) ∧ ∀ j, br (z 22 j)
def OM (S : St9) (z : Nat → Nat → Int32) : Prop := z 52 19 = S 3 2 ∧ (∀ i, i < cn S 2 → z 64 i = S 9 i ∧ z 65 i = S 10 i ∧ z 66 i = S 11 i ∧ z 67 i = S 12 i) ∧ ∀ j, j < cn S 11 → z 63 j = S 13 j
variable {S : St9} {L : Nat} {way next : Int32} {P : Nat → Nat}
theorem em_3 : emS S L way next P 3 = upd (upd (S 3) 2 (nI (cn S 2 + 1))) 11 (nI (cn S 11 + L)) := rfl
theorem em_9 : emS S L way next P 9 = upd (S 9) (cn S 2) (nI (cn S 11)) := rfl
theorem em_10 : emS S L way next P 10 = upd (S 10) (cn S 2) (nI L) := rfl
theorem em_11 : emS S L way next P 11 = upd (S 11) (cn S 2) way := rfl
theorem em_12 : emS S L way next P 12 = upd (S 12) (cn S 2) next := rfl
theorem em_13 : emS S L way next P 13 = (fun j => if cn S 11 ≤ j ∧ j < cn S 11 + L then nI (P (j - cn S 11)) else S 13 j) := rfl
theorem em_k {k : Nat} (h3 : k ≠ 3) (h : k < 9 ∨ 13 < k) : emS S L way next P k = S k := by
  unfold emS
  rw [if_neg h3, if_neg (by omega), if_neg (by omega), if_neg (by omega), if_neg (by omega), if_neg (by omega)]
theorem em_3k {k : Nat} (h2 : k ≠ 2) (h : k ≠ 11) : emS S L way next P 3 k = S 3 k := by rw [em_3, pk_un h, pk_un h2]
theorem em_c2 (h : cn S 2 < 50) : cn (emS S L way next P) 2 = cn S 2 + 1 := by
  show (emS S L way next P 3 2).toNatClampNeg = _
  rw [em_3, pk_un (by omega), pk_us, nI_clamp (by omega)]
theorem em_c11 (h : cn S 11 + L ≤ 5000) : cn (emS S L way next P) 11 = cn S 11 + L := by
  show (emS S L way next P 3 11).toNatClampNeg = _
  rw [em_3, pk_us, nI_clamp (by omega)]
theorem em_ck {k : Nat} (h2 : k ≠ 2) (h : k ≠ 11) : cn (emS S L way next P) k = cn S k := by
  unfold cn; rw [em_3k h2 h]
theorem em_ow (h : ow S) (h2 : cn S 2 < 50) (h11 : cn S 11 + L ≤ 5000) (hL : L ≤ 2000) : ow (emS S L way next P) := by
  obtain ⟨a1, a2, a3, a4, a5⟩ := h
  refine ⟨?_, ?_, ?_, ?_, ?_⟩
  · unfold wfn; rw [em_c2 h2]; exact ⟨by rw [em_3, pk_un (by omega), pk_us], by omega⟩
  · unfold wfn; rw [em_c11 h11]; exact ⟨by rw [em_3, pk_us], by omega⟩
  · rw [em_c2 h2]; intro h; omega
  · rw [em_c2 h2, em_c11 h11]
    intro k hk
    refine ⟨cn S 11, L, ?_, ?_, rfl⟩
    · rw [em_9, show k = cn S 2 by omega, pk_us]
    · rw [em_10, show k = cn S 2 by omega, pk_us]
  · rw [em_c2 h2, em_c11 h11]
    intro i hi
    by_cases h : i = cn S 2
    · refine ⟨cn S 11, L, ?_, ?_, by omega, hL⟩
      · rw [em_9, h, pk_us]
      · rw [em_10, h, pk_us]
    · obtain ⟨a, m, g1, g2, g3, g4⟩ := a5 i (by omega)
      exact ⟨a, m, by rw [em_9, pk_un h]; exact g1, by rw [em_10, pk_un h]; exact g2, by omega, g4⟩
theorem em_OM {z z' : Nat → Nat → Int32} (h : OM S z) (h2 : cn S 2 < 50) (h11 : cn S 11 + L ≤ 5000) (g19 : z' 52 19 = nI (cn S 2 + 1)) (g64 : z' 64 = upd (z 64) (cn S 2) (nI (cn S 11))) (g65 : z' 65 = upd (z 65) (cn S 2) (nI L)) (g66 : z' 66 = upd (z 66) (cn S 2) way) (g67 : z' 67 = upd (z 67) (cn S 2) next) (g63 : ∀ j, j < cn S 11 → z' 63 j = z 63 j) (g0 : ∀ j, j < L → z' 63 (cn S 11 + j) = nI (P j)) : OM (emS S L way next P) z' := by
  obtain ⟨a1, a2, a3⟩ := h
  refine ⟨?_, ?_, ?_⟩
  · rw [g19, em_3, pk_un (by omega), pk_us]
  · rw [em_c2 h2]
    intro i hi
    rw [g64, g65, g66, g67, em_9, em_10, em_11, em_12]
    by_cases h : i = cn S 2
    · subst h; simp only [pk_us]; exact ⟨trivial, trivial, trivial, trivial⟩
    · simp only [pk_un h]; exact a2 i (by omega)
  · rw [em_c11 h11, em_13]
    intro j hj
    by_cases h : cn S 11 ≤ j ∧ j < cn S 11 + L
    · have := g0 (j - cn S 11) (by omega)
      rw [show cn S 11 + (j - cn S 11) = j by omega] at this
      rw [this]; show _ = if _ then _ else _
      rw [if_pos h]
    · rw [g63 j (by omega)]; show _ = if _ then _ else _
      rw [if_neg h]; exact a3 j (by omega)
theorem em_OB {z z' : Nat → Nat → Int32} {b : Nat} (h : OB S z b) (hb : b ≤ cn S 2) (h2 : cn S 2 < 50) (h11 : cn S 11 + L ≤ 5000) (g6 : z' 21 6 = nI (cn S 2 + 1)) (g7 : z' 21 7 = nI (cn S 11 + L)) (g23 : z' 23 = upd (z 23) (cn S 2) (nI (cn S 11))) (g24 : z' 24 = upd (z 24) (cn S 2) (nI L)) (g25 : z' 25 = z 25) (g26 : z' 26 = z 26) (gb : ∀ j, br (z' 22 j)) (g63 : ∀ j, j < cn S 11 → bz z' 22 j = bz z 22 j) (g0 : ∀ j, j < L → bz z' 22 (cn S 11 + j) = P j) : OB (emS S L way next P) z' b := by
  obtain ⟨a1, a2, a3, a4, a5, a6⟩ := h
  refine ⟨?_, ?_, ?_, ?_, ?_, gb⟩
  · rw [g6, em_3, pk_un (by omega), pk_us]
  · rw [g7, em_3, pk_us]
  · rw [em_c2 h2]
    intro i hi
    rw [g23, g24, em_9, em_10]
    by_cases h : i = cn S 2
    · subst h; simp only [pk_us]; exact ⟨trivial, trivial⟩
    · simp only [pk_un h]; exact a3 i (by omega)
  · intro i hi
    rw [g25, g26, em_11, em_12, pk_un (by omega), pk_un (by omega)]; exact a4 i hi
  · rw [em_c11 h11, em_13]
    intro j hj
    show _ = if _ then _ else _
    rw [bz_eq]
    by_cases h : cn S 11 ≤ j ∧ j < cn S 11 + L
    · have := g0 (j - cn S 11) (by omega)
      rw [show cn S 11 + (j - cn S 11) = j by omega] at this
      rw [this, if_pos h]
    · rw [g63 j (by omega), if_neg h, ← bz_eq]; exact a5 j (by omega)
variable {f c s md : Nat} {z : Nat → Nat → Int32} {w : Nat → Option Nat} {Q : Nat → Nat}
def fin (Q : Nat → Nat) (L : Nat) : Nat → Nat := bu2 (bu2 Q 2 L) 10 (ck (sN (bu2 Q 2 L) 0 10 (hl Q)))
theorem hl_u2 {t v : Nat} (h : 0 < t) : hl (bu2 Q t v) = hl Q := by
  unfold hl bu2 b1; rw [if_neg (by omega), if_neg (by omega)]
theorem m94 (h : OM S z) (ho : ow S) (hb : mb z 62 md Q) (h13 : z 52 13 = nI md) (h0 : 20 ≤ hl Q) (hh : hl Q ≤ md) (hm : md ≤ 2000) (h2 : cn S 2 < 50) (h11 : cn S 11 + md ≤ 5000) (hf : 6000 < f) : ∃ z', F_94 f 52 way next (hq z w c s) = some (.inl none, hq z' w c s) ∧ OM (emS S md way next (fin Q md)) z' ∧ (∀ a, a < 62 ∨ 67 < a → a ≠ 52 → z' a = z a) ∧ ∀ k, k ≠ 19 → z' 52 k = z 52 k := by
  have hl6 := hl_le Q
  obtain ⟨z1, e1⟩ : ∃ x, x = u2z z 62 2 md := ⟨_, rfl⟩
  have q1 : F_88 f 62 2 (nI md) (hq z w c s) = some (.inl none, hq z1 w c s) := by rw [e1]; exact m88 (t := 2) (N := 4200) (fun z => kq_62) (by omega) (by omega) (by omega)
  have n1 : ∀ a, a ≠ 62 → z1 a = z a := fun a ha => by rw [e1]; exact u2z_ne ha
  have p1 : mb z1 62 md (bu2 Q 2 md) := by rw [e1]; exact mb_u2 hb (fun i hi _ _ => hi)
  have q2 : F_87 f 62 0 (nI (hl Q)) 10 (hq z1 w c s) = some (.inl (some (.int (nI (ck (sN (bu2 Q 2 md) 0 10 (hl Q)))))), hq z1 w c s) := t87 (at_ := 0) (sk := 10) (N := 4200) (fun z => kq_62) (by omega) (by omega) (by omega) p1.1 (fun i _ h _ _ => p1.2 i (by omega)) (by omega)
  have hck := ck_lt (sN (bu2 Q 2 md) 0 10 (hl Q))
  obtain ⟨z2, e2⟩ : ∃ x, x = u2z z1 62 10 (ck (sN (bu2 Q 2 md) 0 10 (hl Q))) := ⟨_, rfl⟩
  have q3 : F_88 f 62 10 (nI (ck (sN (bu2 Q 2 md) 0 10 (hl Q)))) (hq z1 w c s) = some (.inl none, hq z2 w c s) := by rw [e2]; exact m88 (t := 10) (N := 4200) (fun z => kq_62) (by omega) (by omega) (by omega)
  have n2' : ∀ a, a ≠ 62 → z2 a = z a := fun a ha => by rw [e2, u2z_ne ha, n1 a ha]
  have p2 : mb z2 62 md (fin Q md) := by rw [e2]; exact mb_u2 p1 (fun i hi _ _ => hi)
  obtain ⟨a1, a2, a3⟩ := h
  obtain ⟨⟨o1, o2⟩, ⟨o3, o4⟩, o5, o6, o7⟩ := ho
  have v0 := hb.2 0 (by omega)
  have b0 := hb.1 0
  have e15 := (nI_mask (a := Q 0) (by omega)).1
  have hm4 := hl_m (B := Q)
  have i0 : ev_in 0 4200 = true := by decide
  have c0 : Int32.toNatClampNeg 0 = 0 := rfl
  have g19 : z2 52 19 = nI (cn S 2) := by rw [n2' 52 (by omega), a1]; exact o1
  have s1 : F_94 f 52 way next (hq z w c s) = B_94_86 f 52 way next (nI (cn S 11)) (nI (cn S 2)) 64 (hq z2 w c s) := by
    by_cases k0 : cn S 2 = 0
    · have k1 : nI (cn S 2) = 0 := by rw [k0]; rfl
      rw [k1] at g19
      simp only [F_94, i0, c0, v0, e15, hm4, h13, q1, q2, q3, g19, not_true_eq_false, k1, o5 k0, nI_0, dg_1, db_1, db_0, dl_1, dp_1, dv_1, dv_x, di_1, di_x, dw_1, ec_eq, ec_ne, ec_lt, ec_ge, ec_gt, ec_le, hq_z, hq_wz, hq_wc, hq_thr, hq_p29, hq_pw, eq_self, decide_true, decide_false, not_true_eq_false, not_false_eq_true, kq_0, kq_1, kq_2, kq_3, kq_4, kq_5, kq_6, kq_7, kq_8, kq_9, kq_10, kq_11, kq_12, kq_13, kq_14, kq_15, kq_16, kq_17, kq_18, kq_19, kq_20, kq_21, kq_22, kq_23, kq_24, kq_25, kq_26, kq_27, kq_28, kq_29, kq_30, kq_31, kq_32, kq_33, kq_34, kq_35, kq_36, kq_37, kq_38, kq_39, kq_40, kq_41, kq_42, kq_43, kq_44, kq_45, kq_46, kq_47, kq_48, kq_49, kq_50, kq_51, kq_52, kq_53, kq_54, kq_55, kq_56, kq_57, kq_58, kq_59, kq_60, kq_61, kq_62, kq_63, kq_64, kq_65, kq_66, kq_67, kq_68, kq_69, kq_70, kq_71, kq_72, kq_73, kq_74, kq_75, kq_76, kq_77, kq_78, kq_79, kq_80, kq_81, pq_0_0, pq_0_1, pq_0_2, pq_0_3, pq_0_4, pq_0_5, pq_0_6, pq_0_7, pq_1_0, pq_1_1, pq_1_2, pq_1_3, pq_1_4, pq_1_5, pq_1_6, pq_1_7, pq_10_0, pq_10_1, pq_10_2, pq_10_3, pq_15_0, pq_17_0, pq_19_0, pq_21_0, pq_21_1, pq_21_2, pq_21_3, pq_21_4, pq_21_5, pq_28_0, pq_30_0, pq_30_1, pq_30_2, pq_31_0, pq_35_0, pq_35_1, pq_35_2, pq_36_0, pq_40_0, pq_40_1, pq_40_2, pq_41_0, pq_45_0, pq_45_1, pq_45_2, pq_46_0, pq_50_0, pq_52_0, pq_52_1, pq_52_2, pq_52_3, pq_52_4, pq_52_5, pq_52_6, pq_52_8, pq_52_10, pq_52_11, pq_52_14, pq_52_15, pq_52_16, pq_52_17, pq_52_18, pq_52_27, pq_52_29, pq_52_30, pq_52_31, pq_52_32, pq_52_33, pq_52_34, pq_52_35, pq_52_36, pq_52_37, pq_52_38, pq_52_39, pq_52_40, pq_52_41, aq_1, aq_11, aq_12, aq_13, aq_14, aq_16, aq_18, aq_20, aq_22, aq_23, aq_24, aq_25, aq_26, aq_27, aq_29, aq_32, aq_33, aq_34, aq_37, aq_38, aq_39, aq_42, aq_43, aq_44, aq_47, aq_48, aq_49, aq_51, aq_53, aq_54, aq_55, aq_56, aq_57, aq_58, aq_59, aq_60, aq_61, aq_62, aq_63, aq_64, aq_65, aq_66, aq_67, aq_68, aq_69, aq_70, aq_71, aq_72, aq_73, aq_74, aq_75, aq_76, aq_77, aq_78, aq_79, aq_80, aq_81]
    · obtain ⟨k, hk⟩ : ∃ k, cn S 2 = k + 1 := ⟨cn S 2 - 1, by omega⟩
      obtain ⟨fa, fm, f1, f2, f3⟩ := o6 k hk
      have f4 := a2 k (by omega)
      have k1 : ¬ nI (cn S 2) = 0 := nI_ne0 (by omega) (by omega)
      have k2 : nI (cn S 2) - 1 = nI k := by rw [hk]; exact nI_subN (b := 1) (by omega)
      have k3 : ev_in (nI k) 300 = true := ev_in_nI (by omega) (by omega)
      have k4 : (nI k).toNatClampNeg = k := nI_clamp (by omega)
      have k5 : z2 64 k = nI fa := by rw [n2' 64 (by omega), f4.1, f1]
      have k6 : z2 65 k = nI fm := by rw [n2' 65 (by omega), f4.2.1, f2]
      simp only [F_94, i0, c0, v0, e15, hm4, h13, q1, q2, q3, g19, k1, k2, k3, k4, k5, k6, nI_add, f3, dg_1, db_1, db_0, dl_1, dp_1, dv_1, dv_x, di_1, di_x, dw_1, ec_eq, ec_ne, ec_lt, ec_ge, ec_gt, ec_le, hq_z, hq_wz, hq_wc, hq_thr, hq_p29, hq_pw, eq_self, decide_true, decide_false, not_true_eq_false, not_false_eq_true, kq_0, kq_1, kq_2, kq_3, kq_4, kq_5, kq_6, kq_7, kq_8, kq_9, kq_10, kq_11, kq_12, kq_13, kq_14, kq_15, kq_16, kq_17, kq_18, kq_19, kq_20, kq_21, kq_22, kq_23, kq_24, kq_25, kq_26, kq_27, kq_28, kq_29, kq_30, kq_31, kq_32, kq_33, kq_34, kq_35, kq_36, kq_37, kq_38, kq_39, kq_40, kq_41, kq_42, kq_43, kq_44, kq_45, kq_46, kq_47, kq_48, kq_49, kq_50, kq_51, kq_52, kq_53, kq_54, kq_55, kq_56, kq_57, kq_58, kq_59, kq_60, kq_61, kq_62, kq_63, kq_64, kq_65, kq_66, kq_67, kq_68, kq_69, kq_70, kq_71, kq_72, kq_73, kq_74, kq_75, kq_76, kq_77, kq_78, kq_79, kq_80, kq_81, pq_0_0, pq_0_1, pq_0_2, pq_0_3, pq_0_4, pq_0_5, pq_0_6, pq_0_7, pq_1_0, pq_1_1, pq_1_2, pq_1_3, pq_1_4, pq_1_5, pq_1_6, pq_1_7, pq_10_0, pq_10_1, pq_10_2, pq_10_3, pq_15_0, pq_17_0, pq_19_0, pq_21_0, pq_21_1, pq_21_2, pq_21_3, pq_21_4, pq_21_5, pq_28_0, pq_30_0, pq_30_1, pq_30_2, pq_31_0, pq_35_0, pq_35_1, pq_35_2, pq_36_0, pq_40_0, pq_40_1, pq_40_2, pq_41_0, pq_45_0, pq_45_1, pq_45_2, pq_46_0, pq_50_0, pq_52_0, pq_52_1, pq_52_2, pq_52_3, pq_52_4, pq_52_5, pq_52_6, pq_52_8, pq_52_10, pq_52_11, pq_52_14, pq_52_15, pq_52_16, pq_52_17, pq_52_18, pq_52_27, pq_52_29, pq_52_30, pq_52_31, pq_52_32, pq_52_33, pq_52_34, pq_52_35, pq_52_36, pq_52_37, pq_52_38, pq_52_39, pq_52_40, pq_52_41, aq_1, aq_11, aq_12, aq_13, aq_14, aq_16, aq_18, aq_20, aq_22, aq_23, aq_24, aq_25, aq_26, aq_27, aq_29, aq_32, aq_33, aq_34, aq_37, aq_38, aq_39, aq_42, aq_43, aq_44, aq_47, aq_48, aq_49, aq_51, aq_53, aq_54, aq_55, aq_56, aq_57, aq_58, aq_59, aq_60, aq_61, aq_62, aq_63, aq_64, aq_65, aq_66, aq_67, aq_68, aq_69, aq_70, aq_71, aq_72, aq_73, aq_74, aq_75, aq_76, aq_77, aq_78, aq_79, aq_80, aq_81]
  obtain ⟨z3, e3⟩ : ∃ x, x = va_up (va_up (va_up (va_up z2 64 (upd (z 64) (cn S 2) (nI (cn S 11)))) 65 (upd (z 65) (cn S 2) (nI md))) 66 (upd (z 66) (cn S 2) way)) 67 (upd (z 67) (cn S 2) next) := ⟨_, rfl⟩
  have t64 : z3 64 = upd (z 64) (cn S 2) (nI (cn S 11)) := by rw [e3, va_up_ne _ _ (by decide), va_up_ne _ _ (by decide), va_up_ne _ _ (by decide), va_up_self]
  have t65 : z3 65 = upd (z 65) (cn S 2) (nI md) := by rw [e3, va_up_ne _ _ (by decide), va_up_ne _ _ (by decide), va_up_self]
  have t66 : z3 66 = upd (z 66) (cn S 2) way := by rw [e3, va_up_ne _ _ (by decide), va_up_self]
  have t67 : z3 67 = upd (z 67) (cn S 2) next := by rw [e3, va_up_self]
  have n3 : ∀ a, a < 64 ∨ 67 < a → z3 a = z2 a := fun a ha => by rw [e3, va_up_ne _ _ (by omega), va_up_ne _ _ (by omega), va_up_ne _ _ (by omega), va_up_ne _ _ (by omega)]
  have i1 : ev_in (nI (cn S 2)) 300 = true := ev_in_nI (by omega) (by omega)
  have i2 : (nI (cn S 2)).toNatClampNeg = cn S 2 := nI_clamp (by omega)
  have g13 : z2 52 13 = nI md := by rw [n2' 52 (by omega)]; exact h13
  have s2 : B_94_86 f 52 way next (nI (cn S 11)) (nI (cn S 2)) 64 (hq z2 w c s) = B_94_123 f f 52 (nI 0) (hq z3 w c s) := by
    rw [e3]
    simp (decide := true) only [B_94_86, i1, i2, g19, g13, va_up_ne, dg_1, db_1, db_0, dl_1, dp_1, dv_1, dv_x, di_1, di_x, dw_1, ec_eq, ec_ne, ec_lt, ec_ge, ec_gt, ec_le, hq_z, hq_wz, hq_wc, hq_thr, hq_p29, hq_pw, eq_self, decide_true, decide_false, not_true_eq_false, not_false_eq_true, kq_0, kq_1, kq_2, kq_3, kq_4, kq_5, kq_6, kq_7, kq_8, kq_9, kq_10, kq_11, kq_12, kq_13, kq_14, kq_15, kq_16, kq_17, kq_18, kq_19, kq_20, kq_21, kq_22, kq_23, kq_24, kq_25, kq_26, kq_27, kq_28, kq_29, kq_30, kq_31, kq_32, kq_33, kq_34, kq_35, kq_36, kq_37, kq_38, kq_39, kq_40, kq_41, kq_42, kq_43, kq_44, kq_45, kq_46, kq_47, kq_48, kq_49, kq_50, kq_51, kq_52, kq_53, kq_54, kq_55, kq_56, kq_57, kq_58, kq_59, kq_60, kq_61, kq_62, kq_63, kq_64, kq_65, kq_66, kq_67, kq_68, kq_69, kq_70, kq_71, kq_72, kq_73, kq_74, kq_75, kq_76, kq_77, kq_78, kq_79, kq_80, kq_81, pq_0_0, pq_0_1, pq_0_2, pq_0_3, pq_0_4, pq_0_5, pq_0_6, pq_0_7, pq_1_0, pq_1_1, pq_1_2, pq_1_3, pq_1_4, pq_1_5, pq_1_6, pq_1_7, pq_10_0, pq_10_1, pq_10_2, pq_10_3, pq_15_0, pq_17_0, pq_19_0, pq_21_0, pq_21_1, pq_21_2, pq_21_3, pq_21_4, pq_21_5, pq_28_0, pq_30_0, pq_30_1, pq_30_2, pq_31_0, pq_35_0, pq_35_1, pq_35_2, pq_36_0, pq_40_0, pq_40_1, pq_40_2, pq_41_0, pq_45_0, pq_45_1, pq_45_2, pq_46_0, pq_50_0, pq_52_0, pq_52_1, pq_52_2, pq_52_3, pq_52_4, pq_52_5, pq_52_6, pq_52_8, pq_52_10, pq_52_11, pq_52_14, pq_52_15, pq_52_16, pq_52_17, pq_52_18, pq_52_27, pq_52_29, pq_52_30, pq_52_31, pq_52_32, pq_52_33, pq_52_34, pq_52_35, pq_52_36, pq_52_37, pq_52_38, pq_52_39, pq_52_40, pq_52_41, aq_1, aq_11, aq_12, aq_13, aq_14, aq_16, aq_18, aq_20, aq_22, aq_23, aq_24, aq_25, aq_26, aq_27, aq_29, aq_32, aq_33, aq_34, aq_37, aq_38, aq_39, aq_42, aq_43, aq_44, aq_47, aq_48, aq_49, aq_51, aq_53, aq_54, aq_55, aq_56, aq_57, aq_58, aq_59, aq_60, aq_61, aq_62, aq_63, aq_64, aq_65, aq_66, aq_67, aq_68, aq_69, aq_70, aq_71, aq_72, aq_73, aq_74, aq_75, aq_76, aq_77, aq_78, aq_79, aq_80, aq_81]
    rw [n2' 64 (by omega), n2' 65 (by omega), n2' 66 (by omega), n2' 67 (by omega)]
    rfl
  have w52 : ∀ k, z3 52 k = z 52 k := fun k => by rw [n3 52 (by omega), n2' 52 (by omega)]
  have x0 : z3 52 13 = nI md := by rw [w52]; exact h13
  have x1 : z3 52 19 = nI (cn S 2) := by rw [w52, a1]; exact o1
  have x2 : z3 64 (cn S 2) = nI (cn S 11) := by rw [t64, pk_us]
  have s3 := lp_94 (f := f) (w := w) (c := c) (s := s) (md := md) (ot := cn S 2) (fr := cn S 11) (by omega) (by omega) (by omega) md 0 (f - md) z3 x0 x1 x2 (by omega)
  rw [show f - md + md = f by omega] at s3
  obtain ⟨z4, e4⟩ : ∃ x, x = cpz z3 63 62 (0 + 0) (cn S 11 + 0) md := ⟨_, rfl⟩
  rw [← e4] at s3
  have n4 : ∀ a, a ≠ 63 → z4 a = z3 a := fun a ha => by rw [e4]; exact cpz_ne ha
  have t63 : ∀ i, z4 63 i = if cn S 11 + 0 ≤ i ∧ i < cn S 11 + 0 + md then z3 62 (0 + 0 + (i - (cn S 11 + 0))) else z3 63 i := fun i => by rw [e4]; exact cpz_at
  obtain ⟨g, hg⟩ : ∃ g, f - md = g + 1 := ⟨f - md - 1, by omega⟩
  have s4 : B_94_123 f (f - md) 52 (nI (0 + md)) (hq z4 w c s) = some (.inl none, hq (va_up z4 52 (upd (z4 52) 19 (nI (cn S 2 + 1)))) w c s) := by
    have y0 : nI md ≤ nI (0 + md) := nI_le (by omega) (by omega)
    have y1 : z4 52 13 = nI md := by rw [n4 52 (by omega)]; exact x0
    have y2 : z4 52 19 = nI (cn S 2) := by rw [n4 52 (by omega)]; exact x1
    rw [hg]
    simp only [B_94_123, y0, y1, y2, nI_1, dg_1, db_1, db_0, dl_1, dp_1, dv_1, dv_x, di_1, di_x, dw_1, ec_eq, ec_ne, ec_lt, ec_ge, ec_gt, ec_le, hq_z, hq_wz, hq_wc, hq_thr, hq_p29, hq_pw, eq_self, decide_true, decide_false, not_true_eq_false, not_false_eq_true, kq_0, kq_1, kq_2, kq_3, kq_4, kq_5, kq_6, kq_7, kq_8, kq_9, kq_10, kq_11, kq_12, kq_13, kq_14, kq_15, kq_16, kq_17, kq_18, kq_19, kq_20, kq_21, kq_22, kq_23, kq_24, kq_25, kq_26, kq_27, kq_28, kq_29, kq_30, kq_31, kq_32, kq_33, kq_34, kq_35, kq_36, kq_37, kq_38, kq_39, kq_40, kq_41, kq_42, kq_43, kq_44, kq_45, kq_46, kq_47, kq_48, kq_49, kq_50, kq_51, kq_52, kq_53, kq_54, kq_55, kq_56, kq_57, kq_58, kq_59, kq_60, kq_61, kq_62, kq_63, kq_64, kq_65, kq_66, kq_67, kq_68, kq_69, kq_70, kq_71, kq_72, kq_73, kq_74, kq_75, kq_76, kq_77, kq_78, kq_79, kq_80, kq_81, pq_0_0, pq_0_1, pq_0_2, pq_0_3, pq_0_4, pq_0_5, pq_0_6, pq_0_7, pq_1_0, pq_1_1, pq_1_2, pq_1_3, pq_1_4, pq_1_5, pq_1_6, pq_1_7, pq_10_0, pq_10_1, pq_10_2, pq_10_3, pq_15_0, pq_17_0, pq_19_0, pq_21_0, pq_21_1, pq_21_2, pq_21_3, pq_21_4, pq_21_5, pq_28_0, pq_30_0, pq_30_1, pq_30_2, pq_31_0, pq_35_0, pq_35_1, pq_35_2, pq_36_0, pq_40_0, pq_40_1, pq_40_2, pq_41_0, pq_45_0, pq_45_1, pq_45_2, pq_46_0, pq_50_0, pq_52_0, pq_52_1, pq_52_2, pq_52_3, pq_52_4, pq_52_5, pq_52_6, pq_52_8, pq_52_10, pq_52_11, pq_52_14, pq_52_15, pq_52_16, pq_52_17, pq_52_18, pq_52_27, pq_52_29, pq_52_30, pq_52_31, pq_52_32, pq_52_33, pq_52_34, pq_52_35, pq_52_36, pq_52_37, pq_52_38, pq_52_39, pq_52_40, pq_52_41, aq_1, aq_11, aq_12, aq_13, aq_14, aq_16, aq_18, aq_20, aq_22, aq_23, aq_24, aq_25, aq_26, aq_27, aq_29, aq_32, aq_33, aq_34, aq_37, aq_38, aq_39, aq_42, aq_43, aq_44, aq_47, aq_48, aq_49, aq_51, aq_53, aq_54, aq_55, aq_56, aq_57, aq_58, aq_59, aq_60, aq_61, aq_62, aq_63, aq_64, aq_65, aq_66, aq_67, aq_68, aq_69, aq_70, aq_71, aq_72, aq_73, aq_74, aq_75, aq_76, aq_77, aq_78, aq_79, aq_80, aq_81]
  refine ⟨_, ((s1.trans s2).trans s3).trans s4, ?_, ?_, ?_⟩
  · refine em_OM ⟨a1, a2, a3⟩ h2 h11 ?_ ?_ ?_ ?_ ?_ ?_ ?_
    · rw [va_up_self, pk_us]
    · rw [va_up_ne _ _ (by decide), n4 64 (by omega), t64]
    · rw [va_up_ne _ _ (by decide), n4 65 (by omega), t65]
    · rw [va_up_ne _ _ (by decide), n4 66 (by omega), t66]
    · rw [va_up_ne _ _ (by decide), n4 67 (by omega), t67]
    · intro j hj
      rw [va_up_ne _ _ (by decide), t63, if_neg (by omega), n3 63 (by omega), n2' 63 (by omega)]
    · intro j hj
      rw [va_up_ne _ _ (by decide), t63, if_pos (by omega), n3 62 (by omega), show 0 + 0 + (cn S 11 + j - (cn S 11 + 0)) = j by omega]
      exact p2.2 j hj
  · intro a ha h52
    rw [va_up_ne _ _ h52, n4 a (by omega), n3 a (by omega), n2' a (by omega)]
  · intro k hk
    rw [va_up_self, pk_un hk, n4 52 (by omega), w52]
end Out58
