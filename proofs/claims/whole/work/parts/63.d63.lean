-- a packet is sent, in pieces if it must: the reference
section Send63
theorem em_eq {S : St9} {L : Nat} {way next : Int32} {P Q : Nat → Nat} (h : ∀ i, i < L → P i = Q i) : emS S L way next P = emS S L way next Q := by
  funext k
  unfold emS
  by_cases h1 : k = 13
  · subst h1
    show (fun j => if cn S 11 ≤ j ∧ j < cn S 11 + L then nI (P (j - cn S 11)) else S 13 j) = fun j => if cn S 11 ≤ j ∧ j < cn S 11 + L then nI (Q (j - cn S 11)) else S 13 j
    funext j
    by_cases h2 : cn S 11 ≤ j ∧ j < cn S 11 + L
    · rw [if_pos h2, if_pos h2, h _ (by omega)]
    · rw [if_neg h2, if_neg h2]
  · simp only [h1, if_false]
theorem fin_c {Q C : Nat → Nat} {L : Nat} (h0 : 20 ≤ hl Q) (hL : hl Q ≤ L) (h : ∀ i, i < L → Q i = C i) : ∀ i, i < L → fin Q L i = fin C L i := by
  intro i hi
  have e : hl Q = hl C := by unfold hl; rw [h 0 (by omega)]
  have h2 : ∀ j, j < L → bu2 Q 2 L j = bu2 C 2 L j := fun j hj => by unfold bu2 b1; rw [h j hj]
  have e2 : sN (bu2 Q 2 L) 0 10 (hl Q) = sN (bu2 C 2 L) 0 10 (hl C) := by
    rw [← e]; exact sN_eq _ (fun j hj => h2 _ (by omega))
  unfold fin
  rw [e2]
  generalize bu2 Q 2 L = X at h2
  generalize bu2 C 2 L = Y at h2
  unfold bu2 b1; rw [h2 i hi]
theorem cut_0 (X : Nat) : cutN X 0 0 = X := by unfold cutN; rw [if_neg (by omega)]; omega
theorem and_h {X : Nat} (hX : X < 65536) : nI X &&& (49152 : Int32) = nI (X / 16384 * 16384) := by
  rw [show (49152 : Int32) = nI 49152 from rfl, nI_andN (by omega) (by omega)]
  congr 1
  have h1 : (X &&& 49152) / 2 ^ 14 = X / 2 ^ 14 &&& 49152 / 2 ^ 14 := Nat.and_div_two_pow
  have h2 : (X &&& 49152) % 2 ^ 14 = X % 2 ^ 14 &&& 49152 % 2 ^ 14 := Nat.and_mod_two_pow
  rw [show 49152 % 2 ^ 14 = 0 from rfl, Nat.and_zero] at h2
  rw [show 49152 / 2 ^ 14 = 2 ^ 2 - 1 from rfl, Nat.and_two_pow_sub_one_eq_mod] at h1
  omega
theorem cut_m {X d : Nat} (hX : X < 65536) (hd : X % 8192 + d < 8192) : ((nI X &&& (49152 : Int32)) ||| (8192 : Int32)) ||| ((nI (X % 8192) + nI d) &&& (8191 : Int32)) = nI (cutN X d 1) ∧ ((nI X &&& (49152 : Int32)) ||| (nI X &&& (8192 : Int32))) ||| ((nI (X % 8192) + nI d) &&& (8191 : Int32)) = nI (cutN X d 0) := by
  have e1 := and_h hX
  have e2 := (nI_bit (a := X) (by omega)).1
  have e3 := (nI_mask (a := X % 8192 + d) (by omega)).2.2.1
  rw [e1, e2, nI_add, e3, show (8192 : Int32) = nI 8192 from rfl]
  have key : ∀ b, b < 2 → (nI (X / 16384 * 16384) ||| nI (b * 8192)) ||| nI ((X % 8192 + d) % 8192) = nI (X / 16384 * 16384 + b * 8192 + (X % 8192 + d)) := by
    intro b hb
    rw [nI_orN (by omega) (by omega), show X / 16384 * 16384 = X / 16384 * 2 ^ 14 from rfl, or_N (k := 14) (by omega), nI_orN (by omega) (by omega)]
    rw [show X / 16384 * 2 ^ 14 + b * 8192 = (X / 16384 * 2 + b) * 2 ^ 13 by omega, or_N (k := 13) (by omega)]
    congr 1; omega
  constructor
  · have := key 1 (by omega)
    rw [show 1 * 8192 = 8192 from rfl] at this
    rw [this]; unfold cutN; rw [if_pos rfl]
  · rw [key (X / 8192 % 2) (by omega)]; unfold cutN; rw [if_neg (by omega)]
variable {S : St9} {next : Int32} {P H : Nat → Nat} {w : Nat → Option Nat} {f c s n data m k d sz : Nat} {z : Nat → Nat → Int32}
theorem m95_p {C : Nat → Int32 → Int32 → Int32 → Int32 → Int32 → Int32 → hp_T → Option ev_O} (hk : k < 8) (hP : mb z 61 sz P) (hsz : sz = hl P + data) (h4100 : sz ≤ 4100) (h12 : z 52 12 = nI sz) (h54 : z 54 k = nI m) (hH : mb z 62 n H) (hlH : hl H = n) (hn0 : 20 ≤ n) (hn6 : n ≤ 60) (hd : d ≤ data) (hm : 100 ≤ m) (hm2 : m ≤ 1500) (hO : OM S z) (how : ow S) (h2 : cn S 2 < 50) (h11 : cn S 11 + (n + ptN n d data m) ≤ 5000) (hcut : n2 P 6 % 8192 + d / 8 < 8192) (hf : 10000 < f) : ∃ z', B_95_141 f C 52 (nI k) next (nI (hl P)) (nI (n2 P 6)) (nI (hl P + d)) (nI n) (hq z w c s) = C 52 (nI k) next (nI (hl P)) (nI (n2 P 6)) (nI (hl P + (d + ptN n d data m))) 0 (hq z' w c s) ∧ OM (emS S (n + ptN n d data m) (nI k) next (pcB H P n d data m)) z' ∧ (∀ a, a < 62 ∨ 67 < a → a ≠ 52 → z' a = z a) ∧ ∀ j, j ≠ 13 → j ≠ 19 → z' 52 j = z 52 j := by
  have hl6 := hl_le P
  have hX := n2_lt hP.1 6
  obtain ⟨pt, ept⟩ : ∃ x, x = ptN n d data m := ⟨_, rfl⟩
  have hpt : pt ≤ data - d ∧ n + pt ≤ m := by rw [ept]; unfold ptN; split <;> omega
  rw [← ept] at h11 ⊢
  obtain ⟨mo, emo⟩ : ∃ x, x = (if pt < data - d then 1 else 0 : Nat) := ⟨_, rfl⟩
  obtain ⟨ct, ect⟩ : ∃ x, x = cutN (n2 P 6) (d / 8) mo := ⟨_, rfl⟩
  have hct : ct < 65536 := by rw [ect]; exact cut_lt hX hcut
  have i8 : ev_in (nI k) 8 = true := ev_in_nI hk (by omega)
  have c8' : (nI k).toNatClampNeg = k := nI_clamp (by omega)
  have x1 : nI sz - nI (hl P + d) = nI (data - d) := by rw [nI_subN (by omega)]; exact congrArg nI (by omega)
  -- the loop
  obtain ⟨z1, e1⟩ : ∃ x, x = cpz z 62 61 (hl P + d + 0) (n + 0) pt := ⟨_, rfl⟩
  have n1 : ∀ a, a ≠ 62 → z1 a = z a := fun a ha => by rw [e1]; exact cpz_ne ha
  have b62 : mb z1 62 (n + pt) (hp2 H P n (hl P + d)) := by
    refine ⟨hp2_lt hH.1 hP.1 _ _, fun i hi => ?_⟩
    rw [e1, cpz_at]
    unfold hp2
    by_cases h : i < n
    · rw [if_neg (by omega), if_pos h]; exact hH.2 i h
    · rw [if_pos (by omega), if_neg h, show hl P + d + 0 + (i - (n + 0)) = hl P + d + (i - n) by omega]
      exact hP.2 _ (by omega)
  obtain ⟨z2, e2⟩ : ∃ x, x = va_up z1 52 (upd (z1 52) 13 (nI (n + pt))) := ⟨_, rfl⟩
  have n2' : ∀ a, a ≠ 52 → z2 a = z1 a := fun a ha => by rw [e2, va_up_ne _ _ ha]
  have n52 : ∀ j, j ≠ 13 → z2 52 j = z 52 j := fun j hj => by rw [e2, va_up_self, pk_un hj, n1 52 (by omega)]
  obtain ⟨z3, e3⟩ : ∃ x, x = u2z z2 62 6 ct := ⟨_, rfl⟩
  have n3 : ∀ a, a ≠ 62 → z3 a = z2 a := fun a ha => by rw [e3]; exact u2z_ne ha
  have q88 : F_88 f 62 6 (nI ct) (hq z2 w c s) = some (.inl none, hq z3 w c s) := by rw [e3]; exact m88 (t := 6) (N := 4200) (fun z => kq_62) (by omega) (by omega) (by omega)
  have b63 : mb z3 62 (n + pt) (bu2 (hp2 H P n (hl P + d)) 6 ct) := by
    rw [e3]
    refine mb_u2 ⟨b62.1, fun i hi => ?_⟩ (fun i hi _ _ => hi)
    rw [n2' 62 (by omega)]; exact b62.2 i hi
  have O3 : OM S z3 := by
    obtain ⟨a1, a2, a3⟩ := hO
    refine ⟨?_, ?_, ?_⟩
    · rw [n3 52 (by omega), n52 19 (by omega)]; exact a1
    · rw [n3 64 (by omega), n3 65 (by omega), n3 66 (by omega), n3 67 (by omega), n2' 64 (by omega), n2' 65 (by omega), n2' 66 (by omega), n2' 67 (by omega), n1 64 (by omega), n1 65 (by omega), n1 66 (by omega), n1 67 (by omega)]; exact a2
    · rw [n3 63 (by omega), n2' 63 (by omega), n1 63 (by omega)]; exact a3
  have hlQ : hl (bu2 (hp2 H P n (hl P + d)) 6 ct) = n := by rw [hl_u2 (by omega), hl_p2 (by omega), hlH]
  obtain ⟨z4, g1, g2, g3, g4⟩ := m94 (f := f) (w := w) (c := c) (s := s) (way := nI k) (next := next) (md := n + pt) O3 how b63 (by rw [n3 52 (by omega), e2, va_up_self, pk_us]) (by rw [hlQ]; exact hn0) (by rw [hlQ]; omega) (by omega) h2 h11 (by omega)
  -- what the loop needs
  obtain ⟨l9, el9⟩ : ∃ x, x = (if data - d ≤ m - n then 1 else 0 : Int32) := ⟨_, rfl⟩
  have s1 : B_95_141 f C 52 (nI k) next (nI (hl P)) (nI (n2 P 6)) (nI (hl P + d)) (nI n) (hq z w c s) = B_95_203 f C f 52 (nI k) next (nI (hl P)) (nI (n2 P 6)) (nI (hl P + d)) (nI n) l9 (nI pt) 0 (hq z w c s) := by
    by_cases h : data - d ≤ m - n
    · have h' : ¬ nI m < nI (n + (data - d)) := nI_nlt (by omega) (by omega)
      have : pt = data - d := by rw [ept]; unfold ptN; rw [if_pos h]
      rw [el9, if_pos h]
      simp only [B_95_141, B_95_171, B_95_198, h12, h54, i8, c8', x1, nI_add, h', show ¬ (1 : Int32) = 0 by decide, this, dg_1, db_1, db_0, dl_1, dp_1, dv_1, dv_x, di_1, di_x, dw_1, ec_eq, ec_ne, ec_lt, ec_ge, ec_gt, ec_le, hq_z, hq_wz, hq_wc, hq_thr, hq_p29, hq_pw, eq_self, decide_true, decide_false, not_true_eq_false, not_false_eq_true, kq_0, kq_1, kq_2, kq_3, kq_4, kq_5, kq_6, kq_7, kq_8, kq_9, kq_10, kq_11, kq_12, kq_13, kq_14, kq_15, kq_16, kq_17, kq_18, kq_19, kq_20, kq_21, kq_22, kq_23, kq_24, kq_25, kq_26, kq_27, kq_28, kq_29, kq_30, kq_31, kq_32, kq_33, kq_34, kq_35, kq_36, kq_37, kq_38, kq_39, kq_40, kq_41, kq_42, kq_43, kq_44, kq_45, kq_46, kq_47, kq_48, kq_49, kq_50, kq_51, kq_52, kq_53, kq_54, kq_55, kq_56, kq_57, kq_58, kq_59, kq_60, kq_61, kq_62, kq_63, kq_64, kq_65, kq_66, kq_67, kq_68, kq_69, kq_70, kq_71, kq_72, kq_73, kq_74, kq_75, kq_76, kq_77, kq_78, kq_79, kq_80, kq_81, pq_0_0, pq_0_1, pq_0_2, pq_0_3, pq_0_4, pq_0_5, pq_0_6, pq_0_7, pq_1_0, pq_1_1, pq_1_2, pq_1_3, pq_1_4, pq_1_5, pq_1_6, pq_1_7, pq_10_0, pq_10_1, pq_10_2, pq_10_3, pq_15_0, pq_17_0, pq_19_0, pq_21_0, pq_21_1, pq_21_2, pq_21_3, pq_21_4, pq_21_5, pq_28_0, pq_30_0, pq_30_1, pq_30_2, pq_31_0, pq_35_0, pq_35_1, pq_35_2, pq_36_0, pq_40_0, pq_40_1, pq_40_2, pq_41_0, pq_45_0, pq_45_1, pq_45_2, pq_46_0, pq_50_0, pq_52_0, pq_52_1, pq_52_2, pq_52_3, pq_52_4, pq_52_5, pq_52_6, pq_52_8, pq_52_10, pq_52_11, pq_52_14, pq_52_15, pq_52_16, pq_52_17, pq_52_18, pq_52_27, pq_52_29, pq_52_30, pq_52_31, pq_52_32, pq_52_33, pq_52_34, pq_52_35, pq_52_36, pq_52_37, pq_52_38, pq_52_39, pq_52_40, pq_52_41, aq_1, aq_11, aq_12, aq_13, aq_14, aq_16, aq_18, aq_20, aq_22, aq_23, aq_24, aq_25, aq_26, aq_27, aq_29, aq_32, aq_33, aq_34, aq_37, aq_38, aq_39, aq_42, aq_43, aq_44, aq_47, aq_48, aq_49, aq_51, aq_53, aq_54, aq_55, aq_56, aq_57, aq_58, aq_59, aq_60, aq_61, aq_62, aq_63, aq_64, aq_65, aq_66, aq_67, aq_68, aq_69, aq_70, aq_71, aq_72, aq_73, aq_74, aq_75, aq_76, aq_77, aq_78, aq_79, aq_80, aq_81]
    · have h' : nI m < nI (n + (data - d)) := nI_lt (by omega) (by omega)
      have : pt = (m - n) / 8 * 8 := by rw [ept]; unfold ptN; rw [if_neg h]
      have x2 : (nI m - nI n) / (8 : Int32) * (8 : Int32) = nI pt := by rw [nI_subN (by omega), show (8 : Int32) = nI 8 from rfl, nI_divN (by omega) (by omega), nI_mulN, this]
      rw [el9, if_neg h]
      simp only [B_95_141, B_95_171, B_95_198, h12, h54, i8, c8', x1, nI_add, h', x2, dg_1, db_1, db_0, dl_1, dp_1, dv_1, dv_x, di_1, di_x, dw_1, ec_eq, ec_ne, ec_lt, ec_ge, ec_gt, ec_le, hq_z, hq_wz, hq_wc, hq_thr, hq_p29, hq_pw, eq_self, decide_true, decide_false, not_true_eq_false, not_false_eq_true, kq_0, kq_1, kq_2, kq_3, kq_4, kq_5, kq_6, kq_7, kq_8, kq_9, kq_10, kq_11, kq_12, kq_13, kq_14, kq_15, kq_16, kq_17, kq_18, kq_19, kq_20, kq_21, kq_22, kq_23, kq_24, kq_25, kq_26, kq_27, kq_28, kq_29, kq_30, kq_31, kq_32, kq_33, kq_34, kq_35, kq_36, kq_37, kq_38, kq_39, kq_40, kq_41, kq_42, kq_43, kq_44, kq_45, kq_46, kq_47, kq_48, kq_49, kq_50, kq_51, kq_52, kq_53, kq_54, kq_55, kq_56, kq_57, kq_58, kq_59, kq_60, kq_61, kq_62, kq_63, kq_64, kq_65, kq_66, kq_67, kq_68, kq_69, kq_70, kq_71, kq_72, kq_73, kq_74, kq_75, kq_76, kq_77, kq_78, kq_79, kq_80, kq_81, pq_0_0, pq_0_1, pq_0_2, pq_0_3, pq_0_4, pq_0_5, pq_0_6, pq_0_7, pq_1_0, pq_1_1, pq_1_2, pq_1_3, pq_1_4, pq_1_5, pq_1_6, pq_1_7, pq_10_0, pq_10_1, pq_10_2, pq_10_3, pq_15_0, pq_17_0, pq_19_0, pq_21_0, pq_21_1, pq_21_2, pq_21_3, pq_21_4, pq_21_5, pq_28_0, pq_30_0, pq_30_1, pq_30_2, pq_31_0, pq_35_0, pq_35_1, pq_35_2, pq_36_0, pq_40_0, pq_40_1, pq_40_2, pq_41_0, pq_45_0, pq_45_1, pq_45_2, pq_46_0, pq_50_0, pq_52_0, pq_52_1, pq_52_2, pq_52_3, pq_52_4, pq_52_5, pq_52_6, pq_52_8, pq_52_10, pq_52_11, pq_52_14, pq_52_15, pq_52_16, pq_52_17, pq_52_18, pq_52_27, pq_52_29, pq_52_30, pq_52_31, pq_52_32, pq_52_33, pq_52_34, pq_52_35, pq_52_36, pq_52_37, pq_52_38, pq_52_39, pq_52_40, pq_52_41, aq_1, aq_11, aq_12, aq_13, aq_14, aq_16, aq_18, aq_20, aq_22, aq_23, aq_24, aq_25, aq_26, aq_27, aq_29, aq_32, aq_33, aq_34, aq_37, aq_38, aq_39, aq_42, aq_43, aq_44, aq_47, aq_48, aq_49, aq_51, aq_53, aq_54, aq_55, aq_56, aq_57, aq_58, aq_59, aq_60, aq_61, aq_62, aq_63, aq_64, aq_65, aq_66, aq_67, aq_68, aq_69, aq_70, aq_71, aq_72, aq_73, aq_74, aq_75, aq_76, aq_77, aq_78, aq_79, aq_80, aq_81]
  have s2 := lp_95a (f := f) (w := w) (c := c) (s := s) (C := C) (l1 := nI k) (l2 := next) (l3 := nI (hl P)) (l4 := nI (n2 P 6)) (l9 := l9) (l5 := hl P + d) (l7 := n) (l10 := pt) (by omega) (by omega) pt 0 (f - pt) z (by omega)
  rw [show f - pt + pt = f by omega, ← e1] at s2
  obtain ⟨g, hg⟩ : ∃ g, f - pt = g + 1 := ⟨f - pt - 1, by omega⟩
  rw [hg] at s2
  have y0 : nI pt ≤ nI (0 + pt) := nI_le (by omega) (by omega)
  have e81 := (nI_mask (a := n2 P 6) (by omega)).2.2.1
  have y1 : (nI (hl P + d) - nI (hl P)) / (8 : Int32) = nI (d / 8) := by rw [nI_subN (by omega), show hl P + d - hl P = d by omega, show (8 : Int32) = nI 8 from rfl, nI_divN (by omega) (by omega)]
  have hcm := cut_m hX hcut
  have hz2 : va_up z1 52 (upd (z1 52) 13 (nI (n + pt))) = z2 := e2.symm
  have s3 : B_95_203 f C (g + 1) 52 (nI k) next (nI (hl P)) (nI (n2 P 6)) (nI (hl P + d)) (nI n) l9 (nI pt) (nI (0 + pt)) (hq z1 w c s) = C 52 (nI k) next (nI (hl P)) (nI (n2 P 6)) (nI (hl P + (d + pt))) 0 (hq z4 w c s) := by
    by_cases h : data - d ≤ m - n
    · have h9 : pt = data - d := by rw [ept]; unfold ptN; rw [if_pos h]
      have hmo : mo = 0 := by rw [emo, if_neg (by omega)]
      rw [hmo] at ect
      rw [el9, if_pos h]
      simp only [B_95_203, B_95_289, y0, nI_add n pt, hz2, show ¬ (1 : Int32) = 0 by decide, e81, y1, hcm.2, ← ect, q88, g1, nI_add (hl P + d) pt, Nat.add_assoc, dg_1, db_1, db_0, dl_1, dp_1, dv_1, dv_x, di_1, di_x, dw_1, ec_eq, ec_ne, ec_lt, ec_ge, ec_gt, ec_le, hq_z, hq_wz, hq_wc, hq_thr, hq_p29, hq_pw, eq_self, decide_true, decide_false, not_true_eq_false, not_false_eq_true, kq_0, kq_1, kq_2, kq_3, kq_4, kq_5, kq_6, kq_7, kq_8, kq_9, kq_10, kq_11, kq_12, kq_13, kq_14, kq_15, kq_16, kq_17, kq_18, kq_19, kq_20, kq_21, kq_22, kq_23, kq_24, kq_25, kq_26, kq_27, kq_28, kq_29, kq_30, kq_31, kq_32, kq_33, kq_34, kq_35, kq_36, kq_37, kq_38, kq_39, kq_40, kq_41, kq_42, kq_43, kq_44, kq_45, kq_46, kq_47, kq_48, kq_49, kq_50, kq_51, kq_52, kq_53, kq_54, kq_55, kq_56, kq_57, kq_58, kq_59, kq_60, kq_61, kq_62, kq_63, kq_64, kq_65, kq_66, kq_67, kq_68, kq_69, kq_70, kq_71, kq_72, kq_73, kq_74, kq_75, kq_76, kq_77, kq_78, kq_79, kq_80, kq_81, pq_0_0, pq_0_1, pq_0_2, pq_0_3, pq_0_4, pq_0_5, pq_0_6, pq_0_7, pq_1_0, pq_1_1, pq_1_2, pq_1_3, pq_1_4, pq_1_5, pq_1_6, pq_1_7, pq_10_0, pq_10_1, pq_10_2, pq_10_3, pq_15_0, pq_17_0, pq_19_0, pq_21_0, pq_21_1, pq_21_2, pq_21_3, pq_21_4, pq_21_5, pq_28_0, pq_30_0, pq_30_1, pq_30_2, pq_31_0, pq_35_0, pq_35_1, pq_35_2, pq_36_0, pq_40_0, pq_40_1, pq_40_2, pq_41_0, pq_45_0, pq_45_1, pq_45_2, pq_46_0, pq_50_0, pq_52_0, pq_52_1, pq_52_2, pq_52_3, pq_52_4, pq_52_5, pq_52_6, pq_52_8, pq_52_10, pq_52_11, pq_52_14, pq_52_15, pq_52_16, pq_52_17, pq_52_18, pq_52_27, pq_52_29, pq_52_30, pq_52_31, pq_52_32, pq_52_33, pq_52_34, pq_52_35, pq_52_36, pq_52_37, pq_52_38, pq_52_39, pq_52_40, pq_52_41, aq_1, aq_11, aq_12, aq_13, aq_14, aq_16, aq_18, aq_20, aq_22, aq_23, aq_24, aq_25, aq_26, aq_27, aq_29, aq_32, aq_33, aq_34, aq_37, aq_38, aq_39, aq_42, aq_43, aq_44, aq_47, aq_48, aq_49, aq_51, aq_53, aq_54, aq_55, aq_56, aq_57, aq_58, aq_59, aq_60, aq_61, aq_62, aq_63, aq_64, aq_65, aq_66, aq_67, aq_68, aq_69, aq_70, aq_71, aq_72, aq_73, aq_74, aq_75, aq_76, aq_77, aq_78, aq_79, aq_80, aq_81]
    · have h9 : pt < data - d := by
        have : pt = (m - n) / 8 * 8 := by rw [ept]; unfold ptN; rw [if_neg h]
        omega
      have hmo : mo = 1 := by rw [emo, if_pos h9]
      rw [hmo] at ect
      rw [el9, if_neg h]
      simp only [B_95_203, B_95_289, y0, nI_add n pt, hz2, e81, y1, hcm.1, ← ect, q88, g1, nI_add (hl P + d) pt, Nat.add_assoc, dg_1, db_1, db_0, dl_1, dp_1, dv_1, dv_x, di_1, di_x, dw_1, ec_eq, ec_ne, ec_lt, ec_ge, ec_gt, ec_le, hq_z, hq_wz, hq_wc, hq_thr, hq_p29, hq_pw, eq_self, decide_true, decide_false, not_true_eq_false, not_false_eq_true, kq_0, kq_1, kq_2, kq_3, kq_4, kq_5, kq_6, kq_7, kq_8, kq_9, kq_10, kq_11, kq_12, kq_13, kq_14, kq_15, kq_16, kq_17, kq_18, kq_19, kq_20, kq_21, kq_22, kq_23, kq_24, kq_25, kq_26, kq_27, kq_28, kq_29, kq_30, kq_31, kq_32, kq_33, kq_34, kq_35, kq_36, kq_37, kq_38, kq_39, kq_40, kq_41, kq_42, kq_43, kq_44, kq_45, kq_46, kq_47, kq_48, kq_49, kq_50, kq_51, kq_52, kq_53, kq_54, kq_55, kq_56, kq_57, kq_58, kq_59, kq_60, kq_61, kq_62, kq_63, kq_64, kq_65, kq_66, kq_67, kq_68, kq_69, kq_70, kq_71, kq_72, kq_73, kq_74, kq_75, kq_76, kq_77, kq_78, kq_79, kq_80, kq_81, pq_0_0, pq_0_1, pq_0_2, pq_0_3, pq_0_4, pq_0_5, pq_0_6, pq_0_7, pq_1_0, pq_1_1, pq_1_2, pq_1_3, pq_1_4, pq_1_5, pq_1_6, pq_1_7, pq_10_0, pq_10_1, pq_10_2, pq_10_3, pq_15_0, pq_17_0, pq_19_0, pq_21_0, pq_21_1, pq_21_2, pq_21_3, pq_21_4, pq_21_5, pq_28_0, pq_30_0, pq_30_1, pq_30_2, pq_31_0, pq_35_0, pq_35_1, pq_35_2, pq_36_0, pq_40_0, pq_40_1, pq_40_2, pq_41_0, pq_45_0, pq_45_1, pq_45_2, pq_46_0, pq_50_0, pq_52_0, pq_52_1, pq_52_2, pq_52_3, pq_52_4, pq_52_5, pq_52_6, pq_52_8, pq_52_10, pq_52_11, pq_52_14, pq_52_15, pq_52_16, pq_52_17, pq_52_18, pq_52_27, pq_52_29, pq_52_30, pq_52_31, pq_52_32, pq_52_33, pq_52_34, pq_52_35, pq_52_36, pq_52_37, pq_52_38, pq_52_39, pq_52_40, pq_52_41, aq_1, aq_11, aq_12, aq_13, aq_14, aq_16, aq_18, aq_20, aq_22, aq_23, aq_24, aq_25, aq_26, aq_27, aq_29, aq_32, aq_33, aq_34, aq_37, aq_38, aq_39, aq_42, aq_43, aq_44, aq_47, aq_48, aq_49, aq_51, aq_53, aq_54, aq_55, aq_56, aq_57, aq_58, aq_59, aq_60, aq_61, aq_62, aq_63, aq_64, aq_65, aq_66, aq_67, aq_68, aq_69, aq_70, aq_71, aq_72, aq_73, aq_74, aq_75, aq_76, aq_77, aq_78, aq_79, aq_80, aq_81]
  refine ⟨z4, (s1.trans s2).trans s3, ?_, ?_, ?_⟩
  · unfold pcB; rw [← ept, ← emo, ← ect]; exact g2
  · intro a ha h52
    rw [g3 a ha h52, n3 a (by omega), n2' a h52, n1 a (by omega)]
  · intro j h13 h19
    rw [g4 j h19, n3 52 (by omega), n52 j h13]
theorem m95_l {h : Nat} {c2 c11 : Nat} (hc : capS c2 c11 h ((m - h) / 8 * 8) data) (hk : k < 8) (hlP : hl P = h) (h0 : 20 ≤ h) (hsz : sz = hl P + data) (h4100 : sz ≤ 4100) (hm : 100 ≤ m) (hm2 : m ≤ 1500) (hw : wo P = none) (hcut : n2 P 6 % 8192 + data / 8 < 8192) (hf : 10000 < f) : ∀ (gS d kk : Nat) (S : St9) (gC : Nat) (z : Nat → Nat → Int32), data < d + gS → data < d + gC → mb z 61 sz P → z 52 12 = nI sz → z 54 k = nI m → OM S z → invS S c2 c11 h ((m - h) / 8 * 8) data d kk → ∃ z', B_95_89 f gC 52 (nI k) next (nI (hl P)) (nI (n2 P 6)) (nI (hl P + d)) 0 (hq z w c s) = some (.inl none, hq z' w c s) ∧ OM (sdL P (LH P) (ll P) data m (nI k) next gS d S) z' ∧ (∀ a, a < 62 ∨ 67 < a → a ≠ 52 → z' a = z a) ∧ ∀ j, j ≠ 13 → j ≠ 19 → z' 52 j = z 52 j := by
  intro gS
  induction gS with
  | zero => intro d kk S gC z h1 h2 _ _ _ _ hi; have := hi.1; omega
  | succ gS ih =>
    intro d kk S gC z h1 h2 hP h12 h54 hO hi
    obtain ⟨g, rfl⟩ : ∃ g, gC = g + 1 := ⟨gC - 1, by have := hi.1; omega⟩
    have hl6 := hl_le P
    have hlb := ll_b (B := P) (by omega)
    have i1 := hi.1
    by_cases hd : data ≤ d
    · have e1 : nI sz ≤ nI (hl P + d) := nI_le (by omega) (by omega)
      refine ⟨z, ?_, ?_, fun _ _ _ => rfl, fun _ _ _ => rfl⟩
      · simp only [B_95_89, h12, e1, dg_1, db_1, db_0, dl_1, dp_1, dv_1, dv_x, di_1, di_x, dw_1, ec_eq, ec_ne, ec_lt, ec_ge, ec_gt, ec_le, hq_z, hq_wz, hq_wc, hq_thr, hq_p29, hq_pw, eq_self, decide_true, decide_false, not_true_eq_false, not_false_eq_true, kq_0, kq_1, kq_2, kq_3, kq_4, kq_5, kq_6, kq_7, kq_8, kq_9, kq_10, kq_11, kq_12, kq_13, kq_14, kq_15, kq_16, kq_17, kq_18, kq_19, kq_20, kq_21, kq_22, kq_23, kq_24, kq_25, kq_26, kq_27, kq_28, kq_29, kq_30, kq_31, kq_32, kq_33, kq_34, kq_35, kq_36, kq_37, kq_38, kq_39, kq_40, kq_41, kq_42, kq_43, kq_44, kq_45, kq_46, kq_47, kq_48, kq_49, kq_50, kq_51, kq_52, kq_53, kq_54, kq_55, kq_56, kq_57, kq_58, kq_59, kq_60, kq_61, kq_62, kq_63, kq_64, kq_65, kq_66, kq_67, kq_68, kq_69, kq_70, kq_71, kq_72, kq_73, kq_74, kq_75, kq_76, kq_77, kq_78, kq_79, kq_80, kq_81, pq_0_0, pq_0_1, pq_0_2, pq_0_3, pq_0_4, pq_0_5, pq_0_6, pq_0_7, pq_1_0, pq_1_1, pq_1_2, pq_1_3, pq_1_4, pq_1_5, pq_1_6, pq_1_7, pq_10_0, pq_10_1, pq_10_2, pq_10_3, pq_15_0, pq_17_0, pq_19_0, pq_21_0, pq_21_1, pq_21_2, pq_21_3, pq_21_4, pq_21_5, pq_28_0, pq_30_0, pq_30_1, pq_30_2, pq_31_0, pq_35_0, pq_35_1, pq_35_2, pq_36_0, pq_40_0, pq_40_1, pq_40_2, pq_41_0, pq_45_0, pq_45_1, pq_45_2, pq_46_0, pq_50_0, pq_52_0, pq_52_1, pq_52_2, pq_52_3, pq_52_4, pq_52_5, pq_52_6, pq_52_8, pq_52_10, pq_52_11, pq_52_14, pq_52_15, pq_52_16, pq_52_17, pq_52_18, pq_52_27, pq_52_29, pq_52_30, pq_52_31, pq_52_32, pq_52_33, pq_52_34, pq_52_35, pq_52_36, pq_52_37, pq_52_38, pq_52_39, pq_52_40, pq_52_41, aq_1, aq_11, aq_12, aq_13, aq_14, aq_16, aq_18, aq_20, aq_22, aq_23, aq_24, aq_25, aq_26, aq_27, aq_29, aq_32, aq_33, aq_34, aq_37, aq_38, aq_39, aq_42, aq_43, aq_44, aq_47, aq_48, aq_49, aq_51, aq_53, aq_54, aq_55, aq_56, aq_57, aq_58, aq_59, aq_60, aq_61, aq_62, aq_63, aq_64, aq_65, aq_66, aq_67, aq_68, aq_69, aq_70, aq_71, aq_72, aq_73, aq_74, aq_75, aq_76, aq_77, aq_78, aq_79, aq_80, aq_81]
      · unfold sdL; simp only [hd, if_true]; exact hO
    · have h3 := inv_s (way := nI k) (next := next) (Q := pcB (LH P) P (ll P) d data m) (L := 0) hc hi (by omega) (show ll P ≤ h by omega) (by omega) hm hm2 rfl
      have e1 : ¬ nI sz ≤ nI (hl P + d) := nI_ge (by omega) (by omega)
      have hd8 : d / 8 ≤ data / 8 := Nat.div_le_div_right i1
      -- the header is copied
      have s2 := lp_95b (f := f) (w := w) (c := c) (s := s) (C := B_95_89 f g) (l1 := nI k) (l2 := next) (l3 := hl P) (l4 := nI (n2 P 6)) (l5 := nI (hl P + d)) (l6 := 0) (by omega) (hl P) 0 (f - hl P) z (by omega)
      rw [show f - hl P + hl P = f by omega] at s2
      obtain ⟨z1, ez1⟩ : ∃ x, x = cpz z 62 61 (0 + 0) (0 + 0) (hl P) := ⟨_, rfl⟩
      rw [← ez1] at s2
      have n1 : ∀ a, a ≠ 62 → z1 a = z a := fun a ha => by rw [ez1]; exact cpz_ne ha
      have b62 : mb z1 62 (hl P) P := ⟨hP.1, fun i hi => by rw [ez1, cpz_at, if_pos (by omega), show 0 + 0 + (i - (0 + 0)) = i by omega]; exact hP.2 i (by omega)⟩
      obtain ⟨z2, j1, j2, j3⟩ := m96 (f := f) (w := w) (c := c) (s := s) b62 (by omega) hw (by omega)
      obtain ⟨g', hg⟩ : ∃ g', f - hl P = g' + 1 := ⟨f - hl P - 1, by omega⟩
      rw [hg] at s2
      have y0 : nI (hl P) ≤ nI (0 + hl P) := nI_le (by omega) (by omega)
      have n2' : ∀ a, a ≠ 62 → z2 a = z a := fun a ha => by rw [j2 a ha, n1 a ha]
      have O2 : OM S z2 := by
        obtain ⟨a1, a2, a3⟩ := hO
        refine ⟨?_, ?_, ?_⟩
        · rw [n2' 52 (by omega)]; exact a1
        · rw [n2' 64 (by omega), n2' 65 (by omega), n2' 66 (by omega), n2' 67 (by omega)]; exact a2
        · rw [n2' 63 (by omega)]; exact a3
      obtain ⟨z3, k1, k2, k3, k4⟩ := m95_p (f := f) (w := w) (c := c) (s := s) (next := next) (C := B_95_89 f g) (d := d) (data := data) (m := m) (H := LH P) (n := ll P) hk (P := P) (sz := sz) (z := z2) ⟨hP.1, fun i hi => by rw [n2' 61 (by omega)]; exact hP.2 i hi⟩ hsz h4100 (by rw [n2' 52 (by omega)]; exact h12) (by rw [n2' 54 (by omega)]; exact h54) j3 (hl_LH (by omega)) (by omega) (by omega) i1 hm hm2 O2 hi.2.2.2.2.2 h3.1 h3.2.1 (by omega) hf
      have p1 : 0 < ptN (ll P) d data m := by
        have := ptN_b (n := ll P) (d := d) (data := data) (m := m) (by omega) hm (by omega)
        omega
      obtain ⟨z4, t1, t2, t3, t4⟩ := ih (d + ptN (ll P) d data m) (kk + 1) _ g z3 (by omega) (by omega) ⟨hP.1, fun i hi => by rw [k3 61 (by omega) (by omega), n2' 61 (by omega)]; exact hP.2 i hi⟩ (by rw [k4 12 (by omega) (by omega), n2' 52 (by omega)]; exact h12) (by rw [k3 54 (by omega) (by omega), n2' 54 (by omega)]; exact h54) k2 h3.2.2
      refine ⟨z4, ?_, ?_, fun a ha h52 => by rw [t3 a ha h52, k3 a ha h52, n2' a (by omega)], fun j h13 h19 => by rw [t4 j h13 h19, k4 j h13 h19, n2' 52 (by omega)]⟩
      · have s3 : B_95_101 f (B_95_89 f g) f 52 (nI k) next (nI (hl P)) (nI (n2 P 6)) (nI (hl P + d)) 0 0 (hq z w c s) = some (.inl none, hq z4 w c s) := by
          refine Eq.trans s2 ?_
          rw [← t1, ← k1]
          simp only [B_95_101, y0, j1, dg_1, db_1, db_0, dl_1, dp_1, dv_1, dv_x, di_1, di_x, dw_1, ec_eq, ec_ne, ec_lt, ec_ge, ec_gt, ec_le, hq_z, hq_wz, hq_wc, hq_thr, hq_p29, hq_pw, eq_self, decide_true, decide_false, not_true_eq_false, not_false_eq_true, kq_0, kq_1, kq_2, kq_3, kq_4, kq_5, kq_6, kq_7, kq_8, kq_9, kq_10, kq_11, kq_12, kq_13, kq_14, kq_15, kq_16, kq_17, kq_18, kq_19, kq_20, kq_21, kq_22, kq_23, kq_24, kq_25, kq_26, kq_27, kq_28, kq_29, kq_30, kq_31, kq_32, kq_33, kq_34, kq_35, kq_36, kq_37, kq_38, kq_39, kq_40, kq_41, kq_42, kq_43, kq_44, kq_45, kq_46, kq_47, kq_48, kq_49, kq_50, kq_51, kq_52, kq_53, kq_54, kq_55, kq_56, kq_57, kq_58, kq_59, kq_60, kq_61, kq_62, kq_63, kq_64, kq_65, kq_66, kq_67, kq_68, kq_69, kq_70, kq_71, kq_72, kq_73, kq_74, kq_75, kq_76, kq_77, kq_78, kq_79, kq_80, kq_81, pq_0_0, pq_0_1, pq_0_2, pq_0_3, pq_0_4, pq_0_5, pq_0_6, pq_0_7, pq_1_0, pq_1_1, pq_1_2, pq_1_3, pq_1_4, pq_1_5, pq_1_6, pq_1_7, pq_10_0, pq_10_1, pq_10_2, pq_10_3, pq_15_0, pq_17_0, pq_19_0, pq_21_0, pq_21_1, pq_21_2, pq_21_3, pq_21_4, pq_21_5, pq_28_0, pq_30_0, pq_30_1, pq_30_2, pq_31_0, pq_35_0, pq_35_1, pq_35_2, pq_36_0, pq_40_0, pq_40_1, pq_40_2, pq_41_0, pq_45_0, pq_45_1, pq_45_2, pq_46_0, pq_50_0, pq_52_0, pq_52_1, pq_52_2, pq_52_3, pq_52_4, pq_52_5, pq_52_6, pq_52_8, pq_52_10, pq_52_11, pq_52_14, pq_52_15, pq_52_16, pq_52_17, pq_52_18, pq_52_27, pq_52_29, pq_52_30, pq_52_31, pq_52_32, pq_52_33, pq_52_34, pq_52_35, pq_52_36, pq_52_37, pq_52_38, pq_52_39, pq_52_40, pq_52_41, aq_1, aq_11, aq_12, aq_13, aq_14, aq_16, aq_18, aq_20, aq_22, aq_23, aq_24, aq_25, aq_26, aq_27, aq_29, aq_32, aq_33, aq_34, aq_37, aq_38, aq_39, aq_42, aq_43, aq_44, aq_47, aq_48, aq_49, aq_51, aq_53, aq_54, aq_55, aq_56, aq_57, aq_58, aq_59, aq_60, aq_61, aq_62, aq_63, aq_64, aq_65, aq_66, aq_67, aq_68, aq_69, aq_70, aq_71, aq_72, aq_73, aq_74, aq_75, aq_76, aq_77, aq_78, aq_79, aq_80, aq_81]
        simp only [B_95_89, h12, e1, s3, dg_1, db_1, db_0, dl_1, dp_1, dv_1, dv_x, di_1, di_x, dw_1, ec_eq, ec_ne, ec_lt, ec_ge, ec_gt, ec_le, hq_z, hq_wz, hq_wc, hq_thr, hq_p29, hq_pw, eq_self, decide_true, decide_false, not_true_eq_false, not_false_eq_true, kq_0, kq_1, kq_2, kq_3, kq_4, kq_5, kq_6, kq_7, kq_8, kq_9, kq_10, kq_11, kq_12, kq_13, kq_14, kq_15, kq_16, kq_17, kq_18, kq_19, kq_20, kq_21, kq_22, kq_23, kq_24, kq_25, kq_26, kq_27, kq_28, kq_29, kq_30, kq_31, kq_32, kq_33, kq_34, kq_35, kq_36, kq_37, kq_38, kq_39, kq_40, kq_41, kq_42, kq_43, kq_44, kq_45, kq_46, kq_47, kq_48, kq_49, kq_50, kq_51, kq_52, kq_53, kq_54, kq_55, kq_56, kq_57, kq_58, kq_59, kq_60, kq_61, kq_62, kq_63, kq_64, kq_65, kq_66, kq_67, kq_68, kq_69, kq_70, kq_71, kq_72, kq_73, kq_74, kq_75, kq_76, kq_77, kq_78, kq_79, kq_80, kq_81, pq_0_0, pq_0_1, pq_0_2, pq_0_3, pq_0_4, pq_0_5, pq_0_6, pq_0_7, pq_1_0, pq_1_1, pq_1_2, pq_1_3, pq_1_4, pq_1_5, pq_1_6, pq_1_7, pq_10_0, pq_10_1, pq_10_2, pq_10_3, pq_15_0, pq_17_0, pq_19_0, pq_21_0, pq_21_1, pq_21_2, pq_21_3, pq_21_4, pq_21_5, pq_28_0, pq_30_0, pq_30_1, pq_30_2, pq_31_0, pq_35_0, pq_35_1, pq_35_2, pq_36_0, pq_40_0, pq_40_1, pq_40_2, pq_41_0, pq_45_0, pq_45_1, pq_45_2, pq_46_0, pq_50_0, pq_52_0, pq_52_1, pq_52_2, pq_52_3, pq_52_4, pq_52_5, pq_52_6, pq_52_8, pq_52_10, pq_52_11, pq_52_14, pq_52_15, pq_52_16, pq_52_17, pq_52_18, pq_52_27, pq_52_29, pq_52_30, pq_52_31, pq_52_32, pq_52_33, pq_52_34, pq_52_35, pq_52_36, pq_52_37, pq_52_38, pq_52_39, pq_52_40, pq_52_41, aq_1, aq_11, aq_12, aq_13, aq_14, aq_16, aq_18, aq_20, aq_22, aq_23, aq_24, aq_25, aq_26, aq_27, aq_29, aq_32, aq_33, aq_34, aq_37, aq_38, aq_39, aq_42, aq_43, aq_44, aq_47, aq_48, aq_49, aq_51, aq_53, aq_54, aq_55, aq_56, aq_57, aq_58, aq_59, aq_60, aq_61, aq_62, aq_63, aq_64, aq_65, aq_66, aq_67, aq_68, aq_69, aq_70, aq_71, aq_72, aq_73, aq_74, aq_75, aq_76, aq_77, aq_78, aq_79, aq_80, aq_81]
      · unfold sdL; simp only [hd, if_false]; exact t2
theorem m95 (hk : k < 8) (hP : mb z 61 sz P) (hsz : sz = hl P + data) (h4100 : sz ≤ 4100) (h0 : 20 ≤ hl P) (h12 : z 52 12 = nI sz) (h54 : z 54 k = nI m) (hm : 100 ≤ m) (hm2 : m ≤ 1500) (hO : OM S z) (how : ow S) (hc : capS (cn S 2) (cn S 11) (hl P) ((m - hl P) / 8 * 8) data) (hw : wo P = none) (hcut : n2 P 6 % 8192 + data / 8 < 8192) (hf : 20000 < f) : ∃ z', F_95 f 52 (nI k) next (hq z w c s) = some (.inl none, hq z' w c s) ∧ OM (sdS S P data m (nI k) next) z' ∧ (∀ a, a < 62 ∨ 67 < a → a ≠ 52 → z' a = z a) ∧ ∀ j, j ≠ 13 → j ≠ 19 → z' 52 j = z 52 j := by
  have hl6 := hl_le P
  have hcap0 := hc 0 (Or.inl rfl)
  obtain ⟨⟨g1, g2, hi⟩, o1, o2, o3, o4⟩ := sdS_all (way := nI k) (next := next) hc how h0 hm hm2
  have i8 : ev_in (nI k) 8 = true := ev_in_nI hk (by omega)
  have c8' : (nI k).toNatClampNeg = k := nI_clamp (by omega)
  have i0 : ev_in 0 4100 = true := by decide
  have c0 : Int32.toNatClampNeg 0 = 0 := rfl
  have v0 := hP.2 0 (by omega)
  have b0 := hP.1 0
  have e15 := (nI_mask (a := P 0) (by omega)).1
  have hm4 := hl_m (B := P)
  by_cases h : sz ≤ m
  · -- at once
    have h' : ¬ nI m < nI sz := nI_nlt h (by omega)
    have s2 := lp_95c (f := f) (w := w) (c := c) (s := s) (l1 := nI k) (l2 := next) (sz := sz) h4100 sz 0 (f - sz) z h12 (by omega)
    rw [show f - sz + sz = f by omega] at s2
    obtain ⟨z1, ez1⟩ : ∃ x, x = cpz z 62 61 (0 + 0) (0 + 0) sz := ⟨_, rfl⟩
    rw [← ez1] at s2
    have n1 : ∀ a, a ≠ 62 → z1 a = z a := fun a ha => by rw [ez1]; exact cpz_ne ha
    obtain ⟨z2, ez2⟩ : ∃ x, x = va_up z1 52 (upd (z1 52) 13 (nI sz)) := ⟨_, rfl⟩
    have n2' : ∀ a, a ≠ 52 → z2 a = z1 a := fun a ha => by rw [ez2, va_up_ne _ _ ha]
    have n52 : ∀ j, j ≠ 13 → z2 52 j = z 52 j := fun j hj => by rw [ez2, va_up_self, pk_un hj, n1 52 (by omega)]
    have b62 : mb z2 62 sz P := ⟨hP.1, fun i hi => by rw [n2' 62 (by omega), ez1, cpz_at, if_pos (by omega), show 0 + 0 + (i - (0 + 0)) = i by omega]; exact hP.2 i (by omega)⟩
    have O2 : OM S z2 := by
      obtain ⟨a1, a2, a3⟩ := hO
      refine ⟨?_, ?_, ?_⟩
      · rw [n52 19 (by omega)]; exact a1
      · rw [n2' 64 (by omega), n2' 65 (by omega), n2' 66 (by omega), n2' 67 (by omega), n1 64 (by omega), n1 65 (by omega), n1 66 (by omega), n1 67 (by omega)]; exact a2
      · rw [n2' 63 (by omega), n1 63 (by omega)]; exact a3
    have ep : ptN (hl P) 0 data m = data := by unfold ptN; rw [if_pos (by omega)]; omega
    rw [ep] at g2
    obtain ⟨z3, k1, k2, k3, k4⟩ := m94 (f := f) (w := w) (c := c) (s := s) (way := nI k) (next := next) (md := sz) O2 how b62 (by rw [ez2, va_up_self, pk_us]) h0 (by omega) (by omega) g1 (by omega) (by omega)
    refine ⟨z3, ?_, ?_, fun a ha h52 => by rw [k3 a ha h52, n2' a h52, n1 a (by omega)], fun j h13 h19 => by rw [k4 j h19, n52 j h13]⟩
    · obtain ⟨g, hg⟩ : ∃ g, f - sz = g + 1 := ⟨f - sz - 1, by omega⟩
      rw [hg] at s2
      have y0 : nI sz ≤ nI (0 + sz) := nI_le (by omega) (by omega)
      have y1 : z1 52 12 = nI sz := by rw [n1 52 (by omega)]; exact h12
      have s3 : B_95_28 f f 52 (nI k) next 0 (hq z w c s) = some (.inl none, hq z3 w c s) := by
        refine Eq.trans s2 ?_
        simp only [B_95_28, y0, y1, ← ez2, k1, dg_1, db_1, db_0, dl_1, dp_1, dv_1, dv_x, di_1, di_x, dw_1, ec_eq, ec_ne, ec_lt, ec_ge, ec_gt, ec_le, hq_z, hq_wz, hq_wc, hq_thr, hq_p29, hq_pw, eq_self, decide_true, decide_false, not_true_eq_false, not_false_eq_true, kq_0, kq_1, kq_2, kq_3, kq_4, kq_5, kq_6, kq_7, kq_8, kq_9, kq_10, kq_11, kq_12, kq_13, kq_14, kq_15, kq_16, kq_17, kq_18, kq_19, kq_20, kq_21, kq_22, kq_23, kq_24, kq_25, kq_26, kq_27, kq_28, kq_29, kq_30, kq_31, kq_32, kq_33, kq_34, kq_35, kq_36, kq_37, kq_38, kq_39, kq_40, kq_41, kq_42, kq_43, kq_44, kq_45, kq_46, kq_47, kq_48, kq_49, kq_50, kq_51, kq_52, kq_53, kq_54, kq_55, kq_56, kq_57, kq_58, kq_59, kq_60, kq_61, kq_62, kq_63, kq_64, kq_65, kq_66, kq_67, kq_68, kq_69, kq_70, kq_71, kq_72, kq_73, kq_74, kq_75, kq_76, kq_77, kq_78, kq_79, kq_80, kq_81, pq_0_0, pq_0_1, pq_0_2, pq_0_3, pq_0_4, pq_0_5, pq_0_6, pq_0_7, pq_1_0, pq_1_1, pq_1_2, pq_1_3, pq_1_4, pq_1_5, pq_1_6, pq_1_7, pq_10_0, pq_10_1, pq_10_2, pq_10_3, pq_15_0, pq_17_0, pq_19_0, pq_21_0, pq_21_1, pq_21_2, pq_21_3, pq_21_4, pq_21_5, pq_28_0, pq_30_0, pq_30_1, pq_30_2, pq_31_0, pq_35_0, pq_35_1, pq_35_2, pq_36_0, pq_40_0, pq_40_1, pq_40_2, pq_41_0, pq_45_0, pq_45_1, pq_45_2, pq_46_0, pq_50_0, pq_52_0, pq_52_1, pq_52_2, pq_52_3, pq_52_4, pq_52_5, pq_52_6, pq_52_8, pq_52_10, pq_52_11, pq_52_14, pq_52_15, pq_52_16, pq_52_17, pq_52_18, pq_52_27, pq_52_29, pq_52_30, pq_52_31, pq_52_32, pq_52_33, pq_52_34, pq_52_35, pq_52_36, pq_52_37, pq_52_38, pq_52_39, pq_52_40, pq_52_41, aq_1, aq_11, aq_12, aq_13, aq_14, aq_16, aq_18, aq_20, aq_22, aq_23, aq_24, aq_25, aq_26, aq_27, aq_29, aq_32, aq_33, aq_34, aq_37, aq_38, aq_39, aq_42, aq_43, aq_44, aq_47, aq_48, aq_49, aq_51, aq_53, aq_54, aq_55, aq_56, aq_57, aq_58, aq_59, aq_60, aq_61, aq_62, aq_63, aq_64, aq_65, aq_66, aq_67, aq_68, aq_69, aq_70, aq_71, aq_72, aq_73, aq_74, aq_75, aq_76, aq_77, aq_78, aq_79, aq_80, aq_81]
      simp only [F_95, i0, c0, h12, h54, i8, c8', h', s3, dg_1, db_1, db_0, dl_1, dp_1, dv_1, dv_x, di_1, di_x, dw_1, ec_eq, ec_ne, ec_lt, ec_ge, ec_gt, ec_le, hq_z, hq_wz, hq_wc, hq_thr, hq_p29, hq_pw, eq_self, decide_true, decide_false, not_true_eq_false, not_false_eq_true, kq_0, kq_1, kq_2, kq_3, kq_4, kq_5, kq_6, kq_7, kq_8, kq_9, kq_10, kq_11, kq_12, kq_13, kq_14, kq_15, kq_16, kq_17, kq_18, kq_19, kq_20, kq_21, kq_22, kq_23, kq_24, kq_25, kq_26, kq_27, kq_28, kq_29, kq_30, kq_31, kq_32, kq_33, kq_34, kq_35, kq_36, kq_37, kq_38, kq_39, kq_40, kq_41, kq_42, kq_43, kq_44, kq_45, kq_46, kq_47, kq_48, kq_49, kq_50, kq_51, kq_52, kq_53, kq_54, kq_55, kq_56, kq_57, kq_58, kq_59, kq_60, kq_61, kq_62, kq_63, kq_64, kq_65, kq_66, kq_67, kq_68, kq_69, kq_70, kq_71, kq_72, kq_73, kq_74, kq_75, kq_76, kq_77, kq_78, kq_79, kq_80, kq_81, pq_0_0, pq_0_1, pq_0_2, pq_0_3, pq_0_4, pq_0_5, pq_0_6, pq_0_7, pq_1_0, pq_1_1, pq_1_2, pq_1_3, pq_1_4, pq_1_5, pq_1_6, pq_1_7, pq_10_0, pq_10_1, pq_10_2, pq_10_3, pq_15_0, pq_17_0, pq_19_0, pq_21_0, pq_21_1, pq_21_2, pq_21_3, pq_21_4, pq_21_5, pq_28_0, pq_30_0, pq_30_1, pq_30_2, pq_31_0, pq_35_0, pq_35_1, pq_35_2, pq_36_0, pq_40_0, pq_40_1, pq_40_2, pq_41_0, pq_45_0, pq_45_1, pq_45_2, pq_46_0, pq_50_0, pq_52_0, pq_52_1, pq_52_2, pq_52_3, pq_52_4, pq_52_5, pq_52_6, pq_52_8, pq_52_10, pq_52_11, pq_52_14, pq_52_15, pq_52_16, pq_52_17, pq_52_18, pq_52_27, pq_52_29, pq_52_30, pq_52_31, pq_52_32, pq_52_33, pq_52_34, pq_52_35, pq_52_36, pq_52_37, pq_52_38, pq_52_39, pq_52_40, pq_52_41, aq_1, aq_11, aq_12, aq_13, aq_14, aq_16, aq_18, aq_20, aq_22, aq_23, aq_24, aq_25, aq_26, aq_27, aq_29, aq_32, aq_33, aq_34, aq_37, aq_38, aq_39, aq_42, aq_43, aq_44, aq_47, aq_48, aq_49, aq_51, aq_53, aq_54, aq_55, aq_56, aq_57, aq_58, aq_59, aq_60, aq_61, aq_62, aq_63, aq_64, aq_65, aq_66, aq_67, aq_68, aq_69, aq_70, aq_71, aq_72, aq_73, aq_74, aq_75, aq_76, aq_77, aq_78, aq_79, aq_80, aq_81]
    · have es : sdS S P data m (nI k) next = emS S sz (nI k) next (fin P sz) := by
        unfold sdS sdL
        rw [ep, if_pos (Nat.le_refl _), ← hsz]
        apply em_eq
        intro i hi2
        unfold pcB
        rw [ep, if_neg (by omega), show (0 : Nat) / 8 = 0 from rfl, cut_0, ← hsz]
        apply fin_c
        · rw [hl_u2 (by omega), hl_p2 (by omega)]; exact h0
        · rw [hl_u2 (by omega), hl_p2 (by omega)]; omega
        · intro j hj
          have hb6 := hP.1 6
          have hb7 := hP.1 7
          have hh : hp2 P P (hl P) (hl P + 0) j = P j := by
            unfold hp2
            by_cases hx : j < hl P
            · rw [if_pos hx]
            · rw [if_neg hx]; exact congrArg P (by omega)
          unfold bu2 b1
          by_cases h1 : j = 6 + 1
          · subst h1; rw [if_pos rfl]; show (P 6 * 256 + P 7) % 256 = P 7; omega
          · rw [if_neg h1]
            by_cases h2 : j = 6
            · subst h2; rw [if_pos rfl]; show (P 6 * 256 + P 7) / 256 % 256 = P 6; omega
            · rw [if_neg h2]; exact hh
        · exact hi2
      rw [es]; exact k2
  · -- in pieces
    have h' : nI m < nI sz := nI_lt (by omega) (by omega)
    have q89 : F_89 f 61 6 (hq z w c s) = some (.inl (some (.int (nI (n2 P 6)))), hq z w c s) := n89 (t := 6) kq_61 hP h4100 (by omega) (by omega)
    obtain ⟨F, hF⟩ : ∃ F, f = F + 1 := ⟨f - 1, by omega⟩
    have s2 := lp_95b (f := f) (w := w) (c := c) (s := s) (C := B_95_89 f F) (l1 := nI k) (l2 := next) (l3 := hl P) (l4 := nI (n2 P 6)) (l5 := nI (hl P)) (l6 := 1) (by omega) (hl P) 0 (f - hl P) z (by omega)
    rw [show f - hl P + hl P = f by omega] at s2
    obtain ⟨z1, ez1⟩ : ∃ x, x = cpz z 62 61 (0 + 0) (0 + 0) (hl P) := ⟨_, rfl⟩
    rw [← ez1] at s2
    have n1 : ∀ a, a ≠ 62 → z1 a = z a := fun a ha => by rw [ez1]; exact cpz_ne ha
    have b62 : mb z1 62 (hl P) P := ⟨hP.1, fun i hi => by rw [ez1, cpz_at, if_pos (by omega), show 0 + 0 + (i - (0 + 0)) = i by omega]; exact hP.2 i (by omega)⟩
    obtain ⟨g', hg⟩ : ∃ g', f - hl P = g' + 1 := ⟨f - hl P - 1, by omega⟩
    rw [hg] at s2
    have y0 : nI (hl P) ≤ nI (0 + hl P) := nI_le (by omega) (by omega)
    have O1 : OM S z1 := by
      obtain ⟨a1, a2, a3⟩ := hO
      refine ⟨?_, ?_, ?_⟩
      · rw [n1 52 (by omega)]; exact a1
      · rw [n1 64 (by omega), n1 65 (by omega), n1 66 (by omega), n1 67 (by omega)]; exact a2
      · rw [n1 63 (by omega)]; exact a3
    obtain ⟨z3, k1, k2, k3, k4⟩ := m95_p (f := f) (w := w) (c := c) (s := s) (next := next) (C := B_95_89 f F) (d := 0) (data := data) (m := m) (H := P) (n := hl P) hk (P := P) (sz := sz) (z := z1) ⟨hP.1, fun i hi => by rw [n1 61 (by omega)]; exact hP.2 i hi⟩ hsz h4100 (by rw [n1 52 (by omega)]; exact h12) (by rw [n1 54 (by omega)]; exact h54) b62 rfl h0 hl6 (by omega) hm hm2 O1 how g1 g2 (by omega) (by omega)
    obtain ⟨z4, t1, t2, t3, t4⟩ := m95_l (f := f) (w := w) (c := c) (s := s) (next := next) (k := k) hc hk rfl h0 hsz h4100 hm hm2 hw hcut (by omega) 5000 (ptN (hl P) 0 data m) 1 _ F z3 (by omega) (by omega) ⟨hP.1, fun i hi => by rw [k3 61 (by omega) (by omega), n1 61 (by omega)]; exact hP.2 i hi⟩ (by rw [k4 12 (by omega) (by omega), n1 52 (by omega)]; exact h12) (by rw [k3 54 (by omega) (by omega), n1 54 (by omega)]; exact h54) k2 hi
    refine ⟨z4, ?_, t2, fun a ha h52 => by rw [t3 a ha h52, k3 a ha h52, n1 a (by omega)], fun j h13 h19 => by rw [t4 j h13 h19, k4 j h13 h19, n1 52 (by omega)]⟩
    have e1 : ¬ nI sz ≤ nI (hl P) := nI_ge (by omega) (by omega)
    have s3 : B_95_101 f (B_95_89 f F) f 52 (nI k) next (nI (hl P)) (nI (n2 P 6)) (nI (hl P)) 1 0 (hq z w c s) = some (.inl none, hq z4 w c s) := by
      refine Eq.trans s2 ?_
      rw [← t1, ← (show 0 + ptN (hl P) 0 data m = ptN (hl P) 0 data m by omega), ← k1]
      simp only [B_95_101, y0, show ¬ (1 : Int32) = 0 by decide, Nat.add_zero, dg_1, db_1, db_0, dl_1, dp_1, dv_1, dv_x, di_1, di_x, dw_1, ec_eq, ec_ne, ec_lt, ec_ge, ec_gt, ec_le, hq_z, hq_wz, hq_wc, hq_thr, hq_p29, hq_pw, eq_self, decide_true, decide_false, not_true_eq_false, not_false_eq_true, kq_0, kq_1, kq_2, kq_3, kq_4, kq_5, kq_6, kq_7, kq_8, kq_9, kq_10, kq_11, kq_12, kq_13, kq_14, kq_15, kq_16, kq_17, kq_18, kq_19, kq_20, kq_21, kq_22, kq_23, kq_24, kq_25, kq_26, kq_27, kq_28, kq_29, kq_30, kq_31, kq_32, kq_33, kq_34, kq_35, kq_36, kq_37, kq_38, kq_39, kq_40, kq_41, kq_42, kq_43, kq_44, kq_45, kq_46, kq_47, kq_48, kq_49, kq_50, kq_51, kq_52, kq_53, kq_54, kq_55, kq_56, kq_57, kq_58, kq_59, kq_60, kq_61, kq_62, kq_63, kq_64, kq_65, kq_66, kq_67, kq_68, kq_69, kq_70, kq_71, kq_72, kq_73, kq_74, kq_75, kq_76, kq_77, kq_78, kq_79, kq_80, kq_81, pq_0_0, pq_0_1, pq_0_2, pq_0_3, pq_0_4, pq_0_5, pq_0_6, pq_0_7, pq_1_0, pq_1_1, pq_1_2, pq_1_3, pq_1_4, pq_1_5, pq_1_6, pq_1_7, pq_10_0, pq_10_1, pq_10_2, pq_10_3, pq_15_0, pq_17_0, pq_19_0, pq_21_0, pq_21_1, pq_21_2, pq_21_3, pq_21_4, pq_21_5, pq_28_0, pq_30_0, pq_30_1, pq_30_2, pq_31_0, pq_35_0, pq_35_1, pq_35_2, pq_36_0, pq_40_0, pq_40_1, pq_40_2, pq_41_0, pq_45_0, pq_45_1, pq_45_2, pq_46_0, pq_50_0, pq_52_0, pq_52_1, pq_52_2, pq_52_3, pq_52_4, pq_52_5, pq_52_6, pq_52_8, pq_52_10, pq_52_11, pq_52_14, pq_52_15, pq_52_16, pq_52_17, pq_52_18, pq_52_27, pq_52_29, pq_52_30, pq_52_31, pq_52_32, pq_52_33, pq_52_34, pq_52_35, pq_52_36, pq_52_37, pq_52_38, pq_52_39, pq_52_40, pq_52_41, aq_1, aq_11, aq_12, aq_13, aq_14, aq_16, aq_18, aq_20, aq_22, aq_23, aq_24, aq_25, aq_26, aq_27, aq_29, aq_32, aq_33, aq_34, aq_37, aq_38, aq_39, aq_42, aq_43, aq_44, aq_47, aq_48, aq_49, aq_51, aq_53, aq_54, aq_55, aq_56, aq_57, aq_58, aq_59, aq_60, aq_61, aq_62, aq_63, aq_64, aq_65, aq_66, aq_67, aq_68, aq_69, aq_70, aq_71, aq_72, aq_73, aq_74, aq_75, aq_76, aq_77, aq_78, aq_79, aq_80, aq_81]
    have s4 : B_95_89 f f 52 (nI k) next (nI (hl P)) (nI (n2 P 6)) (nI (hl P)) 1 (hq z w c s) = some (.inl none, hq z4 w c s) := by
      rw [show B_95_89 f f = B_95_89 f (F + 1) by rw [← hF]]
      simp only [B_95_89, h12, e1, s3, dg_1, db_1, db_0, dl_1, dp_1, dv_1, dv_x, di_1, di_x, dw_1, ec_eq, ec_ne, ec_lt, ec_ge, ec_gt, ec_le, hq_z, hq_wz, hq_wc, hq_thr, hq_p29, hq_pw, eq_self, decide_true, decide_false, not_true_eq_false, not_false_eq_true, kq_0, kq_1, kq_2, kq_3, kq_4, kq_5, kq_6, kq_7, kq_8, kq_9, kq_10, kq_11, kq_12, kq_13, kq_14, kq_15, kq_16, kq_17, kq_18, kq_19, kq_20, kq_21, kq_22, kq_23, kq_24, kq_25, kq_26, kq_27, kq_28, kq_29, kq_30, kq_31, kq_32, kq_33, kq_34, kq_35, kq_36, kq_37, kq_38, kq_39, kq_40, kq_41, kq_42, kq_43, kq_44, kq_45, kq_46, kq_47, kq_48, kq_49, kq_50, kq_51, kq_52, kq_53, kq_54, kq_55, kq_56, kq_57, kq_58, kq_59, kq_60, kq_61, kq_62, kq_63, kq_64, kq_65, kq_66, kq_67, kq_68, kq_69, kq_70, kq_71, kq_72, kq_73, kq_74, kq_75, kq_76, kq_77, kq_78, kq_79, kq_80, kq_81, pq_0_0, pq_0_1, pq_0_2, pq_0_3, pq_0_4, pq_0_5, pq_0_6, pq_0_7, pq_1_0, pq_1_1, pq_1_2, pq_1_3, pq_1_4, pq_1_5, pq_1_6, pq_1_7, pq_10_0, pq_10_1, pq_10_2, pq_10_3, pq_15_0, pq_17_0, pq_19_0, pq_21_0, pq_21_1, pq_21_2, pq_21_3, pq_21_4, pq_21_5, pq_28_0, pq_30_0, pq_30_1, pq_30_2, pq_31_0, pq_35_0, pq_35_1, pq_35_2, pq_36_0, pq_40_0, pq_40_1, pq_40_2, pq_41_0, pq_45_0, pq_45_1, pq_45_2, pq_46_0, pq_50_0, pq_52_0, pq_52_1, pq_52_2, pq_52_3, pq_52_4, pq_52_5, pq_52_6, pq_52_8, pq_52_10, pq_52_11, pq_52_14, pq_52_15, pq_52_16, pq_52_17, pq_52_18, pq_52_27, pq_52_29, pq_52_30, pq_52_31, pq_52_32, pq_52_33, pq_52_34, pq_52_35, pq_52_36, pq_52_37, pq_52_38, pq_52_39, pq_52_40, pq_52_41, aq_1, aq_11, aq_12, aq_13, aq_14, aq_16, aq_18, aq_20, aq_22, aq_23, aq_24, aq_25, aq_26, aq_27, aq_29, aq_32, aq_33, aq_34, aq_37, aq_38, aq_39, aq_42, aq_43, aq_44, aq_47, aq_48, aq_49, aq_51, aq_53, aq_54, aq_55, aq_56, aq_57, aq_58, aq_59, aq_60, aq_61, aq_62, aq_63, aq_64, aq_65, aq_66, aq_67, aq_68, aq_69, aq_70, aq_71, aq_72, aq_73, aq_74, aq_75, aq_76, aq_77, aq_78, aq_79, aq_80, aq_81]
    simp only [F_95, i0, c0, v0, e15, hm4, h12, h54, i8, c8', h', q89, s4, dg_1, db_1, db_0, dl_1, dp_1, dv_1, dv_x, di_1, di_x, dw_1, ec_eq, ec_ne, ec_lt, ec_ge, ec_gt, ec_le, hq_z, hq_wz, hq_wc, hq_thr, hq_p29, hq_pw, eq_self, decide_true, decide_false, not_true_eq_false, not_false_eq_true, kq_0, kq_1, kq_2, kq_3, kq_4, kq_5, kq_6, kq_7, kq_8, kq_9, kq_10, kq_11, kq_12, kq_13, kq_14, kq_15, kq_16, kq_17, kq_18, kq_19, kq_20, kq_21, kq_22, kq_23, kq_24, kq_25, kq_26, kq_27, kq_28, kq_29, kq_30, kq_31, kq_32, kq_33, kq_34, kq_35, kq_36, kq_37, kq_38, kq_39, kq_40, kq_41, kq_42, kq_43, kq_44, kq_45, kq_46, kq_47, kq_48, kq_49, kq_50, kq_51, kq_52, kq_53, kq_54, kq_55, kq_56, kq_57, kq_58, kq_59, kq_60, kq_61, kq_62, kq_63, kq_64, kq_65, kq_66, kq_67, kq_68, kq_69, kq_70, kq_71, kq_72, kq_73, kq_74, kq_75, kq_76, kq_77, kq_78, kq_79, kq_80, kq_81, pq_0_0, pq_0_1, pq_0_2, pq_0_3, pq_0_4, pq_0_5, pq_0_6, pq_0_7, pq_1_0, pq_1_1, pq_1_2, pq_1_3, pq_1_4, pq_1_5, pq_1_6, pq_1_7, pq_10_0, pq_10_1, pq_10_2, pq_10_3, pq_15_0, pq_17_0, pq_19_0, pq_21_0, pq_21_1, pq_21_2, pq_21_3, pq_21_4, pq_21_5, pq_28_0, pq_30_0, pq_30_1, pq_30_2, pq_31_0, pq_35_0, pq_35_1, pq_35_2, pq_36_0, pq_40_0, pq_40_1, pq_40_2, pq_41_0, pq_45_0, pq_45_1, pq_45_2, pq_46_0, pq_50_0, pq_52_0, pq_52_1, pq_52_2, pq_52_3, pq_52_4, pq_52_5, pq_52_6, pq_52_8, pq_52_10, pq_52_11, pq_52_14, pq_52_15, pq_52_16, pq_52_17, pq_52_18, pq_52_27, pq_52_29, pq_52_30, pq_52_31, pq_52_32, pq_52_33, pq_52_34, pq_52_35, pq_52_36, pq_52_37, pq_52_38, pq_52_39, pq_52_40, pq_52_41, aq_1, aq_11, aq_12, aq_13, aq_14, aq_16, aq_18, aq_20, aq_22, aq_23, aq_24, aq_25, aq_26, aq_27, aq_29, aq_32, aq_33, aq_34, aq_37, aq_38, aq_39, aq_42, aq_43, aq_44, aq_47, aq_48, aq_49, aq_51, aq_53, aq_54, aq_55, aq_56, aq_57, aq_58, aq_59, aq_60, aq_61, aq_62, aq_63, aq_64, aq_65, aq_66, aq_67, aq_68, aq_69, aq_70, aq_71, aq_72, aq_73, aq_74, aq_75, aq_76, aq_77, aq_78, aq_79, aq_80, aq_81]
end Send63
