-- a packet is sent, in pieces if it must: the class
section Send62
def sdL (P H : Nat → Nat) (n data m : Nat) (way next : Int32) : Nat → Nat → St9 → St9
  | 0, _, S => S
  | g + 1, d, S => if data ≤ d then S else sdL P H n data m way next g (d + ptN n d data m) (emS S (n + ptN n d data m) way next (pcB H P n d data m))
def sdS (S : St9) (P : Nat → Nat) (data m : Nat) (way next : Int32) : St9 := sdL P (LH P) (ll P) data m way next 5000 (ptN (hl P) 0 data m) (emS S (hl P + ptN (hl P) 0 data m) way next (pcB P P (hl P) 0 data m))
-- room for the pieces
def capS (c2 c11 h pm data : Nat) : Prop := ∀ k, k = 0 ∨ k * pm < data → c2 + k < 50 ∧ c11 + (k + 1) * h + data ≤ 5000
theorem ptN_b {n d data m : Nat} (hn : n ≤ 60) (hm : 100 ≤ m) (hd : d < data) : 40 ≤ ptN n d data m ∨ d + ptN n d data m = data := by
  unfold ptN; split <;> omega
theorem ptN_le {n d data m : Nat} (hd : d ≤ data) : d + ptN n d data m ≤ data := by
  unfold ptN; split <;> omega
theorem ptN_m {n d data m h : Nat} (hn : n ≤ h) (hd : d ≤ data) : (m - h) / 8 * 8 ≤ ptN n d data m ∨ d + ptN n d data m = data := by
  unfold ptN; split
  · omega
  · exact Or.inl (Nat.mul_le_mul_right 8 (Nat.div_le_div_right (by omega)))
variable {S : St9} {way next : Int32} {P H : Nat → Nat} {w : Nat → Option Nat} {f c s a r N M NH n data m b c2 c11 : Nat}
-- what holds of the state between two pieces
def invS (S : St9) (c2 c11 h pm data d k : Nat) : Prop := d ≤ data ∧ 1 ≤ k ∧ (k * pm ≤ d ∨ d = data) ∧ cn S 2 = c2 + k ∧ cn S 11 ≤ c11 + k * h + d ∧ ow S
theorem inv_s {L h d k pt : Nat} {Q : Nat → Nat} (hc : capS c2 c11 h ((m - h) / 8 * 8) data) (hi : invS S c2 c11 h ((m - h) / 8 * 8) data d k) (hd : d < data) (hn : n ≤ h) (hh : h ≤ 60) (hm : 100 ≤ m) (hm2 : m ≤ 1500) (hpt : pt = ptN n d data m) : cn S 2 < 50 ∧ cn S 11 + (n + pt) ≤ 5000 ∧ invS (emS S (n + pt) way next Q) c2 c11 h ((m - h) / 8 * 8) data (d + pt) (k + 1) := by
  obtain ⟨i1, i2, i3, i4, i5, i6⟩ := hi
  have h1 := hc k (Or.inr (by omega))
  have h2 := ptN_m (n := n) (h := h) (m := m) hn i1
  have h3 := ptN_le (n := n) (m := m) i1
  rw [← hpt] at h2 h3
  have h4 : n + pt ≤ m := by rw [hpt]; unfold ptN; split <;> omega
  have e1 : (k + 1) * h = k * h + h := Nat.succ_mul k h
  have e2 : (k + 1) * ((m - h) / 8 * 8) = k * ((m - h) / 8 * 8) + (m - h) / 8 * 8 := Nat.succ_mul k _
  have g1 : cn S 2 < 50 := by omega
  have g2 : cn S 11 + (n + pt) ≤ 5000 := by omega
  refine ⟨g1, g2, h3, by omega, by omega, ?_, ?_, em_ow i6 g1 g2 (by omega)⟩
  · rw [em_c2 g1, i4]; omega
  · rw [em_c11 g2]; omega
theorem sdL_ow {h : Nat} (hc : capS c2 c11 h ((m - h) / 8 * 8) data) (hn : n ≤ h) (hh : h ≤ 60) (hm : 100 ≤ m) (hm2 : m ≤ 1500) : ∀ (g d k : Nat) (S : St9), invS S c2 c11 h ((m - h) / 8 * 8) data d k → (∀ i, b ≤ i → i < cn S 2 → S 11 i = way ∧ S 12 i = next) → ow (sdL P H n data m way next g d S) ∧ (∀ i, b ≤ i → i < cn (sdL P H n data m way next g d S) 2 → sdL P H n data m way next g d S 11 i = way ∧ sdL P H n data m way next g d S 12 i = next) ∧ (∀ k, k ≠ 3 → k < 9 ∨ 13 < k → sdL P H n data m way next g d S k = S k) ∧ (∀ k, k ≠ 2 → k ≠ 11 → sdL P H n data m way next g d S 3 k = S 3 k) := by
  intro g
  induction g with
  | zero => intro d k S hi hw; exact ⟨hi.2.2.2.2.2, hw, fun _ _ _ => rfl, fun _ _ _ => rfl⟩
  | succ g ih =>
    intro d k S hi hw
    unfold sdL
    by_cases h1 : data ≤ d
    · simp only [h1, if_true]; exact ⟨hi.2.2.2.2.2, hw, fun _ _ _ => trivial, fun _ _ _ => trivial⟩
    · simp only [h1, if_false]
      have h2 := inv_s (way := way) (next := next) (Q := pcB H P n d data m) (L := 0) hc hi (by omega) hn hh hm hm2 rfl
      have h3 := ih (d + ptN n d data m) (k + 1) _ h2.2.2 (fun i hb hi2 => by
        rw [em_c2 h2.1] at hi2
        rw [em_11, em_12]
        by_cases h : i = cn S 2
        · subst h; rw [pk_us, pk_us]; exact ⟨rfl, rfl⟩
        · rw [pk_un h, pk_un h]; exact hw i hb (by omega))
      exact ⟨h3.1, h3.2.1, fun k hk hk2 => (h3.2.2.1 k hk hk2).trans (em_k hk hk2), fun k hk hk2 => (h3.2.2.2 k hk hk2).trans (em_3k hk hk2)⟩
theorem n4_l {h bf : Nat} (hc : capS c2 c11 h ((m - h) / 8 * 8) data) (hp : pk a r N) (hM : M ≤ N) (hN : N < 10000) (hr1 : r < 21) (hlP : hl P = h) (hh0 : 20 ≤ h) (hh : h ≤ 60) (hn : n ≤ h) (hn0 : 20 ≤ n) (hlH : hl H = n) (hdt : hl P + data ≤ M) (hm : 100 ≤ m) (hm2 : m ≤ 1500) (hb : b ≤ c2) (hcut : n2 P 6 % 8192 + data / 8 < 8192) (hf : 100 < f) : ∀ (gS d k : Nat) (S : St9) (gC : Nat) (z : Nat → Nat → Int32), data < d + gS → data < d + gC → cb z r M P → cb z 27 n H → (∀ i, br (z 27 i)) → (∀ i, br (z r i)) → OB S z b → invS S c2 c11 h ((m - h) / 8 * 8) data d k → ∃ z', B_4_48 f gC 21 a (nI m) way next (nI bf) (nI data) (nI d) (nI n) (nI k) (hq z w c s) = B_4_89 f 21 way next (nI bf) (hq z' w c s) ∧ OB (sdL P H n data m way next gS d S) z' b ∧ ∀ a, a < 21 ∨ 24 < a → z' a = z a := by
  intro gS
  induction gS with
  | zero => intro d k S gC z h1 h2 _ _ _ _ _ hi; have := hi.1; omega
  | succ gS ih =>
    intro d k S gC z h1 h2 hP hH b27 bP hO hi
    obtain ⟨g, rfl⟩ : ∃ g, gC = g + 1 := ⟨gC - 1, by have := hi.1; omega⟩
    have i1 := hi.1
    have i2 := hi.2.2.2.1
    have i6 := hi.2.2.2.2.2.1
    by_cases hd : data ≤ d
    · have e1 : nI data ≤ nI d := nI_le hd (by omega)
      refine ⟨z, ?_, ?_, fun _ _ => rfl⟩
      · have ek : k < 60 := by have := hi.2.2.2.2.2.1.2; omega
        by_cases h50 : 50 ≤ k
        · have h50' : (50 : Int32) ≤ nI k := nI_le (a := 50) h50 (by omega)
          simp only [B_4_48, ec_ge, h50', decide_true, db_1]
        · have h50' : ¬ (50 : Int32) ≤ nI k := nI_ge (b := 50) (by omega) (by omega)
          simp only [B_4_48, ec_ge, h50', decide_false, db_0, e1, decide_true, db_1]
      · unfold sdL; simp only [hd, if_true]; exact hO
    · have h3 := inv_s (way := way) (next := next) (Q := pcB H P n d data m) (L := 0) hc hi (by omega) hn hh hm hm2 rfl
      have e1 : ¬ nI data ≤ nI d := nI_ge (by omega) (by omega)
      have h50' : ¬ (50 : Int32) ≤ nI k := nI_ge (b := 50) (by omega) (by omega)
      have hd8 : d / 8 ≤ data / 8 := Nat.div_le_div_right i1
      obtain ⟨z1, g1, g2, g3⟩ := n5 (f := f) (w := w) (c := c) (s := s) (way := way) (next := next) (b := b) (d := d) (data := data) (m := m) hp hP hM hN (Or.inl hr1) (hr := 27) (NH := 60) (fun _ _ _ _ => kq_27) hH (by omega) (by omega) (by omega) b27 bP (Nat.le_refl n) hlH hn0 (by omega) i1 hdt hm hm2 hO hi.2.2.2.2.2 (by omega) h3.1 h3.2.1 (by omega) hf
      have p1 : 0 < ptN n d data m := by
        have := ptN_b (n := n) (d := d) (data := data) (m := m) (by omega) hm (by omega)
        omega
      obtain ⟨z2, k1, k2, k3⟩ := ih (d + ptN n d data m) (k + 1) _ g z1 (by omega) (by omega) ⟨hP.1, fun i hi => by rw [g3 r (by omega)]; exact hP.2 i hi⟩ ⟨hH.1, fun i hi => by rw [g3 27 (by omega)]; exact hH.2 i hi⟩ (by rw [g3 27 (by omega)]; exact b27) (by rw [g3 r (by omega)]; exact bP) g2 h3.2.2
      refine ⟨z2, ?_, ?_, fun a ha => by rw [k3 a ha, g3 a ha]⟩
      · simp only [B_4_48, h50', e1, g1, nI_add, nI_1, k1, dg_1, db_1, db_0, dl_1, dp_1, dv_1, dv_x, di_1, di_x, dw_1, ec_eq, ec_ne, ec_lt, ec_ge, ec_gt, ec_le, hq_z, hq_wz, hq_wc, hq_thr, hq_p29, hq_pw, eq_self, decide_true, decide_false, not_true_eq_false, not_false_eq_true, kq_0, kq_1, kq_2, kq_3, kq_4, kq_5, kq_6, kq_7, kq_8, kq_9, kq_10, kq_11, kq_12, kq_13, kq_14, kq_15, kq_16, kq_17, kq_18, kq_19, kq_20, kq_21, kq_22, kq_23, kq_24, kq_25, kq_26, kq_27, kq_28, kq_29, kq_30, kq_31, kq_32, kq_33, kq_34, kq_35, kq_36, kq_37, kq_38, kq_39, kq_40, kq_41, kq_42, kq_43, kq_44, kq_45, kq_46, kq_47, kq_48, kq_49, kq_50, kq_51, kq_52, kq_53, kq_54, kq_55, kq_56, kq_57, kq_58, kq_59, kq_60, kq_61, kq_62, kq_63, kq_64, kq_65, kq_66, kq_67, kq_68, kq_69, kq_70, kq_71, kq_72, kq_73, kq_74, kq_75, kq_76, kq_77, kq_78, kq_79, kq_80, kq_81, pq_0_0, pq_0_1, pq_0_2, pq_0_3, pq_0_4, pq_0_5, pq_0_6, pq_0_7, pq_1_0, pq_1_1, pq_1_2, pq_1_3, pq_1_4, pq_1_5, pq_1_6, pq_1_7, pq_10_0, pq_10_1, pq_10_2, pq_10_3, pq_15_0, pq_17_0, pq_19_0, pq_21_0, pq_21_1, pq_21_2, pq_21_3, pq_21_4, pq_21_5, pq_28_0, pq_30_0, pq_30_1, pq_30_2, pq_31_0, pq_35_0, pq_35_1, pq_35_2, pq_36_0, pq_40_0, pq_40_1, pq_40_2, pq_41_0, pq_45_0, pq_45_1, pq_45_2, pq_46_0, pq_50_0, pq_52_0, pq_52_1, pq_52_2, pq_52_3, pq_52_4, pq_52_5, pq_52_6, pq_52_8, pq_52_10, pq_52_11, pq_52_14, pq_52_15, pq_52_16, pq_52_17, pq_52_18, pq_52_27, pq_52_29, pq_52_30, pq_52_31, pq_52_32, pq_52_33, pq_52_34, pq_52_35, pq_52_36, pq_52_37, pq_52_38, pq_52_39, pq_52_40, pq_52_41, aq_1, aq_11, aq_12, aq_13, aq_14, aq_16, aq_18, aq_20, aq_22, aq_23, aq_24, aq_25, aq_26, aq_27, aq_29, aq_32, aq_33, aq_34, aq_37, aq_38, aq_39, aq_42, aq_43, aq_44, aq_47, aq_48, aq_49, aq_51, aq_53, aq_54, aq_55, aq_56, aq_57, aq_58, aq_59, aq_60, aq_61, aq_62, aq_63, aq_64, aq_65, aq_66, aq_67, aq_68, aq_69, aq_70, aq_71, aq_72, aq_73, aq_74, aq_75, aq_76, aq_77, aq_78, aq_79, aq_80, aq_81]
      · unfold sdL; simp only [hd, if_false]; exact k2
theorem n4_w {C : Nat} (hC : C ≤ 50) : ∀ (q i g : Nat) (z : Nat → Nat → Int32), z 21 6 = nI C → i + q = C → q < g → ∃ z', B_4_93 f g 21 way next (nI i) (hq z w c s) = some (.inl none, hq z' w c s) ∧ (∀ a, a ≠ 25 → a ≠ 26 → z' a = z a) ∧ ∀ j, z' 25 j = (if i ≤ j ∧ j < C then way else z 25 j) ∧ z' 26 j = (if i ≤ j ∧ j < C then next else z 26 j) := by
  intro q
  induction q with
  | zero =>
    intro i g z h6 h1 h2
    obtain ⟨g, rfl⟩ : ∃ g', g = g' + 1 := ⟨g - 1, by omega⟩
    have e1 : nI C ≤ nI i := nI_le (by omega) (by omega)
    refine ⟨z, ?_, fun _ _ _ => rfl, fun j => ⟨by rw [if_neg (by omega)], by rw [if_neg (by omega)]⟩⟩
    simp only [B_4_93, h6, e1, dg_1, db_1, db_0, dl_1, dp_1, dv_1, dv_x, di_1, di_x, dw_1, ec_eq, ec_ne, ec_lt, ec_ge, ec_gt, ec_le, hq_z, hq_wz, hq_wc, hq_thr, hq_p29, hq_pw, eq_self, decide_true, decide_false, not_true_eq_false, not_false_eq_true, kq_0, kq_1, kq_2, kq_3, kq_4, kq_5, kq_6, kq_7, kq_8, kq_9, kq_10, kq_11, kq_12, kq_13, kq_14, kq_15, kq_16, kq_17, kq_18, kq_19, kq_20, kq_21, kq_22, kq_23, kq_24, kq_25, kq_26, kq_27, kq_28, kq_29, kq_30, kq_31, kq_32, kq_33, kq_34, kq_35, kq_36, kq_37, kq_38, kq_39, kq_40, kq_41, kq_42, kq_43, kq_44, kq_45, kq_46, kq_47, kq_48, kq_49, kq_50, kq_51, kq_52, kq_53, kq_54, kq_55, kq_56, kq_57, kq_58, kq_59, kq_60, kq_61, kq_62, kq_63, kq_64, kq_65, kq_66, kq_67, kq_68, kq_69, kq_70, kq_71, kq_72, kq_73, kq_74, kq_75, kq_76, kq_77, kq_78, kq_79, kq_80, kq_81, pq_0_0, pq_0_1, pq_0_2, pq_0_3, pq_0_4, pq_0_5, pq_0_6, pq_0_7, pq_1_0, pq_1_1, pq_1_2, pq_1_3, pq_1_4, pq_1_5, pq_1_6, pq_1_7, pq_10_0, pq_10_1, pq_10_2, pq_10_3, pq_15_0, pq_17_0, pq_19_0, pq_21_0, pq_21_1, pq_21_2, pq_21_3, pq_21_4, pq_21_5, pq_28_0, pq_30_0, pq_30_1, pq_30_2, pq_31_0, pq_35_0, pq_35_1, pq_35_2, pq_36_0, pq_40_0, pq_40_1, pq_40_2, pq_41_0, pq_45_0, pq_45_1, pq_45_2, pq_46_0, pq_50_0, pq_52_0, pq_52_1, pq_52_2, pq_52_3, pq_52_4, pq_52_5, pq_52_6, pq_52_8, pq_52_10, pq_52_11, pq_52_14, pq_52_15, pq_52_16, pq_52_17, pq_52_18, pq_52_27, pq_52_29, pq_52_30, pq_52_31, pq_52_32, pq_52_33, pq_52_34, pq_52_35, pq_52_36, pq_52_37, pq_52_38, pq_52_39, pq_52_40, pq_52_41, aq_1, aq_11, aq_12, aq_13, aq_14, aq_16, aq_18, aq_20, aq_22, aq_23, aq_24, aq_25, aq_26, aq_27, aq_29, aq_32, aq_33, aq_34, aq_37, aq_38, aq_39, aq_42, aq_43, aq_44, aq_47, aq_48, aq_49, aq_51, aq_53, aq_54, aq_55, aq_56, aq_57, aq_58, aq_59, aq_60, aq_61, aq_62, aq_63, aq_64, aq_65, aq_66, aq_67, aq_68, aq_69, aq_70, aq_71, aq_72, aq_73, aq_74, aq_75, aq_76, aq_77, aq_78, aq_79, aq_80, aq_81]
  | succ q ih =>
    intro i g z h6 h1 h2
    obtain ⟨g, rfl⟩ : ∃ g', g = g' + 1 := ⟨g - 1, by omega⟩
    have e1 : ¬ nI C ≤ nI i := nI_ge (by omega) (by omega)
    have i1 : ev_in (nI i) 50 = true := ev_in_nI (by omega) (by omega)
    have i2 : (nI i).toNatClampNeg = i := nI_clamp (by omega)
    obtain ⟨z1, ez⟩ : ∃ x, x = va_up (va_up z 25 (upd (z 25) i way)) 26 (upd (z 26) i next) := ⟨_, rfl⟩
    have n1 : ∀ a, a ≠ 25 → a ≠ 26 → z1 a = z a := fun a h3 h4 => by rw [ez, va_up_ne _ _ h4, va_up_ne _ _ h3]
    obtain ⟨z2, g1, g2, g3⟩ := ih (i + 1) g z1 (by rw [n1 21 (by omega) (by omega)]; exact h6) (by omega) (by omega)
    refine ⟨z2, ?_, fun a h3 h4 => by rw [g2 a h3 h4, n1 a h3 h4], fun j => ?_⟩
    · rw [← g1, ez]
      simp (decide := true) only [B_4_93, h6, e1, i1, i2, nI_1, va_up_ne, dg_1, db_1, db_0, dl_1, dp_1, dv_1, dv_x, di_1, di_x, dw_1, ec_eq, ec_ne, ec_lt, ec_ge, ec_gt, ec_le, hq_z, hq_wz, hq_wc, hq_thr, hq_p29, hq_pw, eq_self, decide_true, decide_false, not_true_eq_false, not_false_eq_true, kq_0, kq_1, kq_2, kq_3, kq_4, kq_5, kq_6, kq_7, kq_8, kq_9, kq_10, kq_11, kq_12, kq_13, kq_14, kq_15, kq_16, kq_17, kq_18, kq_19, kq_20, kq_21, kq_22, kq_23, kq_24, kq_25, kq_26, kq_27, kq_28, kq_29, kq_30, kq_31, kq_32, kq_33, kq_34, kq_35, kq_36, kq_37, kq_38, kq_39, kq_40, kq_41, kq_42, kq_43, kq_44, kq_45, kq_46, kq_47, kq_48, kq_49, kq_50, kq_51, kq_52, kq_53, kq_54, kq_55, kq_56, kq_57, kq_58, kq_59, kq_60, kq_61, kq_62, kq_63, kq_64, kq_65, kq_66, kq_67, kq_68, kq_69, kq_70, kq_71, kq_72, kq_73, kq_74, kq_75, kq_76, kq_77, kq_78, kq_79, kq_80, kq_81, pq_0_0, pq_0_1, pq_0_2, pq_0_3, pq_0_4, pq_0_5, pq_0_6, pq_0_7, pq_1_0, pq_1_1, pq_1_2, pq_1_3, pq_1_4, pq_1_5, pq_1_6, pq_1_7, pq_10_0, pq_10_1, pq_10_2, pq_10_3, pq_15_0, pq_17_0, pq_19_0, pq_21_0, pq_21_1, pq_21_2, pq_21_3, pq_21_4, pq_21_5, pq_28_0, pq_30_0, pq_30_1, pq_30_2, pq_31_0, pq_35_0, pq_35_1, pq_35_2, pq_36_0, pq_40_0, pq_40_1, pq_40_2, pq_41_0, pq_45_0, pq_45_1, pq_45_2, pq_46_0, pq_50_0, pq_52_0, pq_52_1, pq_52_2, pq_52_3, pq_52_4, pq_52_5, pq_52_6, pq_52_8, pq_52_10, pq_52_11, pq_52_14, pq_52_15, pq_52_16, pq_52_17, pq_52_18, pq_52_27, pq_52_29, pq_52_30, pq_52_31, pq_52_32, pq_52_33, pq_52_34, pq_52_35, pq_52_36, pq_52_37, pq_52_38, pq_52_39, pq_52_40, pq_52_41, aq_1, aq_11, aq_12, aq_13, aq_14, aq_16, aq_18, aq_20, aq_22, aq_23, aq_24, aq_25, aq_26, aq_27, aq_29, aq_32, aq_33, aq_34, aq_37, aq_38, aq_39, aq_42, aq_43, aq_44, aq_47, aq_48, aq_49, aq_51, aq_53, aq_54, aq_55, aq_56, aq_57, aq_58, aq_59, aq_60, aq_61, aq_62, aq_63, aq_64, aq_65, aq_66, aq_67, aq_68, aq_69, aq_70, aq_71, aq_72, aq_73, aq_74, aq_75, aq_76, aq_77, aq_78, aq_79, aq_80, aq_81]
    · have t25 : z1 25 j = if j = i then way else z 25 j := by rw [ez, va_up_ne _ _ (by decide), va_up_self, upd_if]
      have t26 : z1 26 j = if j = i then next else z 26 j := by rw [ez, va_up_self, upd_if]
      rw [(g3 j).1, (g3 j).2, t25, t26]
      by_cases h : j = i
      · have h3 : ¬ (i + 1 ≤ j ∧ j < C) := by omega
        have h4 : i ≤ j ∧ j < C := by omega
        rw [if_neg h3, if_neg h3, if_pos h4, if_pos h4, if_pos h, if_pos h]; exact ⟨rfl, rfl⟩
      · by_cases h3 : i + 1 ≤ j ∧ j < C
        · have h4 : i ≤ j ∧ j < C := by omega
          rw [if_pos h3, if_pos h3, if_pos h4, if_pos h4]; exact ⟨rfl, rfl⟩
        · have h4 : ¬ (i ≤ j ∧ j < C) := by omega
          rw [if_neg h3, if_neg h3, if_neg h, if_neg h, if_neg h4, if_neg h4]; exact ⟨rfl, rfl⟩
theorem sdS_all {S : St9} (hc : capS (cn S 2) (cn S 11) (hl P) ((m - hl P) / 8 * 8) data) (how : ow S) (h0 : 20 ≤ hl P) (hm : 100 ≤ m) (hm2 : m ≤ 1500) : (cn S 2 < 50 ∧ cn S 11 + (hl P + ptN (hl P) 0 data m) ≤ 5000 ∧ invS (emS S (hl P + ptN (hl P) 0 data m) way next (pcB P P (hl P) 0 data m)) (cn S 2) (cn S 11) (hl P) ((m - hl P) / 8 * 8) data (ptN (hl P) 0 data m) 1) ∧ ow (sdS S P data m way next) ∧ (∀ i, cn S 2 ≤ i → i < cn (sdS S P data m way next) 2 → sdS S P data m way next 11 i = way ∧ sdS S P data m way next 12 i = next) ∧ (∀ k, k ≠ 3 → k < 9 ∨ 13 < k → sdS S P data m way next k = S k) ∧ (∀ k, k ≠ 2 → k ≠ 11 → sdS S P data m way next 3 k = S 3 k) := by
  have hl6 := hl_le P
  have hlb := ll_b h0
  have h1 := hc 0 (Or.inl rfl)
  have h3 := ptN_le (n := hl P) (d := 0) (data := data) (m := m) (by omega)
  have h2 := ptN_m (n := hl P) (h := hl P) (d := 0) (data := data) (m := m) (Nat.le_refl _) (by omega)
  have h4 : hl P + ptN (hl P) 0 data m ≤ m := by unfold ptN; split <;> omega
  have g1 : cn S 2 < 50 := by omega
  have g2 : cn S 11 + (hl P + ptN (hl P) 0 data m) ≤ 5000 := by omega
  have hi : invS (emS S (hl P + ptN (hl P) 0 data m) way next (pcB P P (hl P) 0 data m)) (cn S 2) (cn S 11) (hl P) ((m - hl P) / 8 * 8) data (ptN (hl P) 0 data m) 1 := by
    refine ⟨by omega, by omega, by omega, ?_, ?_, em_ow how g1 g2 (by omega)⟩
    · rw [em_c2 g1]
    · rw [em_c11 g2]; omega
  have h5 := sdL_ow (P := P) (H := LH P) (n := ll P) (way := way) (next := next) (b := cn S 2) hc hlb.2.2.1 hl6 hm hm2 5000 (ptN (hl P) 0 data m) 1 _ hi (fun i hb hi2 => by
    rw [em_c2 g1] at hi2
    have : i = cn S 2 := by omega
    subst this
    rw [em_11, em_12, pk_us, pk_us]; exact ⟨rfl, rfl⟩)
  exact ⟨⟨g1, g2, hi⟩, h5.1, h5.2.1, fun k hk hk2 => (h5.2.2.1 k hk hk2).trans (em_k hk hk2), fun k hk hk2 => (h5.2.2.2 k hk hk2).trans (em_3k hk hk2)⟩
theorem sdL_b {h : Nat} {C D : Int32} (hc : capS c2 c11 h ((m - h) / 8 * 8) data) (hn : n ≤ h) (hh : h ≤ 60) (hm : 100 ≤ m) (hm2 : m ≤ 1500) : ∀ (g d k : Nat) (S : St9) (i : Nat), invS S c2 c11 h ((m - h) / 8 * 8) data d k → i < c2 → S 11 i = C ∧ S 12 i = D → sdL P H n data m way next g d S 11 i = C ∧ sdL P H n data m way next g d S 12 i = D := by
  intro g
  induction g with
  | zero => intro d k S i hi h1 h2; exact h2
  | succ g ih =>
    intro d k S i hi h1 h2
    unfold sdL
    by_cases h3 : data ≤ d
    · simp only [h3, if_true]; exact h2
    · simp only [h3, if_false]
      have h4 := inv_s (way := way) (next := next) (Q := pcB H P n d data m) (L := 0) hc hi (by omega) hn hh hm hm2 rfl
      refine ih (d + ptN n d data m) (k + 1) _ i h4.2.2 h1 ?_
      have := hi.2.2.2.1
      rw [em_11, em_12, pk_un (by omega), pk_un (by omega)]; exact h2
theorem nS4 {z : Nat → Nat → Int32} (hp : pk a r N) (hP : cb z r M P) (bP : ∀ i, br (z r i)) (b27 : ∀ i, br (z 27 i)) (hM : M ≤ N) (hN : N < 10000) (hr1 : r < 21) (h0 : 20 ≤ hl P) (hlen : n2 P 2 = hl P + data) (hdt : hl P + data ≤ M) (hm : 100 ≤ m) (hm2 : m ≤ 1500) (hO : OB S z (cn S 2)) (how : ow S) (hc : capS (cn S 2) (cn S 11) (hl P) ((m - hl P) / 8 * 8) data) (hw : wo P = none) (hcut : n2 P 6 % 8192 + data / 8 < 8192) (hf : 10000 < f) : ∃ z', F_4 f 21 a (nI m) way next (hq z w c s) = some (.inl none, hq z' w c s) ∧ OB (sdS S P data m way next) z' (cn (sdS S P data m way next) 2) ∧ (∀ a, a < 21 ∨ 27 < a → z' a = z a) ∧ ∀ i, br (z' 27 i) := by
  have hl6 := hl_le P
  have hlb := ll_b h0
  have hcap0 := hc 0 (Or.inl rfl)
  obtain ⟨⟨g1, g2, hi⟩, o1, o2, o3, o4⟩ := sdS_all (way := way) (next := next) hc how h0 hm hm2
  have q10 := n10 (f := f) (w := w) (c := c) (s := s) hp hP hM hN (by omega) (by omega)
  rw [show n2 P 2 - hl P = data by omega] at q10
  have q8 := n8 (f := f) (w := w) (c := c) (s := s) hp hP hM hN (by omega)
  obtain ⟨z1, k1, k2, k3⟩ := n5 (f := f) (w := w) (c := c) (s := s) (way := way) (next := next) (b := cn S 2) (d := 0) (data := data) (m := m) (n := hl P) hp hP hM hN (Or.inl hr1) (hr := r) (NH := N) (fun _ _ _ _ => (hp _ _ _ _).2.2) hP hM hN (by omega) bP bP (by omega) rfl h0 h0 (by omega) hdt hm hm2 hO how (Nat.le_refl _) g1 g2 (by omega) (by omega)
  have k1' : F_5 f 21 a r (nI (hl P)) (0 : Int32) (nI data) (nI m) (hq z w c s) = some (.inl (some (.int (nI (ptN (hl P) 0 data m)))), hq z1 w c s) := k1
  have hz6 : z 21 6 = nI (cn S 2) := hO.1.trans how.1.1
  -- up to the loop that writes ways and nexts
  have key : ∃ z2, F_4 f 21 a (nI m) way next (hq z w c s) = B_4_89 f 21 way next (nI (cn S 2)) (hq z2 w c s) ∧ OB (sdS S P data m way next) z2 (cn S 2) ∧ (∀ a, a < 21 ∨ 27 < a → z2 a = z a) ∧ ∀ i, br (z2 27 i) := by
    by_cases hd : data ≤ ptN (hl P) 0 data m
    · have e1 : nI data ≤ nI (ptN (hl P) 0 data m) := nI_le hd (by omega)
      refine ⟨z1, ?_, ?_, fun a ha => k3 a (by omega), by rw [k3 27 (by omega)]; exact b27⟩
      · simp only [F_4, (hp _ _ _ _).1, (hp _ _ _ _).2.1, q10, q8, k1', e1, hz6, dg_1, db_1, db_0, dl_1, dp_1, dv_1, dv_x, di_1, di_x, dw_1, ec_eq, ec_ne, ec_lt, ec_ge, ec_gt, ec_le, hq_z, hq_wz, hq_wc, hq_thr, hq_p29, hq_pw, eq_self, decide_true, decide_false, not_true_eq_false, not_false_eq_true, kq_0, kq_1, kq_2, kq_3, kq_4, kq_5, kq_6, kq_7, kq_8, kq_9, kq_10, kq_11, kq_12, kq_13, kq_14, kq_15, kq_16, kq_17, kq_18, kq_19, kq_20, kq_21, kq_22, kq_23, kq_24, kq_25, kq_26, kq_27, kq_28, kq_29, kq_30, kq_31, kq_32, kq_33, kq_34, kq_35, kq_36, kq_37, kq_38, kq_39, kq_40, kq_41, kq_42, kq_43, kq_44, kq_45, kq_46, kq_47, kq_48, kq_49, kq_50, kq_51, kq_52, kq_53, kq_54, kq_55, kq_56, kq_57, kq_58, kq_59, kq_60, kq_61, kq_62, kq_63, kq_64, kq_65, kq_66, kq_67, kq_68, kq_69, kq_70, kq_71, kq_72, kq_73, kq_74, kq_75, kq_76, kq_77, kq_78, kq_79, kq_80, kq_81, pq_0_0, pq_0_1, pq_0_2, pq_0_3, pq_0_4, pq_0_5, pq_0_6, pq_0_7, pq_1_0, pq_1_1, pq_1_2, pq_1_3, pq_1_4, pq_1_5, pq_1_6, pq_1_7, pq_10_0, pq_10_1, pq_10_2, pq_10_3, pq_15_0, pq_17_0, pq_19_0, pq_21_0, pq_21_1, pq_21_2, pq_21_3, pq_21_4, pq_21_5, pq_28_0, pq_30_0, pq_30_1, pq_30_2, pq_31_0, pq_35_0, pq_35_1, pq_35_2, pq_36_0, pq_40_0, pq_40_1, pq_40_2, pq_41_0, pq_45_0, pq_45_1, pq_45_2, pq_46_0, pq_50_0, pq_52_0, pq_52_1, pq_52_2, pq_52_3, pq_52_4, pq_52_5, pq_52_6, pq_52_8, pq_52_10, pq_52_11, pq_52_14, pq_52_15, pq_52_16, pq_52_17, pq_52_18, pq_52_27, pq_52_29, pq_52_30, pq_52_31, pq_52_32, pq_52_33, pq_52_34, pq_52_35, pq_52_36, pq_52_37, pq_52_38, pq_52_39, pq_52_40, pq_52_41, aq_1, aq_11, aq_12, aq_13, aq_14, aq_16, aq_18, aq_20, aq_22, aq_23, aq_24, aq_25, aq_26, aq_27, aq_29, aq_32, aq_33, aq_34, aq_37, aq_38, aq_39, aq_42, aq_43, aq_44, aq_47, aq_48, aq_49, aq_51, aq_53, aq_54, aq_55, aq_56, aq_57, aq_58, aq_59, aq_60, aq_61, aq_62, aq_63, aq_64, aq_65, aq_66, aq_67, aq_68, aq_69, aq_70, aq_71, aq_72, aq_73, aq_74, aq_75, aq_76, aq_77, aq_78, aq_79, aq_80, aq_81]
      · unfold sdS sdL; simp only [hd, if_true]; exact k2
    · have e1 : ¬ nI data ≤ nI (ptN (hl P) 0 data m) := nI_ge (by omega) (by omega)
      have hP1 : cb z1 r M P := ⟨hP.1, fun i hi => by rw [k3 r (by omega)]; exact hP.2 i hi⟩
      obtain ⟨z2, j1, j2, j3, j4⟩ := n6 (f := f) (w := w) (c := c) (s := s) hp hP1 (by rw [k3 r (by omega)]; exact bP) (by rw [k3 27 (by omega)]; exact b27) hM hN (by omega) h0 (by omega) hw (by omega)
      have hO2 : OB (emS S (hl P + ptN (hl P) 0 data m) way next (pcB P P (hl P) 0 data m)) z2 (cn S 2) := by
        obtain ⟨x1, x2, x3, x4, x5, x6⟩ := k2
        refine ⟨by rw [j2 21 (by omega)]; exact x1, by rw [j2 21 (by omega)]; exact x2, ?_, ?_, ?_, ?_⟩
        · rw [j2 23 (by omega), j2 24 (by omega)]; exact x3
        · rw [j2 25 (by omega), j2 26 (by omega)]; exact x4
        · rw [j2 22 (by omega)]; exact x5
        · rw [j2 22 (by omega)]; exact x6
      obtain ⟨z3, l1, l2, l3⟩ := n4_l (f := f) (w := w) (c := c) (s := s) (way := way) (next := next) (b := cn S 2) (bf := cn S 2) (H := LH P) (n := ll P) hc hp hM hN hr1 rfl h0 hl6 hlb.2.2.1 (by omega) (hl_LH h0) hdt hm hm2 (Nat.le_refl _) hcut (by omega) 5000 (ptN (hl P) 0 data m) 1 _ f z2 (by omega) (by omega) ⟨hP.1, fun i hi => by rw [j2 r (by omega)]; exact hP1.2 i hi⟩ j3 j4 (by rw [j2 r (by omega), k3 r (by omega)]; exact bP) hO2 hi
      have l1' : B_4_48 f f 21 a (nI m) way next (nI (cn S 2)) (nI data) (nI (ptN (hl P) 0 data m)) (nI (ll P)) (1 : Int32) (hq z2 w c s) = B_4_89 f 21 way next (nI (cn S 2)) (hq z3 w c s) := l1
      refine ⟨z3, ?_, l2, fun a ha => by rw [l3 a (by omega), j2 a (by omega), k3 a (by omega)], by rw [l3 27 (by omega)]; exact j4⟩
      simp only [F_4, (hp _ _ _ _).1, (hp _ _ _ _).2.1, q10, q8, k1', e1, hz6, j1, l1', dg_1, db_1, db_0, dl_1, dp_1, dv_1, dv_x, di_1, di_x, dw_1, ec_eq, ec_ne, ec_lt, ec_ge, ec_gt, ec_le, hq_z, hq_wz, hq_wc, hq_thr, hq_p29, hq_pw, eq_self, decide_true, decide_false, not_true_eq_false, not_false_eq_true, kq_0, kq_1, kq_2, kq_3, kq_4, kq_5, kq_6, kq_7, kq_8, kq_9, kq_10, kq_11, kq_12, kq_13, kq_14, kq_15, kq_16, kq_17, kq_18, kq_19, kq_20, kq_21, kq_22, kq_23, kq_24, kq_25, kq_26, kq_27, kq_28, kq_29, kq_30, kq_31, kq_32, kq_33, kq_34, kq_35, kq_36, kq_37, kq_38, kq_39, kq_40, kq_41, kq_42, kq_43, kq_44, kq_45, kq_46, kq_47, kq_48, kq_49, kq_50, kq_51, kq_52, kq_53, kq_54, kq_55, kq_56, kq_57, kq_58, kq_59, kq_60, kq_61, kq_62, kq_63, kq_64, kq_65, kq_66, kq_67, kq_68, kq_69, kq_70, kq_71, kq_72, kq_73, kq_74, kq_75, kq_76, kq_77, kq_78, kq_79, kq_80, kq_81, pq_0_0, pq_0_1, pq_0_2, pq_0_3, pq_0_4, pq_0_5, pq_0_6, pq_0_7, pq_1_0, pq_1_1, pq_1_2, pq_1_3, pq_1_4, pq_1_5, pq_1_6, pq_1_7, pq_10_0, pq_10_1, pq_10_2, pq_10_3, pq_15_0, pq_17_0, pq_19_0, pq_21_0, pq_21_1, pq_21_2, pq_21_3, pq_21_4, pq_21_5, pq_28_0, pq_30_0, pq_30_1, pq_30_2, pq_31_0, pq_35_0, pq_35_1, pq_35_2, pq_36_0, pq_40_0, pq_40_1, pq_40_2, pq_41_0, pq_45_0, pq_45_1, pq_45_2, pq_46_0, pq_50_0, pq_52_0, pq_52_1, pq_52_2, pq_52_3, pq_52_4, pq_52_5, pq_52_6, pq_52_8, pq_52_10, pq_52_11, pq_52_14, pq_52_15, pq_52_16, pq_52_17, pq_52_18, pq_52_27, pq_52_29, pq_52_30, pq_52_31, pq_52_32, pq_52_33, pq_52_34, pq_52_35, pq_52_36, pq_52_37, pq_52_38, pq_52_39, pq_52_40, pq_52_41, aq_1, aq_11, aq_12, aq_13, aq_14, aq_16, aq_18, aq_20, aq_22, aq_23, aq_24, aq_25, aq_26, aq_27, aq_29, aq_32, aq_33, aq_34, aq_37, aq_38, aq_39, aq_42, aq_43, aq_44, aq_47, aq_48, aq_49, aq_51, aq_53, aq_54, aq_55, aq_56, aq_57, aq_58, aq_59, aq_60, aq_61, aq_62, aq_63, aq_64, aq_65, aq_66, aq_67, aq_68, aq_69, aq_70, aq_71, aq_72, aq_73, aq_74, aq_75, aq_76, aq_77, aq_78, aq_79, aq_80, aq_81]
  obtain ⟨z2, s1, s2, s3, s4⟩ := key
  obtain ⟨y1, y2, y3, y4, y5, y6⟩ := s2
  have hcn : cn S 2 ≤ cn (sdS S P data m way next) 2 := by
    apply Classical.byContradiction
    intro hh
    have hcap := hc 0 (Or.inl rfl)
    have hem := em_c2 (L := hl P + ptN (hl P) 0 data m) (way := way) (next := next) (P := pcB P P (hl P) 0 data m) g1
    have : ∀ (g d k : Nat) (T : St9), invS T (cn S 2) (cn S 11) (hl P) ((m - hl P) / 8 * 8) data d k → cn S 2 ≤ cn (sdL P (LH P) (ll P) data m way next g d T) 2 := by
      intro g
      induction g with
      | zero => intro d k T hT; unfold sdL; have := hT.2.2.2.1; omega
      | succ g ih =>
        intro d k T hT
        unfold sdL
        by_cases h3 : data ≤ d
        · simp only [h3, if_true]; have := hT.2.2.2.1; omega
        · simp only [h3, if_false]
          have h4 := inv_s (way := way) (next := next) (Q := pcB (LH P) P (ll P) d data m) (L := 0) hc hT (by omega) hlb.2.2.1 hl6 hm hm2 rfl
          exact ih _ _ _ h4.2.2
    exact hh (this 5000 _ _ _ hi)
  obtain ⟨z3, t1, t2, t3⟩ := n4_w (f := f) (w := w) (c := c) (s := s) (way := way) (next := next) o1.1.2 (cn (sdS S P data m way next) 2 - cn S 2) (cn S 2) f z2 (y1.trans o1.1.1) (by omega) (by have := o1.1.2; omega)
  refine ⟨z3, s1.trans t1, ⟨?_, ?_, ?_, ?_, ?_, ?_⟩, fun a ha => by rw [t2 a (by omega) (by omega), s3 a ha], by rw [t2 27 (by omega) (by omega)]; exact s4⟩
  · rw [t2 21 (by omega) (by omega)]; exact y1
  · rw [t2 21 (by omega) (by omega)]; exact y2
  · rw [t2 23 (by omega) (by omega), t2 24 (by omega) (by omega)]; exact y3
  · intro i hi2
    rw [(t3 i).1, (t3 i).2]
    by_cases h : cn S 2 ≤ i
    · rw [if_pos ⟨h, hi2⟩, if_pos ⟨h, hi2⟩, (o2 i h hi2).1, (o2 i h hi2).2]; exact ⟨rfl, rfl⟩
    · rw [if_neg (by omega), if_neg (by omega)]; exact y4 i (by omega)
  · rw [t2 22 (by omega) (by omega)]; exact y5
  · rw [t2 22 (by omega) (by omega)]; exact y6
end Send62
