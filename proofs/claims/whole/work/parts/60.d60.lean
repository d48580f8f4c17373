-- the header of all pieces but the first
section Later60
def lhF (B : Nat → Nat) (e : Nat) : Nat → Nat → Nat → (Nat → Nat) → (Nat → Nat) × Nat
  | 0, _, to, H => (H, to)
  | g + 1, t, to, H => if e ≤ t ∨ B t = 0 then (H, to) else if 128 ≤ B t then lhF B e g (t + opz B t e) (to + opz B t e) (fun i => if to ≤ i ∧ i < to + opz B t e then B (t + (i - to)) else H i) else lhF B e g (t + opz B t e) to H
def lh (B : Nat → Nat) : (Nat → Nat) × Nat := lhF B (hl B) 100 20 20 B
def ll (B : Nat → Nat) : Nat := ((lh B).2 + 3) / 4 * 4
def LH (B : Nat → Nat) : Nat → Nat := b1 (fun i => if (lh B).2 ≤ i then 0 else (lh B).1 i) 0 (64 + ll B / 4)
theorem lhF_le {B : Nat → Nat} {e : Nat} : ∀ (g t to : Nat) (H : Nat → Nat), to ≤ t → t ≤ e → to ≤ (lhF B e g t to H).2 ∧ (lhF B e g t to H).2 ≤ e := by
  intro g
  induction g with
  | zero => intro t to H h1 h2; exact ⟨Nat.le_refl _, Nat.le_trans h1 h2⟩
  | succ g ih =>
    intro t to H h1 h2
    unfold lhF
    by_cases h3 : e ≤ t ∨ B t = 0
    · rw [if_pos h3]; exact ⟨Nat.le_refl _, Nat.le_trans h1 h2⟩
    · rw [if_neg h3]
      have hz := opz_le (B := B) (t := t) (e := e) (by omega)
      by_cases h4 : 128 ≤ B t
      · rw [if_pos h4]
        have := ih (t + opz B t e) (to + opz B t e) (fun i => if to ≤ i ∧ i < to + opz B t e then B (t + (i - to)) else H i) (by omega) hz
        omega
      · rw [if_neg h4]; exact ih (t + opz B t e) to H (by omega) hz
theorem lhF_lt {B : Nat → Nat} {e : Nat} (hB : ∀ i, B i < 256) : ∀ (g t to : Nat) (H : Nat → Nat), (∀ i, H i < 256) → ∀ i, (lhF B e g t to H).1 i < 256 := by
  intro g
  induction g with
  | zero => intro t to H hH; exact hH
  | succ g ih =>
    intro t to H hH
    unfold lhF
    by_cases h3 : e ≤ t ∨ B t = 0
    · rw [if_pos h3]; exact hH
    · rw [if_neg h3]
      by_cases h4 : 128 ≤ B t
      · rw [if_pos h4]
        refine ih _ _ _ (fun i => ?_)
        show (if _ then _ else _) < 256
        split
        · exact hB _
        · exact hH _
      · rw [if_neg h4]; exact ih _ _ _ hH
theorem ll_b {B : Nat → Nat} (h : 20 ≤ hl B) : 20 ≤ (lh B).2 ∧ (lh B).2 ≤ hl B ∧ ll B ≤ hl B ∧ (lh B).2 ≤ ll B ∧ ll B % 4 = 0 ∧ ll B < (lh B).2 + 4 ∧ hl B ≤ 60 := by
  have h1 := lhF_le (B := B) (e := hl B) 100 20 20 B (by omega) h
  have h2 : hl B % 4 = 0 := by unfold hl; omega
  have h3 := hl_le B
  unfold ll
  unfold lh
  omega
theorem LH_lt {B : Nat → Nat} (hB : ∀ i, B i < 256) (h : 20 ≤ hl B) : ∀ i, LH B i < 256 := by
  have h1 := ll_b h
  refine b1_lt (fun i => ?_) (by omega)
  show (if _ then _ else _) < 256
  split
  · omega
  · exact lhF_lt hB 100 20 20 B hB i
theorem hl_LH {B : Nat → Nat} (h : 20 ≤ hl B) : hl (LH B) = ll B := by
  have h1 := ll_b h
  unfold hl LH b1
  rw [if_pos rfl]; omega
variable {B : Nat → Nat} {w : Nat → Option Nat} {f c s a r N M e : Nat}
theorem cb_ne {z : Nat → Nat → Int32} {r2 : Nat} {g : Nat → Int32} (h : r2 ≠ r) (hb : cb z r2 M B) : cb (va_up z r g) r2 M B := ⟨hb.1, fun i hi => by rw [va_up_ne _ _ h]; exact hb.2 i hi⟩
theorem n6_l (hp : pk a r N) (hM : M ≤ N) (hN : N < 10000) (hr27 : r ≠ 27) (he : e ≤ M) (he6 : e ≤ 60) : ∀ (gS t to : Nat) (H : Nat → Nat) (gC l5 : Nat) (z : Nat → Nat → Int32), cb z r M B → (∀ i, br (z r i)) → cb z 27 to H → (∀ i, br (z 27 i)) → to ≤ t → t ≤ e → e < t + gS → e < t + gC → 0 < l5 → l5 < 1000 → woN B e gS t = none → ∃ z', B_6_33 f gC 21 a r (nI e) (nI to) (nI l5) (nI t) (hq z w c s) = B_6_98 f f 21 (nI (lhF B e gS t to H).2) (hq z' w c s) ∧ (∀ a, a ≠ 27 → z' a = z a) ∧ cb z' 27 (lhF B e gS t to H).2 (lhF B e gS t to H).1 ∧ ∀ i, br (z' 27 i) := by
  intro gS
  induction gS with
  | zero => intro t to H gC l5 z _ _ _ _ _ h1 h2; omega
  | succ gS ih =>
    intro t to H gC l5 z hb hr hH hr7 hto hte hS hC h5 h5b hw
    obtain ⟨g, rfl⟩ : ∃ g, gC = g + 1 := ⟨gC - 1, by omega⟩
    by_cases h1 : e ≤ t
    · have h1' : nI e ≤ nI t := nI_le h1 (by omega)
      refine ⟨z, ?_, fun _ _ => rfl, ?_, hr7⟩
      · simp only [B_6_33, ec_ge, h1', decide_true, db_1, lhF, h1, true_or, if_true]
      · simp only [lhF, h1, true_or, if_true]; exact hH
    · have h1' : ¬ nI e ≤ nI t := nI_ge (by omega) (by omega)
      have s0 := sb_all (hr t) (hb.2 t (by omega)) (hb.1 t)
      have a0 : aib 65 (hq z w c s) r (nI t) = true := aib_nI (hp z w c s).2.2 (by omega) (by omega)
      have c0 : (nI t).toNatClampNeg = t := nI_clamp (by omega)
      by_cases h2 : B t = 0
      · refine ⟨z, ?_, fun _ _ => rfl, ?_, hr7⟩
        · simp only [B_6_33, ec_ge, ec_eq, h1', decide_false, db_0, a0, dg_1, c0, hq_z, s0.1.mpr h2, decide_true, db_1, lhF, h2, or_true, if_true]
        · simp only [lhF, h2, or_true, if_true]; exact hH
      · have h2' : ¬ z r t = 0 := fun h => h2 (s0.1.mp h)
        have h3' : ¬ nI l5 ≤ 0 := nI_nle h5 (by omega)
        have q22 := n22 (f := f) (w := w) (c := c) (s := s) hp hb hr hM hN (show t < e by omega) he
        have hz := opz_le (B := B) (t := t) (e := e) (by omega)
        have h0 : ¬ (e ≤ t ∨ B t = 0) := by omega
        have ho : ¬ opz B t e = 0 := by
          intro h9
          simp only [woN, h0, if_false, h9, if_true] at hw
          cases hw
        simp only [woN, h0, if_false, ho] at hw
        by_cases h4 : 128 ≤ B t
        · have h4' : ¬ (0 : Int32) ≤ z r t := fun h => by have := s0.2.2.2.2.mp h; omega
          obtain ⟨z1, e1⟩ : ∃ x, x = cpz z 27 r t to (opz B t e) := ⟨_, rfl⟩
          have n1 : ∀ a, a ≠ 27 → z1 a = z a := fun a ha => by rw [e1]; exact cpz_ne ha
          have ca : acb 65 (hq z w c s) r (nI t) 27 (nI to) (nI (opz B t e)) = true := acb_n (hp _ _ _ _).2.2 kq_27 (by omega) (by omega) (by omega) (by omega)
          have wa : wc (hq z w c s) r (nI t) 27 (nI to) (nI (opz B t e)) = hq z1 w c s := by rw [e1]; exact hq_cp (by omega) (by omega) (by omega)
          have hb1 : cb z1 r M B := ⟨hb.1, fun i hi => by rw [n1 r hr27]; exact hb.2 i hi⟩
          have hH1 : cb z1 27 (to + opz B t e) (fun i => if to ≤ i ∧ i < to + opz B t e then B (t + (i - to)) else H i) := by
            refine ⟨fun i => ?_, fun i hi => ?_⟩
            · show (if _ then _ else _) < 256
              split
              · exact hb.1 _
              · exact hH.1 _
            · rw [e1, cpz_at]
              show _ = nI (if _ then _ else _)
              by_cases h : to ≤ i ∧ i < to + opz B t e
              · rw [if_pos h, if_pos h]; exact hb.2 _ (by omega)
              · rw [if_neg h, if_neg h]; exact hH.2 i (by omega)
          obtain ⟨z2, g1, g2, g3, g4⟩ := ih (t + opz B t e) (to + opz B t e) _ g (opz B t e) z1 hb1 (by rw [n1 r hr27]; exact hr) hH1 (by rw [e1]; exact br_cpz hr7 hr) (by omega) hz (by omega) (by omega) (by omega) (by omega) hw
          refine ⟨z2, ?_, fun a ha => by rw [g2 a ha, n1 a ha], ?_, g4⟩
          · simp only [B_6_33, B_6_88, ec_ge, ec_eq, ec_le, h1', decide_false, db_0, a0, dg_1, c0, hq_z, h2', h3', (hp _ _ _ _).1, decide_true, q22, di_1, h4', kq_21, pq_21_5, dp_1, ca, wa, dl_1, nI_add, lhF, h0, if_false, h4, if_true, g1]
          · simp only [lhF, h0, if_false, h4, if_true]; exact g3
        · have h4' : (0 : Int32) ≤ z r t := s0.2.2.2.2.mpr (by omega)
          obtain ⟨z2, g1, g2, g3, g4⟩ := ih (t + opz B t e) to H g (opz B t e) z hb hr hH hr7 (by omega) hz (by omega) (by omega) (by omega) (by omega) hw
          refine ⟨z2, ?_, g2, ?_, g4⟩
          · simp only [B_6_33, B_6_88, ec_ge, ec_eq, ec_le, h1', decide_false, db_0, a0, dg_1, c0, hq_z, h2', h3', (hp _ _ _ _).1, decide_true, db_1, q22, di_1, h4', nI_add, lhF, h0, if_false, h4, g1]
          · simp only [lhF, h0, if_false, h4]; exact g3
theorem n6_p {T : Nat} (hT : T ≤ 60) (hT4 : T % 4 = 0) : ∀ (k to g : Nat) (H : Nat → Nat) (z : Nat → Nat → Int32), to + k = T → k < 4 → k < g → cb z 27 to H → (∀ i, br (z 27 i)) → ∃ z', B_6_98 f g 21 (nI to) (hq z w c s) = B_6_126 f 21 (nI T) (hq z' w c s) ∧ (∀ a, a ≠ 27 → z' a = z a) ∧ cb z' 27 T (fun i => if to ≤ i then 0 else H i) ∧ ∀ i, br (z' 27 i) := by
  intro k
  induction k with
  | zero =>
    intro to g H z h1 _ h3 hH hr
    obtain ⟨g, rfl⟩ : ∃ g', g = g' + 1 := ⟨g - 1, by omega⟩
    have e1 : to = T := by omega
    subst e1
    have h4 : nI to - nI to / (4 : Int32) * (4 : Int32) = 0 := by rw [nI_rem4 (by omega), hT4]; rfl
    refine ⟨z, ?_, fun _ _ => rfl, ?_, hr⟩
    · simp only [B_6_98, h4, ec_eq, decide_true, db_1]
    · exact cb_of hH (fun i => by show (if _ then _ else _) < 256; split; omega; exact hH.1 i) (fun i hi => by rw [if_neg (by omega)])
  | succ k ih =>
    intro to g H z h1 h2 h3 hH hr
    obtain ⟨g, rfl⟩ : ∃ g', g = g' + 1 := ⟨g - 1, by omega⟩
    have h4 : ¬ nI to - nI to / (4 : Int32) * (4 : Int32) = 0 := by rw [nI_rem4 (by omega)]; exact nI_ne0 (by omega) (by omega)
    have h5 : ¬ (60 : Int32) ≤ nI to := nI_ge (b := 60) (by omega) (by omega)
    have i1 : ev_in (nI to) 60 = true := ev_in_nI (by omega) (by omega)
    have i2 : (nI to).toNatClampNeg = to := nI_clamp (by omega)
    have hv : vp_nar .byte (0 : Int32) = 0 := by rw [vp_nar_byte]; rfl
    obtain ⟨z1, e1⟩ : ∃ x, x = va_up z 27 (upd (z 27) to 0) := ⟨_, rfl⟩
    have hH1 : cb z1 27 (to + 1) (fun i => if to ≤ i then 0 else H i) := by
      refine ⟨fun i => by show (if _ then _ else _) < 256; split; omega; exact hH.1 i, fun i hi => ?_⟩
      rw [e1, va_up_self, upd_if]
      show _ = nI (if _ then _ else _)
      by_cases h : i = to
      · rw [if_pos h, if_pos (by omega)]; rfl
      · rw [if_neg h, if_neg (by omega)]; exact hH.2 i (by omega)
    obtain ⟨z2, g1, g2, g3, g4⟩ := ih (to + 1) g _ z1 (by omega) (by omega) (by omega) hH1 (by rw [e1, va_up_self]; exact br_upd hr (by unfold br; decide))
    refine ⟨z2, ?_, fun a ha => by rw [g2 a ha, e1, va_up_ne _ _ ha], ?_, g4⟩
    · rw [← g1, e1]
      simp only [B_6_98, h4, h5, i1, i2, hv, nI_1, dg_1, db_1, db_0, dl_1, dp_1, dv_1, dv_x, di_1, di_x, dw_1, ec_eq, ec_ne, ec_lt, ec_ge, ec_gt, ec_le, hq_z, hq_wz, hq_wc, hq_thr, hq_p29, hq_pw, eq_self, decide_true, decide_false, not_true_eq_false, not_false_eq_true, kq_0, kq_1, kq_2, kq_3, kq_4, kq_5, kq_6, kq_7, kq_8, kq_9, kq_10, kq_11, kq_12, kq_13, kq_14, kq_15, kq_16, kq_17, kq_18, kq_19, kq_20, kq_21, kq_22, kq_23, kq_24, kq_25, kq_26, kq_27, kq_28, kq_29, kq_30, kq_31, kq_32, kq_33, kq_34, kq_35, kq_36, kq_37, kq_38, kq_39, kq_40, kq_41, kq_42, kq_43, kq_44, kq_45, kq_46, kq_47, kq_48, kq_49, kq_50, kq_51, kq_52, kq_53, kq_54, kq_55, kq_56, kq_57, kq_58, kq_59, kq_60, kq_61, kq_62, kq_63, kq_64, kq_65, kq_66, kq_67, kq_68, kq_69, kq_70, kq_71, kq_72, kq_73, kq_74, kq_75, kq_76, kq_77, kq_78, kq_79, kq_80, kq_81, pq_0_0, pq_0_1, pq_0_2, pq_0_3, pq_0_4, pq_0_5, pq_0_6, pq_0_7, pq_1_0, pq_1_1, pq_1_2, pq_1_3, pq_1_4, pq_1_5, pq_1_6, pq_1_7, pq_10_0, pq_10_1, pq_10_2, pq_10_3, pq_15_0, pq_17_0, pq_19_0, pq_21_0, pq_21_1, pq_21_2, pq_21_3, pq_21_4, pq_21_5, pq_28_0, pq_30_0, pq_30_1, pq_30_2, pq_31_0, pq_35_0, pq_35_1, pq_35_2, pq_36_0, pq_40_0, pq_40_1, pq_40_2, pq_41_0, pq_45_0, pq_45_1, pq_45_2, pq_46_0, pq_50_0, pq_52_0, pq_52_1, pq_52_2, pq_52_3, pq_52_4, pq_52_5, pq_52_6, pq_52_8, pq_52_10, pq_52_11, pq_52_14, pq_52_15, pq_52_16, pq_52_17, pq_52_18, pq_52_27, pq_52_29, pq_52_30, pq_52_31, pq_52_32, pq_52_33, pq_52_34, pq_52_35, pq_52_36, pq_52_37, pq_52_38, pq_52_39, pq_52_40, pq_52_41, aq_1, aq_11, aq_12, aq_13, aq_14, aq_16, aq_18, aq_20, aq_22, aq_23, aq_24, aq_25, aq_26, aq_27, aq_29, aq_32, aq_33, aq_34, aq_37, aq_38, aq_39, aq_42, aq_43, aq_44, aq_47, aq_48, aq_49, aq_51, aq_53, aq_54, aq_55, aq_56, aq_57, aq_58, aq_59, aq_60, aq_61, aq_62, aq_63, aq_64, aq_65, aq_66, aq_67, aq_68, aq_69, aq_70, aq_71, aq_72, aq_73, aq_74, aq_75, aq_76, aq_77, aq_78, aq_79, aq_80, aq_81]
    · exact cb_of g3 (fun i => by show (if _ then _ else _) < 256; split; omega; exact hH.1 i) (fun i hi => by
        by_cases h : to ≤ i
        · rw [if_pos h]; split; rfl; rfl
        · rw [if_neg h, if_neg (by omega)])
theorem n6 {z : Nat → Nat → Int32} (hp : pk a r N) (hb : cb z r M B) (hr : ∀ i, br (z r i)) (hr7 : ∀ i, br (z 27 i)) (hM : M ≤ N) (hN : N < 10000) (hr27 : r ≠ 27) (h0 : 20 ≤ hl B) (he : hl B ≤ M) (hw : wo B = none) (hf : 200 < f) : ∃ z', F_6 f 21 a (hq z w c s) = some (.inl (some (.int (nI (ll B)))), hq z' w c s) ∧ (∀ a, a ≠ 27 → z' a = z a) ∧ cb z' 27 (ll B) (LH B) ∧ ∀ i, br (z' 27 i) := by
  have hL := hl_le B
  have hlb := ll_b h0
  obtain ⟨z1, e1⟩ : ∃ x, x = cpz z 27 r 0 0 20 := ⟨_, rfl⟩
  have n1 : ∀ a, a ≠ 27 → z1 a = z a := fun a ha => by rw [e1]; exact cpz_ne ha
  have hb1 : cb z1 r M B := ⟨hb.1, fun i hi => by rw [n1 r hr27]; exact hb.2 i hi⟩
  have ca : acb 65 (hq z w c s) r 0 27 0 20 = true := acb_n (u := 0) (v := 0) (l := 20) (hp _ _ _ _).2.2 kq_27 (by omega) (by omega) (by omega) (by omega)
  have wa : wc (hq z w c s) r 0 27 0 20 = hq z1 w c s := by rw [e1]; exact hq_cp (u := 0) (v := 0) (l := 20) (by omega) (by omega) (by omega)
  have q8 := n8 (f := f) (w := w) (c := c) (s := s) hp hb1 hM hN (by omega)
  have hH1 : cb z1 27 20 B := ⟨hb.1, fun i hi => by
    rw [e1, cpz_at, if_pos (by omega), show 0 + (i - 0) = i by omega]; exact hb.2 i (by omega)⟩
  obtain ⟨z2, g1, g2, g3, g4⟩ := n6_l (f := f) (w := w) (c := c) (s := s) hp hM hN hr27 he hL 100 20 20 B f 1 z1 hb1 (by rw [n1 r hr27]; exact hr) hH1 (by rw [e1]; exact br_cpz hr7 hr) (by omega) h0 (by omega) (by omega) (by omega) (by omega) hw
  obtain ⟨z3, k1, k2, k3, k4⟩ := n6_p (f := f) (w := w) (c := c) (s := s) (T := ll B) (by omega) hlb.2.2.2.2.1 (ll B - (lh B).2) (lh B).2 f (lh B).1 z2 (by omega) (by omega) (by omega) g3 g4
  have g1' : B_6_33 f f 21 a r (nI (hl B)) (20 : Int32) (1 : Int32) (20 : Int32) (hq z1 w c s) = B_6_98 f f 21 (nI (lh B).2) (hq z2 w c s) := g1
  have i0 : ev_in 0 60 = true := by decide
  have c0 : Int32.toNatClampNeg 0 = 0 := rfl
  have d1 : (64 : Int32) + nI (ll B) / (4 : Int32) = nI (64 + ll B / 4) := by rw [show (4 : Int32) = nI 4 from rfl, nI_divN (by omega) (by omega), show (64 : Int32) = nI 64 from rfl, nI_add]
  refine ⟨va_up z3 27 (upd (z3 27) 0 (nI (64 + ll B / 4)).toInt8.toInt32), ?_, ?_, ?_, ?_⟩
  · simp only [F_6, (hp _ _ _ _).1, (hp _ _ _ _).2.1, ca, wa, q8, g1', k1, B_6_126, d1, i0, c0, nar_b, dg_1, db_1, db_0, dl_1, dp_1, dv_1, dv_x, di_1, di_x, dw_1, ec_eq, ec_ne, ec_lt, ec_ge, ec_gt, ec_le, hq_z, hq_wz, hq_thr, hq_p29, hq_pw, eq_self, decide_true, decide_false, not_true_eq_false, not_false_eq_true, kq_0, kq_1, kq_2, kq_3, kq_4, kq_5, kq_6, kq_7, kq_8, kq_9, kq_10, kq_11, kq_12, kq_13, kq_14, kq_15, kq_16, kq_17, kq_18, kq_19, kq_20, kq_21, kq_22, kq_23, kq_24, kq_25, kq_26, kq_27, kq_28, kq_29, kq_30, kq_31, kq_32, kq_33, kq_34, kq_35, kq_36, kq_37, kq_38, kq_39, kq_40, kq_41, kq_42, kq_43, kq_44, kq_45, kq_46, kq_47, kq_48, kq_49, kq_50, kq_51, kq_52, kq_53, kq_54, kq_55, kq_56, kq_57, kq_58, kq_59, kq_60, kq_61, kq_62, kq_63, kq_64, kq_65, kq_66, kq_67, kq_68, kq_69, kq_70, kq_71, kq_72, kq_73, kq_74, kq_75, kq_76, kq_77, kq_78, kq_79, kq_80, kq_81, pq_0_0, pq_0_1, pq_0_2, pq_0_3, pq_0_4, pq_0_5, pq_0_6, pq_0_7, pq_1_0, pq_1_1, pq_1_2, pq_1_3, pq_1_4, pq_1_5, pq_1_6, pq_1_7, pq_10_0, pq_10_1, pq_10_2, pq_10_3, pq_15_0, pq_17_0, pq_19_0, pq_21_0, pq_21_1, pq_21_2, pq_21_3, pq_21_4, pq_21_5, pq_28_0, pq_30_0, pq_30_1, pq_30_2, pq_31_0, pq_35_0, pq_35_1, pq_35_2, pq_36_0, pq_40_0, pq_40_1, pq_40_2, pq_41_0, pq_45_0, pq_45_1, pq_45_2, pq_46_0, pq_50_0, pq_52_0, pq_52_1, pq_52_2, pq_52_3, pq_52_4, pq_52_5, pq_52_6, pq_52_8, pq_52_10, pq_52_11, pq_52_14, pq_52_15, pq_52_16, pq_52_17, pq_52_18, pq_52_27, pq_52_29, pq_52_30, pq_52_31, pq_52_32, pq_52_33, pq_52_34, pq_52_35, pq_52_36, pq_52_37, pq_52_38, pq_52_39, pq_52_40, pq_52_41, aq_1, aq_11, aq_12, aq_13, aq_14, aq_16, aq_18, aq_20, aq_22, aq_23, aq_24, aq_25, aq_26, aq_27, aq_29, aq_32, aq_33, aq_34, aq_37, aq_38, aq_39, aq_42, aq_43, aq_44, aq_47, aq_48, aq_49, aq_51, aq_53, aq_54, aq_55, aq_56, aq_57, aq_58, aq_59, aq_60, aq_61, aq_62, aq_63, aq_64, aq_65, aq_66, aq_67, aq_68, aq_69, aq_70, aq_71, aq_72, aq_73, aq_74, aq_75, aq_76, aq_77, aq_78, aq_79, aq_80, aq_81]
  · intro a ha; rw [va_up_ne _ _ ha, k2 a ha, g2 a ha, n1 a ha]
  · refine ⟨LH_lt hb.1 h0, fun i hi => ?_⟩
    rw [va_up_self, upd_if]
    unfold LH b1
    by_cases h : i = 0
    · rw [if_pos h, if_pos h, by_and, (nI_mask (by omega)).2.1]
      congr 1; omega
    · rw [if_neg h, if_neg h]; exact k3.2 i hi
  · rw [va_up_self]; exact br_upd k4 (br_n _)
end Later60
