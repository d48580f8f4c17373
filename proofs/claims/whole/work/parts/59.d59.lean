-- the class adds a piece to the out
section Piece59
theorem acb_n {t a b na nb u v l : Nat} {h : hp_T} (ha : hp_k h a = some (t, na)) (hb : hp_k h b = some (t, nb)) (h1 : u + l ≤ na) (h2 : v + l ≤ nb) (h3 : na < 2 ^ 31) (h4 : nb < 2 ^ 31) : acb t h a (nI u) b (nI v) (nI l) = true := by
  have g1 : ¬ nI u < 0 ∧ ¬ nI v < 0 ∧ ¬ nI l < 0 := ⟨nI_pos (by omega), nI_pos (by omega), nI_pos (by omega)⟩
  unfold acb acl
  rw [ha, hb, nI_clamp (by omega), nI_clamp (by omega), nI_clamp (by omega)]
  simp [g1, h1, h2]
theorem hq_cp {z : Nat → Nat → Int32} {w : Nat → Option Nat} {c s a b u v l : Nat} (h1 : u < 2 ^ 31) (h2 : v < 2 ^ 31) (h3 : l < 2 ^ 31) : wc (hq z w c s) a (nI u) b (nI v) (nI l) = hq (cpz z b a u v l) w c s := by
  rw [hq_wc, nI_clamp h1, nI_clamp h2, nI_clamp h3]; rfl
def cutN (X d m : Nat) : Nat := X / 16384 * 16384 + (if m = 1 then 8192 else X / 8192 % 2 * 8192) + (X % 8192 + d)
theorem or1 (u : Nat) : u ||| 1 = u / 2 * 2 + 1 := by
  have h1 : (u ||| 1) / 2 ^ 1 = u / 2 ^ 1 ||| 1 / 2 ^ 1 := Nat.or_div_two_pow
  have h2 : (u ||| 1) % 2 ^ 1 = u % 2 ^ 1 ||| 1 % 2 ^ 1 := Nat.or_mod_two_pow
  have h3 : u % 2 ^ 1 ||| 1 % 2 ^ 1 = 1 := by
    have : u % 2 ^ 1 = 0 ∨ u % 2 ^ 1 = 1 := by omega
    rcases this with h | h <;> rw [h] <;> rfl
  have h4 : u / 2 ^ 1 ||| 1 / 2 ^ 1 = u / 2 := by
    rw [show 1 / 2 ^ 1 = 0 from rfl, Nat.or_zero]
  omega
theorem cut_c {X d : Nat} (hX : X < 65536) (hd : X % 8192 + d < 8192) : (X + d) ||| 8192 = cutN X d 1 ∧ (X + d) ||| 0 = cutN X d 0 := by
  constructor
  · have h1 : ((X + d) ||| 8192) / 2 ^ 13 = (X + d) / 2 ^ 13 ||| 8192 / 2 ^ 13 := Nat.or_div_two_pow
    have h2 : ((X + d) ||| 8192) % 2 ^ 13 = (X + d) % 2 ^ 13 ||| 8192 % 2 ^ 13 := Nat.or_mod_two_pow
    rw [show 8192 / 2 ^ 13 = 1 from rfl, or1] at h1
    rw [show 8192 % 2 ^ 13 = 0 from rfl, Nat.or_zero] at h2
    unfold cutN
    rw [if_pos rfl]
    omega
  · rw [Nat.or_zero]; unfold cutN
    rw [if_neg (by omega)]; omega
theorem cut_lt {X d m : Nat} (hX : X < 65536) (hd : X % 8192 + d < 8192) : cutN X d m < 65536 := by
  unfold cutN; split <;> omega
def hp2 (H P : Nat → Nat) (n o : Nat) : Nat → Nat := fun i => if i < n then H i else P (o + (i - n))
theorem hp2_lt {H P : Nat → Nat} (h1 : ∀ i, H i < 256) (h2 : ∀ i, P i < 256) (n o : Nat) : ∀ i, hp2 H P n o i < 256 := fun i => by unfold hp2; split; exact h1 _; exact h2 _
theorem hl_p2 {H P : Nat → Nat} {n o : Nat} (h : 0 < n) : hl (hp2 H P n o) = hl H := by unfold hl hp2; rw [if_pos h]
def ptN (n d data m : Nat) : Nat := if data - d ≤ m - n then data - d else (m - n) / 8 * 8
def pcB (H P : Nat → Nat) (n d data m : Nat) : Nat → Nat := fin (bu2 (hp2 H P n (hl P + d)) 6 (cutN (n2 P 6) (d / 8) (if ptN n d data m < data - d then 1 else 0))) (n + ptN n d data m)
theorem fin_eq {Q C : Nat → Nat} {L n u K : Nat} (hh : hl Q = n) (hn : 20 ≤ n) (h : ∀ i, i < L → C (u + i) = bu2 Q 2 L i) (hL : n ≤ L) (hK : K = ck (sN C u 10 n)) : ∀ i, i < L → bu2 C (u + 10) K (u + i) = fin Q L i := by
  intro i hi
  have e : sN C u 10 n = sN (bu2 Q 2 L) 0 10 (hl Q) := by
    rw [hh]; exact sN_eq n (fun j hj => by rw [h j (by omega)]; congr 1; omega)
  unfold fin
  rw [← e, ← hK]
  unfold bu2 b1
  by_cases h1 : i = 11
  · subst h1; rw [if_pos rfl, if_pos rfl]
  · rw [if_neg (by omega), if_neg (show ¬ i = 10 + 1 by omega)]
    by_cases h2 : i = 10
    · subst h2; rw [if_pos rfl, if_pos rfl]
    · rw [if_neg (by omega), if_neg h2]
      have := h i hi
      unfold bu2 b1 at this
      exact this
variable {S : St9} {way next : Int32} {P H : Nat → Nat} {z : Nat → Nat → Int32} {w : Nat → Option Nat} {f c s a r N M hr NH Mh n d data m b : Nat}
theorem n5 (hp : pk a r N) (hP : cb z r M P) (hM : M ≤ N) (hN : N < 10000) (hr1 : r < 21 ∨ 24 < r) (hkH : ∀ z w c s, hp_k (hq z w c s) hr = some (65, NH)) (hH : cb z hr Mh H) (hMh : Mh ≤ NH) (hNH : NH < 10000) (hr2 : hr < 21 ∨ 24 < hr) (bH : ∀ i, br (z hr i)) (bP : ∀ i, br (z r i)) (hn : n ≤ Mh) (hlH : hl H = n) (hn0 : 20 ≤ n) (hlP : 20 ≤ hl P) (hd : d ≤ data) (hdt : hl P + data ≤ M) (hm : 100 ≤ m) (hm2 : m ≤ 1500) (hO : OB S z b) (how : ow S) (hb : b ≤ cn S 2) (h2 : cn S 2 < 50) (h11 : cn S 11 + (n + ptN n d data m) ≤ 5000) (hc : n2 P 6 % 8192 + d / 8 < 8192) (hf : 100 < f) : ∃ z', F_5 f 21 a hr (nI n) (nI d) (nI data) (nI m) (hq z w c s) = some (.inl (some (.int (nI (ptN n d data m)))), hq z' w c s) ∧ OB (emS S (n + ptN n d data m) way next (pcB H P n d data m)) z' b ∧ ∀ a, a < 21 ∨ 24 < a → z' a = z a := by
  have hl6 := hl_le H
  have hlp6 := hl_le P
  obtain ⟨a1, a2, a3, a4, a5, a6⟩ := hO
  obtain ⟨⟨o1, o2⟩, ⟨o3, o4⟩, o5, o6, o7⟩ := how
  obtain ⟨pt, ept⟩ : ∃ x, x = ptN n d data m := ⟨_, rfl⟩
  have hpt : pt ≤ data - d ∧ n + pt ≤ m := by rw [ept]; unfold ptN; split <;> omega
  rw [← ept] at h11 ⊢
  have g6 : z 21 6 = nI (cn S 2) := a1.trans o1
  have g7 : z 21 7 = nI (cn S 11) := a2.trans o3
  have hX := n2_lt hP.1 6
  obtain ⟨mo, emo⟩ : ∃ x, x = (if pt < data - d then 1 else 0 : Nat) := ⟨_, rfl⟩
  obtain ⟨ct, ect⟩ : ∃ x, x = cutN (n2 P 6) (d / 8) mo := ⟨_, rfl⟩
  have hct : ct < 65536 := by rw [ect]; exact cut_lt hX hc
  -- the heaps
  obtain ⟨z1, e1⟩ : ∃ x, x = cpz z 22 hr 0 (cn S 11) n := ⟨_, rfl⟩
  have n1 : ∀ a, a ≠ 22 → z1 a = z a := fun a ha => by rw [e1]; exact cpz_ne ha
  obtain ⟨z2, e2⟩ : ∃ x, x = cpz z1 22 r (hl P + d) (cn S 11 + n) pt := ⟨_, rfl⟩
  have n2' : ∀ a, a ≠ 22 → z2 a = z a := fun a ha => by rw [e2, cpz_ne ha, n1 a ha]
  obtain ⟨z3, e3⟩ : ∃ x, x = va_up z2 22 (w2 (z2 22) (cn S 11 + 2) (nI (n + pt))) := ⟨_, rfl⟩
  have n3 : ∀ a, a ≠ 22 → z3 a = z a := fun a ha => by rw [e3, va_up_ne _ _ ha, n2' a ha]
  obtain ⟨z4, e4⟩ : ∃ x, x = va_up z3 22 (w2 (z3 22) (cn S 11 + 6) (nI ct)) := ⟨_, rfl⟩
  have n4' : ∀ a, a ≠ 22 → z4 a = z a := fun a ha => by rw [e4, va_up_ne _ _ ha, n3 a ha]
  obtain ⟨K, eK⟩ : ∃ x, x = ck (sN (bz z4 22) (cn S 11) 10 n) := ⟨_, rfl⟩
  have hK : K < 65536 := by rw [eK]; exact ck_lt _
  obtain ⟨z5, e5⟩ : ∃ x, x = va_up z4 22 (w2 (z4 22) (cn S 11 + 10) (nI K)) := ⟨_, rfl⟩
  have n5' : ∀ a, a ≠ 22 → z5 a = z a := fun a ha => by rw [e5, va_up_ne _ _ ha, n4' a ha]
  have k22 : ∀ z, hp_k (hq z w c s) 22 = some (65, 5000) := fun z => kq_22
  -- the calls
  have hP1 : cb z1 r M P := ⟨hP.1, fun i hi => by rw [n1 r (by omega)]; exact hP.2 i hi⟩
  have hP2 : cb z2 r M P := ⟨hP.1, fun i hi => by rw [n2' r (by omega)]; exact hP.2 i hi⟩
  have q8 := n8 (f := f) (w := w) (c := c) (s := s) hp hP1 hM hN (by omega)
  have q119 : F_119 f r (nI 6) (hq z2 w c s) = some (.inl (some (.int (nI (n2 P 6)))), hq z2 w c s) := n119 (t := 6) (hp _ _ _ _).2.2 hP2 hM hN (by omega)
  have qa : F_121 f 22 (nI (cn S 11 + 2)) (nI (n + pt)) (hq z2 w c s) = some (.inl none, hq z3 w c s) := by rw [e3]; exact t121 (N := 5000) k22 (by omega) (by omega)
  have qb : F_121 f 22 (nI (cn S 11 + 6)) (nI ct) (hq z3 w c s) = some (.inl none, hq z4 w c s) := by rw [e4]; exact t121 (N := 5000) k22 (by omega) (by omega)
  have qc : F_123 f 22 (nI (cn S 11)) (nI n) (nI (cn S 11 + 10)) (hq z4 w c s) = some (.inl (some (.int (nI K))), hq z4 w c s) := by
    rw [eK]; exact t123 (N := 5000) (at_ := cn S 11) (sk := 10) k22 (by omega) (by omega) (by omega) (bz_lt z4 22) (fun i _ _ => bz_eq z4 22 i) (by omega)
  have qd : F_121 f 22 (nI (cn S 11 + 10)) (nI K) (hq z4 w c s) = some (.inl none, hq z5 w c s) := by rw [e5]; exact t121 (N := 5000) k22 (by omega) (by omega)
  have ca : acb 65 (hq z w c s) hr 0 22 (nI (cn S 11)) (nI n) = true := acb_n (u := 0) (hkH _ _ _ _) kq_22 (by omega) (by omega) (by omega) (by omega)
  have wa : wc (hq z w c s) hr 0 22 (nI (cn S 11)) (nI n) = hq z1 w c s := by rw [e1]; exact hq_cp (u := 0) (by omega) (by omega) (by omega)
  have cb' : acb 65 (hq z1 w c s) r (nI (hl P + d)) 22 (nI (cn S 11 + n)) (nI pt) = true := acb_n (hp _ _ _ _).2.2 kq_22 (by omega) (by omega) (by omega) (by omega)
  have wb : wc (hq z1 w c s) r (nI (hl P + d)) 22 (nI (cn S 11 + n)) (nI pt) = hq z2 w c s := by rw [e2]; exact hq_cp (by omega) (by omega) (by omega)
  have x1 : nI data - nI d = nI (data - d) := nI_subN hd
  have x2 : nI m - nI n = nI (m - n) := nI_subN (by omega)
  have x3 : nI (m - n) / (8 : Int32) * (8 : Int32) = nI ((m - n) / 8 * 8) := by rw [show (8 : Int32) = nI 8 from rfl, nI_divN (by omega) (by omega), nI_mulN]
  have s1 : F_5 f 21 a hr (nI n) (nI d) (nI data) (nI m) (hq z w c s) = B_5_33 f 21 a hr (nI n) (nI d) (nI (data - d)) (nI pt) (hq z w c s) := by
    by_cases h : data - d ≤ m - n
    · have h' : ¬ nI (m - n) < nI (data - d) := nI_nlt h (by omega)
      have : pt = data - d := by rw [ept]; unfold ptN; rw [if_pos h]
      simp only [F_5, x1, x2, ec_gt, h', decide_false, db_0, this]
    · have h' : nI (m - n) < nI (data - d) := nI_lt (by omega) (by omega)
      have : pt = (m - n) / 8 * 8 := by rw [ept]; unfold ptN; rw [if_neg h]
      simp only [F_5, x1, x2, x3, ec_gt, h', decide_true, db_1, this]
  have y0 : ¬ (50 : Int32) ≤ nI (cn S 2) := nI_ge (b := 50) (by omega) (by omega)
  have y1 : (5000 : Int32) - nI (cn S 11) = nI (5000 - cn S 11) := nI_subN (a := 5000) (by omega)
  have y2 : nI (n + pt) ≤ nI (5000 - cn S 11) := nI_le (by omega) (by omega)
  have g71 : z1 21 7 = nI (cn S 11) := by rw [n1 21 (by omega)]; exact g7
  have y3 : nI (n2 P 6) + nI d / (8 : Int32) = nI (n2 P 6 + d / 8) := by rw [show (8 : Int32) = nI 8 from rfl, nI_divN (by omega) (by omega), nI_add]
  have s2 : B_5_33 f 21 a hr (nI n) (nI d) (nI (data - d)) (nI pt) (hq z w c s) = B_5_119 f 21 a (nI n) (nI d) (nI pt) (nI (n + pt)) (if pt < data - d then 8192 else 0) (hq z2 w c s) := by
    by_cases h : pt < data - d
    · have h' : ¬ nI (data - d) ≤ nI pt := nI_ge h (by omega)
      simp only [B_5_33, g6, g7, g71, y0, y1, y2, nI_add, ca, wa, (hp _ _ _ _).1, (hp _ _ _ _).2.1, q8, cb', wb, h', h, if_true, dg_1, db_1, db_0, dl_1, dp_1, dv_1, dv_x, di_1, di_x, dw_1, ec_eq, ec_ne, ec_lt, ec_ge, ec_gt, ec_le, hq_z, hq_wz, hq_thr, hq_p29, hq_pw, eq_self, decide_true, decide_false, not_true_eq_false, not_false_eq_true, kq_0, kq_1, kq_2, kq_3, kq_4, kq_5, kq_6, kq_7, kq_8, kq_9, kq_10, kq_11, kq_12, kq_13, kq_14, kq_15, kq_16, kq_17, kq_18, kq_19, kq_20, kq_21, kq_22, kq_23, kq_24, kq_25, kq_26, kq_27, kq_28, kq_29, kq_30, kq_31, kq_32, kq_33, kq_34, kq_35, kq_36, kq_37, kq_38, kq_39, kq_40, kq_41, kq_42, kq_43, kq_44, kq_45, kq_46, kq_47, kq_48, kq_49, kq_50, kq_51, kq_52, kq_53, kq_54, kq_55, kq_56, kq_57, kq_58, kq_59, kq_60, kq_61, kq_62, kq_63, kq_64, kq_65, kq_66, kq_67, kq_68, kq_69, kq_70, kq_71, kq_72, kq_73, kq_74, kq_75, kq_76, kq_77, kq_78, kq_79, kq_80, kq_81, pq_0_0, pq_0_1, pq_0_2, pq_0_3, pq_0_4, pq_0_5, pq_0_6, pq_0_7, pq_1_0, pq_1_1, pq_1_2, pq_1_3, pq_1_4, pq_1_5, pq_1_6, pq_1_7, pq_10_0, pq_10_1, pq_10_2, pq_10_3, pq_15_0, pq_17_0, pq_19_0, pq_21_0, pq_21_1, pq_21_2, pq_21_3, pq_21_4, pq_21_5, pq_28_0, pq_30_0, pq_30_1, pq_30_2, pq_31_0, pq_35_0, pq_35_1, pq_35_2, pq_36_0, pq_40_0, pq_40_1, pq_40_2, pq_41_0, pq_45_0, pq_45_1, pq_45_2, pq_46_0, pq_50_0, pq_52_0, pq_52_1, pq_52_2, pq_52_3, pq_52_4, pq_52_5, pq_52_6, pq_52_8, pq_52_10, pq_52_11, pq_52_14, pq_52_15, pq_52_16, pq_52_17, pq_52_18, pq_52_27, pq_52_29, pq_52_30, pq_52_31, pq_52_32, pq_52_33, pq_52_34, pq_52_35, pq_52_36, pq_52_37, pq_52_38, pq_52_39, pq_52_40, pq_52_41, aq_1, aq_11, aq_12, aq_13, aq_14, aq_16, aq_18, aq_20, aq_22, aq_23, aq_24, aq_25, aq_26, aq_27, aq_29, aq_32, aq_33, aq_34, aq_37, aq_38, aq_39, aq_42, aq_43, aq_44, aq_47, aq_48, aq_49, aq_51, aq_53, aq_54, aq_55, aq_56, aq_57, aq_58, aq_59, aq_60, aq_61, aq_62, aq_63, aq_64, aq_65, aq_66, aq_67, aq_68, aq_69, aq_70, aq_71, aq_72, aq_73, aq_74, aq_75, aq_76, aq_77, aq_78, aq_79, aq_80, aq_81]
    · have h' : nI (data - d) ≤ nI pt := nI_le (by omega) (by omega)
      simp only [B_5_33, g6, g7, g71, y0, y1, y2, nI_add, ca, wa, (hp _ _ _ _).1, (hp _ _ _ _).2.1, q8, cb', wb, h', h, if_false, dg_1, db_1, db_0, dl_1, dp_1, dv_1, dv_x, di_1, di_x, dw_1, ec_eq, ec_ne, ec_lt, ec_ge, ec_gt, ec_le, hq_z, hq_wz, hq_thr, hq_p29, hq_pw, eq_self, decide_true, decide_false, not_true_eq_false, not_false_eq_true, kq_0, kq_1, kq_2, kq_3, kq_4, kq_5, kq_6, kq_7, kq_8, kq_9, kq_10, kq_11, kq_12, kq_13, kq_14, kq_15, kq_16, kq_17, kq_18, kq_19, kq_20, kq_21, kq_22, kq_23, kq_24, kq_25, kq_26, kq_27, kq_28, kq_29, kq_30, kq_31, kq_32, kq_33, kq_34, kq_35, kq_36, kq_37, kq_38, kq_39, kq_40, kq_41, kq_42, kq_43, kq_44, kq_45, kq_46, kq_47, kq_48, kq_49, kq_50, kq_51, kq_52, kq_53, kq_54, kq_55, kq_56, kq_57, kq_58, kq_59, kq_60, kq_61, kq_62, kq_63, kq_64, kq_65, kq_66, kq_67, kq_68, kq_69, kq_70, kq_71, kq_72, kq_73, kq_74, kq_75, kq_76, kq_77, kq_78, kq_79, kq_80, kq_81, pq_0_0, pq_0_1, pq_0_2, pq_0_3, pq_0_4, pq_0_5, pq_0_6, pq_0_7, pq_1_0, pq_1_1, pq_1_2, pq_1_3, pq_1_4, pq_1_5, pq_1_6, pq_1_7, pq_10_0, pq_10_1, pq_10_2, pq_10_3, pq_15_0, pq_17_0, pq_19_0, pq_21_0, pq_21_1, pq_21_2, pq_21_3, pq_21_4, pq_21_5, pq_28_0, pq_30_0, pq_30_1, pq_30_2, pq_31_0, pq_35_0, pq_35_1, pq_35_2, pq_36_0, pq_40_0, pq_40_1, pq_40_2, pq_41_0, pq_45_0, pq_45_1, pq_45_2, pq_46_0, pq_50_0, pq_52_0, pq_52_1, pq_52_2, pq_52_3, pq_52_4, pq_52_5, pq_52_6, pq_52_8, pq_52_10, pq_52_11, pq_52_14, pq_52_15, pq_52_16, pq_52_17, pq_52_18, pq_52_27, pq_52_29, pq_52_30, pq_52_31, pq_52_32, pq_52_33, pq_52_34, pq_52_35, pq_52_36, pq_52_37, pq_52_38, pq_52_39, pq_52_40, pq_52_41, aq_1, aq_11, aq_12, aq_13, aq_14, aq_16, aq_18, aq_20, aq_22, aq_23, aq_24, aq_25, aq_26, aq_27, aq_29, aq_32, aq_33, aq_34, aq_37, aq_38, aq_39, aq_42, aq_43, aq_44, aq_47, aq_48, aq_49, aq_51, aq_53, aq_54, aq_55, aq_56, aq_57, aq_58, aq_59, aq_60, aq_61, aq_62, aq_63, aq_64, aq_65, aq_66, aq_67, aq_68, aq_69, aq_70, aq_71, aq_72, aq_73, aq_74, aq_75, aq_76, aq_77, aq_78, aq_79, aq_80, aq_81]
  have y4 : nI (n2 P 6 + d / 8) ||| (if pt < data - d then (8192 : Int32) else 0) = nI ct := by
    have hcc := cut_c hX hc
    by_cases h : pt < data - d
    · rw [if_pos h, show (8192 : Int32) = nI 8192 from rfl, nI_orN (by omega) (by omega), hcc.1, ect, emo, if_pos h]
    · rw [if_neg h, show (0 : Int32) = nI 0 from rfl, nI_orN (by omega) (by omega), hcc.2, ect, emo, if_neg h]
  have g7a : z2 21 7 = nI (cn S 11) := by rw [n2' 21 (by omega)]; exact g7
  have g7b : z3 21 7 = nI (cn S 11) := by rw [n3 21 (by omega)]; exact g7
  have g7c : z4 21 7 = nI (cn S 11) := by rw [n4' 21 (by omega)]; exact g7
  have g7d : z5 21 7 = nI (cn S 11) := by rw [n5' 21 (by omega)]; exact g7
  have g6d : z5 21 6 = nI (cn S 2) := by rw [n5' 21 (by omega)]; exact g6
  have i1 : ev_in (nI (cn S 2)) 50 = true := ev_in_nI (by omega) (by omega)
  have i2 : (nI (cn S 2)).toNatClampNeg = cn S 2 := nI_clamp (by omega)
  obtain ⟨z6, e6⟩ : ∃ x, x = va_up (va_up (va_up z5 23 (upd (z5 23) (cn S 2) (nI (cn S 11)))) 24 (upd (z5 24) (cn S 2) (nI (n + pt)))) 21 (upd (upd (z5 21) 6 (nI (cn S 2 + 1))) 7 (nI (cn S 11 + (n + pt)))) := ⟨_, rfl⟩
  have s3 : B_5_119 f 21 a (nI n) (nI d) (nI pt) (nI (n + pt)) (if pt < data - d then 8192 else 0) (hq z2 w c s) = some (.inl (some (.int (nI pt))), hq z6 w c s) := by
    rw [e6]
    simp (decide := true) only [B_5_119, (hp _ _ _ _).1, (hp _ _ _ _).2.1, q119, y3, y4, g7a, g7b, g7c, g7d, g6d, l_2, l_6, l_10, nI_add, qa, qb, qc, qd, i1, i2, va_up_ne, va_up_self, pk_us, pk_un, va_up2, nI_1, dg_1, db_1, db_0, dl_1, dp_1, dv_1, dv_x, di_1, di_x, dw_1, ec_eq, ec_ne, ec_lt, ec_ge, ec_gt, ec_le, hq_z, hq_wz, hq_thr, hq_p29, hq_pw, eq_self, decide_true, decide_false, not_true_eq_false, not_false_eq_true, kq_0, kq_1, kq_2, kq_3, kq_4, kq_5, kq_6, kq_7, kq_8, kq_9, kq_10, kq_11, kq_12, kq_13, kq_14, kq_15, kq_16, kq_17, kq_18, kq_19, kq_20, kq_21, kq_22, kq_23, kq_24, kq_25, kq_26, kq_27, kq_28, kq_29, kq_30, kq_31, kq_32, kq_33, kq_34, kq_35, kq_36, kq_37, kq_38, kq_39, kq_40, kq_41, kq_42, kq_43, kq_44, kq_45, kq_46, kq_47, kq_48, kq_49, kq_50, kq_51, kq_52, kq_53, kq_54, kq_55, kq_56, kq_57, kq_58, kq_59, kq_60, kq_61, kq_62, kq_63, kq_64, kq_65, kq_66, kq_67, kq_68, kq_69, kq_70, kq_71, kq_72, kq_73, kq_74, kq_75, kq_76, kq_77, kq_78, kq_79, kq_80, kq_81, pq_0_0, pq_0_1, pq_0_2, pq_0_3, pq_0_4, pq_0_5, pq_0_6, pq_0_7, pq_1_0, pq_1_1, pq_1_2, pq_1_3, pq_1_4, pq_1_5, pq_1_6, pq_1_7, pq_10_0, pq_10_1, pq_10_2, pq_10_3, pq_15_0, pq_17_0, pq_19_0, pq_21_0, pq_21_1, pq_21_2, pq_21_3, pq_21_4, pq_21_5, pq_28_0, pq_30_0, pq_30_1, pq_30_2, pq_31_0, pq_35_0, pq_35_1, pq_35_2, pq_36_0, pq_40_0, pq_40_1, pq_40_2, pq_41_0, pq_45_0, pq_45_1, pq_45_2, pq_46_0, pq_50_0, pq_52_0, pq_52_1, pq_52_2, pq_52_3, pq_52_4, pq_52_5, pq_52_6, pq_52_8, pq_52_10, pq_52_11, pq_52_14, pq_52_15, pq_52_16, pq_52_17, pq_52_18, pq_52_27, pq_52_29, pq_52_30, pq_52_31, pq_52_32, pq_52_33, pq_52_34, pq_52_35, pq_52_36, pq_52_37, pq_52_38, pq_52_39, pq_52_40, pq_52_41, aq_1, aq_11, aq_12, aq_13, aq_14, aq_16, aq_18, aq_20, aq_22, aq_23, aq_24, aq_25, aq_26, aq_27, aq_29, aq_32, aq_33, aq_34, aq_37, aq_38, aq_39, aq_42, aq_43, aq_44, aq_47, aq_48, aq_49, aq_51, aq_53, aq_54, aq_55, aq_56, aq_57, aq_58, aq_59, aq_60, aq_61, aq_62, aq_63, aq_64, aq_65, aq_66, aq_67, aq_68, aq_69, aq_70, aq_71, aq_72, aq_73, aq_74, aq_75, aq_76, aq_77, aq_78, aq_79, aq_80, aq_81]
  refine ⟨z6, (s1.trans s2).trans s3, ?_, ?_⟩
  · have hfin : ∀ i, i < n + pt → bz z5 22 (cn S 11 + i) = pcB H P n d data m i := by
      have f1 : bz z3 22 = bu2 (bz z2 22) (cn S 11 + 2) (n + pt) := by rw [e3]; exact bz_w2 (by omega)
      have f2 : bz z4 22 = bu2 (bz z3 22) (cn S 11 + 6) ct := by rw [e4]; exact bz_w2 (by omega)
      have f3 : bz z5 22 = bu2 (bz z4 22) (cn S 11 + 10) K := by rw [e5]; exact bz_w2 (by omega)
      rw [f3]
      have hQ : hl (bu2 (hp2 H P n (hl P + d)) 6 ct) = n := by rw [hl_u2 (by omega), hl_p2 (by omega), hlH]
      have := fin_eq (Q := bu2 (hp2 H P n (hl P + d)) 6 ct) (C := bz z4 22) (L := n + pt) (n := n) (u := cn S 11) (K := K) hQ hn0 (fun i hi => ?_) (by omega) eK
      · unfold pcB; rw [← ept, ← emo, ← ect]; exact this
      · rw [f2, f1]
        have hbase : bz z2 22 (cn S 11 + i) = hp2 H P n (hl P + d) i := by
          rw [e2, bz_cpz]
          unfold hp2
          by_cases h : i < n
          · rw [if_neg (by omega), if_pos h, e1, bz_cpz, if_pos (by omega)]
            exact bz_of (hH.1 _) (by rw [show 0 + (cn S 11 + i - cn S 11) = i by omega]; exact hH.2 i (by omega))
          · rw [if_pos (by omega), if_neg h, show hl P + d + (cn S 11 + i - (cn S 11 + n)) = hl P + d + (i - n) by omega]
            exact bz_of (hP.1 _) (hP1.2 _ (by omega))
        simp only [bu2, b1, show (cn S 11 + i = cn S 11 + 6 + 1) = (i = 6 + 1) from propext (by omega), show (cn S 11 + i = cn S 11 + 6) = (i = 6) from propext (by omega), show (cn S 11 + i = cn S 11 + 2 + 1) = (i = 2 + 1) from propext (by omega), show (cn S 11 + i = cn S 11 + 2) = (i = 2) from propext (by omega), hbase]
        by_cases h1 : i = 6 + 1
        · subst h1; rfl
        · by_cases h2 : i = 6
          · subst h2; rfl
          · simp only [h1, h2, if_false]
    refine em_OB ⟨a1, a2, a3, a4, a5, a6⟩ hb h2 h11 ?_ ?_ ?_ ?_ ?_ ?_ ?_ ?_ ?_
    · rw [e6, va_up_self, pk_un (by omega), pk_us]
    · rw [e6, va_up_self, pk_us]
    · rw [e6, va_up_ne _ _ (by decide), va_up_ne _ _ (by decide), va_up_self, n5' 23 (by omega)]
    · rw [e6, va_up_ne _ _ (by decide), va_up_self, n5' 24 (by omega)]
    · rw [e6, va_up_ne _ _ (by decide), va_up_ne _ _ (by decide), va_up_ne _ _ (by decide), n5' 25 (by omega)]
    · rw [e6, va_up_ne _ _ (by decide), va_up_ne _ _ (by decide), va_up_ne _ _ (by decide), n5' 26 (by omega)]
    · have r1 : ∀ j, br (z1 22 j) := by rw [e1]; exact br_cpz a6 bH
      have r2 : ∀ j, br (z2 22 j) := by rw [e2]; exact br_cpz r1 (by rw [n1 r (by omega)]; exact bP)
      rw [e6, va_up_ne _ _ (by decide), va_up_ne _ _ (by decide), va_up_ne _ _ (by decide), e5, va_up_self]
      apply br_w2
      rw [e4, va_up_self]
      apply br_w2
      rw [e3, va_up_self]
      exact br_w2 r2
    · intro j hj
      have hz6 : bz z6 22 = bz z5 22 := by unfold bz; rw [e6, va_up_ne _ _ (by decide), va_up_ne _ _ (by decide), va_up_ne _ _ (by decide)]
      rw [hz6, e5, bz_w2 (by omega), e4, bz_w2 (by omega), e3, bz_w2 (by omega)]
      simp only [bu2, b1]
      rw [if_neg (by omega), if_neg (by omega), if_neg (by omega), if_neg (by omega), if_neg (by omega), if_neg (by omega), e2, bz_cpz, if_neg (by omega), e1, bz_cpz, if_neg (by omega)]
    · intro j hj
      have hz6 : bz z6 22 = bz z5 22 := by unfold bz; rw [e6, va_up_ne _ _ (by decide), va_up_ne _ _ (by decide), va_up_ne _ _ (by decide)]
      rw [hz6]; exact hfin j hj
  · intro a ha
    rw [e6, va_up_ne _ _ (by omega), va_up_ne _ _ (by omega), va_up_ne _ _ (by omega), n5' a (by omega)]
end Piece59
