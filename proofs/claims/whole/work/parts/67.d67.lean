-- errors and answers: the reference
section Err67
theorem fin_c2 {Q C : Nat → Nat} {L : Nat} (h0 : 20 ≤ hl Q) (hL : hl Q ≤ L) (h : ∀ i, i < L → i ≠ 2 → i ≠ 3 → Q i = C i) : ∀ i, i < L → fin Q L i = fin C L i := by
  intro i hi
  have e : hl Q = hl C := by unfold hl; rw [h 0 (by omega) (by omega) (by omega)]
  have h2 : ∀ j, j < L → bu2 Q 2 L j = bu2 C 2 L j := fun j hj => by
    by_cases h3 : j = 2 ∨ j = 3
    · unfold bu2 b1
      rcases h3 with rfl | rfl
      · rfl
      · rfl
    · rw [bu2_ne (by omega), bu2_ne (by omega)]; exact h j hj (by omega) (by omega)
  have e2 : sN (bu2 Q 2 L) 0 10 (hl Q) = sN (bu2 C 2 L) 0 10 (hl C) := by
    rw [← e]; exact sN_eq _ (fun j hj => h2 _ (by omega))
  unfold fin
  rw [e2]
  generalize bu2 Q 2 L = X at h2
  generalize bu2 C 2 L = Y at h2
  unfold bu2 b1; rw [h2 i hi]
theorem rp_v {id src dst len i : Nat} {D : Nat → Nat} (hlen : len ≤ 4000) (h2 : i ≠ 2) (h3 : i ≠ 3) : rpB (vL len) id src dst len D i = rpB 1157627904 id src dst len D i := by
  have hq : ∀ j, j ≠ 2 → j ≠ 3 → rpQ (vL len) id src dst D j = rpQ 1157627904 id src dst D j := by
    intro j j2 j3
    unfold rpQ
    by_cases h : j < 20
    · rw [if_pos h, if_pos h]
      unfold hdG
      by_cases h4 : 4 ≤ j
      · have e4 : ∀ v, bu4 (fun _ => 0) 0 v j = 0 := fun v => by rw [bu4_ne (by omega)]
        unfold bu4 at e4 ⊢
        unfold b1 at e4 ⊢
        simp only [e4]
      · rw [bu4_ne (by omega), bu4_ne (by omega), bu4_ne (by omega), bu4_ne (by omega), bu4_ne (t := 16) (by omega), bu4_ne (t := 12) (by omega), bu4_ne (t := 8) (by omega), bu4_ne (t := 4) (by omega)]
        rcases (show j = 0 ∨ j = 1 by omega) with rfl | rfl
        · show vL len / 16777216 % 256 = 1157627904 / 16777216 % 256
          unfold vL; omega
        · show vL len / 65536 % 256 = 1157627904 / 65536 % 256
          unfold vL; omega
    · rw [if_neg h, if_neg h]
  have hs : sN (rpQ (vL len) id src dst D) 20 2 len = sN (rpQ 1157627904 id src dst D) 20 2 len := sN_eq len (fun j _ => hq (20 + j) (by omega) (by omega))
  unfold rpB
  rw [hs]
  unfold bu2 b1
  rw [hq i h2 h3]
theorem sdS_1 {S : St9} {P : Nat → Nat} {data m : Nat} {way next : Int32} (hP : ∀ i, P i < 256) (h0 : 20 ≤ hl P) (h : hl P + data ≤ m) : sdS S P data m way next = emS S (hl P + data) way next (fin P (hl P + data)) := by
  have ep : ptN (hl P) 0 data m = data := by unfold ptN; rw [if_pos (by omega)]; omega
  unfold sdS sdL
  rw [ep, if_pos (Nat.le_refl _)]
  apply em_eq
  intro i hi2
  unfold pcB
  rw [ep, if_neg (by omega), show (0 : Nat) / 8 = 0 from rfl, cut_0]
  apply fin_c
  · rw [hl_u2 (by omega), hl_p2 (by omega)]; exact h0
  · rw [hl_u2 (by omega), hl_p2 (by omega)]; omega
  · intro j hj
    have hb6 := hP 6
    have hb7 := hP 7
    have hh : hp2 P P (hl P) (hl P + 0) j = P j := by
      unfold hp2
      by_cases hx : j < hl P
      · rw [if_pos hx]
      · rw [if_neg hx]; exact congrArg P (by omega)
    unfold bu2 b1
    by_cases h1 : j = 6 + 1
    · subst h1; rw [if_pos rfl]; show (P 6 * 256 + P 7) % 256 = P 7; omega
    · rw [if_neg h1]
      by_cases h2 : j = 6
      · subst h2; rw [if_pos rfl]; show (P 6 * 256 + P 7) / 256 % 256 = P 6; omega
      · rw [if_neg h2]; exact hh
  · exact hi2
theorem lh_20 {P : Nat → Nat} (h : hl P = 20) : lh P = (P, 20) := by
  unfold lh; rw [h]; rfl
theorem ll_20 {P : Nat → Nat} (h : hl P = 20) : ll P = 20 := by unfold ll; rw [lh_20 h]; show (20 + 3) / 4 * 4 = 20; omega
theorem sdS_c {S : St9} {P Q : Nat → Nat} {data m : Nat} {way next : Int32} (h1 : hl P = 20) (h2 : hl Q = 20) (h : ∀ i, i < 20 + data → i ≠ 2 → i ≠ 3 → P i = Q i) : sdS S P data m way next = sdS S Q data m way next := by
  have h62 : n2 P 6 = n2 Q 6 := by unfold n2; rw [h 6 (by omega) (by omega) (by omega), h (6 + 1) (by omega) (by omega) (by omega)]
  have step : ∀ (H G : Nat → Nat) (d : Nat) (S : St9), (∀ i, i < 20 → i ≠ 2 → i ≠ 3 → H i = G i) → hl H = 20 → d ≤ data → emS S (20 + ptN 20 d data m) way next (pcB H P 20 d data m) = emS S (20 + ptN 20 d data m) way next (pcB G Q 20 d data m) := by
    intro H G d S hHG hH hd
    apply em_eq
    intro i hi
    have hpt := ptN_le (n := 20) (d := d) (data := data) (m := m) hd
    unfold pcB
    rw [h1, h2, h62]
    apply fin_c2
    · rw [hl_u2 (by omega), hl_p2 (by omega)]; omega
    · rw [hl_u2 (by omega), hl_p2 (by omega)]; omega
    · intro j hj j2 j3
      have hh : hp2 H P 20 (20 + d) j = hp2 G Q 20 (20 + d) j := by
        unfold hp2
        by_cases hx : j < 20
        · rw [if_pos hx, if_pos hx]; exact hHG j hx j2 j3
        · rw [if_neg hx, if_neg hx]; exact h _ (by omega) (by omega) (by omega)
      unfold bu2 b1; rw [hh]
    · exact hi
  have hLH : ∀ i, i < 20 → i ≠ 2 → i ≠ 3 → LH P i = LH Q i := by
    intro i hi i2 i3
    unfold LH b1
    rw [lh_20 h1, lh_20 h2, ll_20 h1, ll_20 h2]
    by_cases h0 : i = 0
    · rw [if_pos h0, if_pos h0]
    · rw [if_neg h0, if_neg h0]
      show (if 20 ≤ i then 0 else P i) = if 20 ≤ i then 0 else Q i
      rw [if_neg (by omega), if_neg (by omega)]; exact h i (by omega) i2 i3
  have loop : ∀ (g d : Nat) (S : St9), sdL P (LH P) 20 data m way next g d S = sdL Q (LH Q) 20 data m way next g d S := by
    intro g
    induction g with
    | zero => intro d S; rfl
    | succ g ih =>
      intro d S
      unfold sdL
      by_cases hd : data ≤ d
      · rw [if_pos hd, if_pos hd]
      · rw [if_neg hd, if_neg hd, step (LH P) (LH Q) d S hLH (by rw [hl_LH (by omega), ll_20 h1]) (by omega), ih]
  unfold sdS
  rw [ll_20 h1, ll_20 h2, h1, h2, step P Q 0 S (fun i hi => h i (by omega)) h1 (by omega), loop]
variable {S : St9} {z : Nat → Nat → Int32} {w : Nat → Option Nat} {f c s p M q sz data : Nat} {P : Nat → Nat}
theorem lp_97 {l1 l2 : Int32} : ∀ (q k g : Nat) (z : Nat → Nat → Int32), k + q ≤ 20 → B_97_2 f (g + q) 52 l1 l2 (nI k) (hq z w c s) = B_97_2 f g 52 l1 l2 (nI (k + q)) (hq (va_up z 62 (fun i => if k ≤ i ∧ i < k + q then 0 else z 62 i)) w c s) := by
  intro q
  induction q with
  | zero =>
    intro k g z h
    have : (fun i => if k ≤ i ∧ i < k + 0 then 0 else z 62 i) = z 62 := by funext i; rw [if_neg (by omega)]
    rw [this, va_upi]; rfl
  | succ q ih =>
    intro k g z h
    have y0 : ¬ (20 : Int32) ≤ nI k := nI_ge (b := 20) (by omega) (by omega)
    have y1 : ev_in (nI k) 4200 = true := ev_in_nI (by omega) (by omega)
    have y2 : (nI k).toNatClampNeg = k := nI_clamp (by omega)
    have e1 := ih (k + 1) g (va_up z 62 (upd (z 62) k 0)) (by omega)
    rw [va_up2, show k + 1 + q = k + (q + 1) by omega] at e1
    have e2 : (fun i => if k + 1 ≤ i ∧ i < k + (q + 1) then 0 else va_up z 62 (upd (z 62) k 0) 62 i) = fun i => if k ≤ i ∧ i < k + (q + 1) then 0 else z 62 i := by
      funext i
      rw [va_up_self, upd_if]
      by_cases h1 : i = k
      · rw [if_neg (by omega), if_pos h1, if_pos (by omega)]
      · by_cases h2 : k + 1 ≤ i ∧ i < k + (q + 1)
        · rw [if_pos h2, if_pos (by omega)]
        · rw [if_neg h2, if_neg h1, if_neg (by omega)]
    rw [e2] at e1
    rw [← e1, show g + (q + 1) = (g + q) + 1 from rfl]
    simp only [B_97_2, y0, y1, y2, nI_1, dg_1, db_1, db_0, dl_1, dp_1, dv_1, dv_x, di_1, di_x, dw_1, ec_eq, ec_ne, ec_lt, ec_ge, ec_gt, ec_le, hq_z, hq_wz, hq_wc, hq_thr, hq_p29, hq_pw, eq_self, decide_true, decide_false, not_true_eq_false, not_false_eq_true, kq_0, kq_1, kq_2, kq_3, kq_4, kq_5, kq_6, kq_7, kq_8, kq_9, kq_10, kq_11, kq_12, kq_13, kq_14, kq_15, kq_16, kq_17, kq_18, kq_19, kq_20, kq_21, kq_22, kq_23, kq_24, kq_25, kq_26, kq_27, kq_28, kq_29, kq_30, kq_31, kq_32, kq_33, kq_34, kq_35, kq_36, kq_37, kq_38, kq_39, kq_40, kq_41, kq_42, kq_43, kq_44, kq_45, kq_46, kq_47, kq_48, kq_49, kq_50, kq_51, kq_52, kq_53, kq_54, kq_55, kq_56, kq_57, kq_58, kq_59, kq_60, kq_61, kq_62, kq_63, kq_64, kq_65, kq_66, kq_67, kq_68, kq_69, kq_70, kq_71, kq_72, kq_73, kq_74, kq_75, kq_76, kq_77, kq_78, kq_79, kq_80, kq_81, pq_0_0, pq_0_1, pq_0_2, pq_0_3, pq_0_4, pq_0_5, pq_0_6, pq_0_7, pq_1_0, pq_1_1, pq_1_2, pq_1_3, pq_1_4, pq_1_5, pq_1_6, pq_1_7, pq_10_0, pq_10_1, pq_10_2, pq_10_3, pq_15_0, pq_17_0, pq_19_0, pq_21_0, pq_21_1, pq_21_2, pq_21_3, pq_21_4, pq_21_5, pq_28_0, pq_30_0, pq_30_1, pq_30_2, pq_31_0, pq_35_0, pq_35_1, pq_35_2, pq_36_0, pq_40_0, pq_40_1, pq_40_2, pq_41_0, pq_45_0, pq_45_1, pq_45_2, pq_46_0, pq_50_0, pq_52_0, pq_52_1, pq_52_2, pq_52_3, pq_52_4, pq_52_5, pq_52_6, pq_52_8, pq_52_10, pq_52_11, pq_52_14, pq_52_15, pq_52_16, pq_52_17, pq_52_18, pq_52_27, pq_52_29, pq_52_30, pq_52_31, pq_52_32, pq_52_33, pq_52_34, pq_52_35, pq_52_36, pq_52_37, pq_52_38, pq_52_39, pq_52_40, pq_52_41, aq_1, aq_11, aq_12, aq_13, aq_14, aq_16, aq_18, aq_20, aq_22, aq_23, aq_24, aq_25, aq_26, aq_27, aq_29, aq_32, aq_33, aq_34, aq_37, aq_38, aq_39, aq_42, aq_43, aq_44, aq_47, aq_48, aq_49, aq_51, aq_53, aq_54, aq_55, aq_56, aq_57, aq_58, aq_59, aq_60, aq_61, aq_62, aq_63, aq_64, aq_65, aq_66, aq_67, aq_68, aq_69, aq_70, aq_71, aq_72, aq_73, aq_74, aq_75, aq_76, aq_77, aq_78, aq_79, aq_80, aq_81]
theorem m97 {id src dst : Nat} (hid : z 52 21 = nI id) (hid2 : id ≤ 3000) (hs : src < 2 ^ 32) (hd : dst < 2 ^ 32) (hf : 100 < f) : ∃ z', F_97 f 52 (nI src) (nI dst) (hq z w c s) = some (.inl none, hq z' w c s) ∧ mb z' 62 20 (hdG (fun _ => 0) 1157627904 id src dst) ∧ (∀ a, a ≠ 52 → a ≠ 62 → z' a = z a) ∧ z' 52 21 = nI (id + 1) ∧ ∀ k, k ≠ 21 → z' 52 k = z 52 k := by
  have s1 := lp_97 (f := f) (w := w) (c := c) (s := s) (l1 := nI src) (l2 := nI dst) 20 0 (f - 20) z (by omega)
  rw [show f - 20 + 20 = f by omega] at s1
  obtain ⟨z1, e1⟩ : ∃ x, x = va_up z 62 (fun i => if 0 ≤ i ∧ i < 0 + 20 then 0 else z 62 i) := ⟨_, rfl⟩
  rw [← e1] at s1
  have n1 : ∀ a, a ≠ 62 → z1 a = z a := fun a ha => by rw [e1, va_up_ne _ _ ha]
  have b1' : mb z1 62 20 (fun _ => 0) := ⟨fun _ => by show 0 < 256; omega, fun i hi => by rw [e1, va_up_self, if_pos (by omega)]; rfl⟩
  obtain ⟨z2, e2⟩ : ∃ x, x = va_up z1 62 (upd (z1 62) 0 69) := ⟨_, rfl⟩
  have n2' : ∀ a, a ≠ 62 → z2 a = z a := fun a ha => by rw [e2, va_up_ne _ _ ha, n1 a ha]
  have b2' : mb z2 62 20 (b1 (fun _ => 0) 0 69) := by rw [e2]; exact mb_1 (v := 69) b1' (by omega) (fun i hi _ => hi)
  obtain ⟨z3, e3⟩ : ∃ x, x = u2z z2 62 4 id := ⟨_, rfl⟩
  have n3 : ∀ a, a ≠ 62 → z3 a = z a := fun a ha => by rw [e3, u2z_ne ha, n2' a ha]
  have b3' : mb z3 62 20 (bu2 (b1 (fun _ => 0) 0 69) 4 id) := by rw [e3]; exact mb_u2 b2' (fun i hi _ _ => hi)
  obtain ⟨z4, e4⟩ : ∃ x, x = va_up z3 62 (upd (z3 62) 8 64) := ⟨_, rfl⟩
  have n4' : ∀ a, a ≠ 62 → z4 a = z a := fun a ha => by rw [e4, va_up_ne _ _ ha, n3 a ha]
  have b4' : mb z4 62 20 (b1 (bu2 (b1 (fun _ => 0) 0 69) 4 id) 8 64) := by rw [e4]; exact mb_1 (v := 64) b3' (by omega) (fun i hi _ => hi)
  obtain ⟨z5, e5⟩ : ∃ x, x = va_up z4 62 (upd (z4 62) 9 1) := ⟨_, rfl⟩
  have n5' : ∀ a, a ≠ 62 → z5 a = z a := fun a ha => by rw [e5, va_up_ne _ _ ha, n4' a ha]
  have b5' : mb z5 62 20 (b1 (b1 (bu2 (b1 (fun _ => 0) 0 69) 4 id) 8 64) 9 1) := by rw [e5]; exact mb_1 (v := 1) b4' (by omega) (fun i hi _ => hi)
  obtain ⟨z6, e6⟩ : ∃ x, x = u2z (u2z z5 62 12 (src / 65536)) 62 14 (src % 65536) := ⟨_, rfl⟩
  have n6' : ∀ a, a ≠ 62 → z6 a = z a := fun a ha => by rw [e6, u2z_ne ha, u2z_ne ha, n5' a ha]
  have b6' : mb z6 62 20 (bu4 (b1 (b1 (bu2 (b1 (fun _ => 0) 0 69) 4 id) 8 64) 9 1) 12 src) := by
    rw [e6, ← bu22]; exact mb_u2 (mb_u2 b5' (fun i hi _ _ => hi)) (fun i hi _ _ => hi)
  obtain ⟨z7, e7⟩ : ∃ x, x = u2z (u2z z6 62 16 (dst / 65536)) 62 18 (dst % 65536) := ⟨_, rfl⟩
  have n7 : ∀ a, a ≠ 62 → z7 a = z a := fun a ha => by rw [e7, u2z_ne ha, u2z_ne ha, n6' a ha]
  have b7' : mb z7 62 20 (bu4 (bu4 (b1 (b1 (bu2 (b1 (fun _ => 0) 0 69) 4 id) 8 64) 9 1) 12 src) 16 dst) := by
    rw [e7, ← bu22]; exact mb_u2 (mb_u2 b6' (fun i hi _ _ => hi)) (fun i hi _ _ => hi)
  have k62 : ∀ z, hp_k (hq z w c s) 62 = some (64, 4200) := fun z => kq_62
  have qa : F_88 f 62 4 (nI id) (hq z2 w c s) = some (.inl none, hq z3 w c s) := by rw [e3]; exact m88 (t := 4) (N := 4200) k62 (by omega) (by omega) (by omega)
  have qb : F_91 f 62 12 (nI src) (hq z5 w c s) = some (.inl none, hq z6 w c s) := by rw [e6]; exact m91 (t := 12) (N := 4200) k62 (by omega) (by omega) hs
  have qc : F_91 f 62 16 (nI dst) (hq z6 w c s) = some (.inl none, hq z7 w c s) := by rw [e7]; exact m91 (t := 16) (N := 4200) k62 (by omega) (by omega) hd
  have rr : nI id - nI id / (65536 : Int32) * (65536 : Int32) = nI id := by
    rw [show (65536 : Int32) = nI 65536 from rfl, nI_divN (by omega) (by omega), nI_mulN, nI_subN (by omega)]
    exact congrArg nI (by omega)
  obtain ⟨g, hg⟩ : ∃ g, f - 20 = g + 1 := ⟨f - 20 - 1, by omega⟩
  have y0 : (20 : Int32) ≤ nI (0 + 20) := nI_le (a := 20) (by omega) (by omega)
  have i0 : ev_in 0 4200 = true := by decide
  have i8 : ev_in 8 4200 = true := by decide
  have i9 : ev_in 9 4200 = true := by decide
  have c0 : Int32.toNatClampNeg 0 = 0 := rfl
  have c8' : Int32.toNatClampNeg 8 = 8 := rfl
  have c9 : Int32.toNatClampNeg 9 = 9 := rfl
  have g21 : z2 52 21 = nI id := by rw [n2' 52 (by omega)]; exact hid
  have g27 : z7 52 21 = nI id := by rw [n7 52 (by omega)]; exact hid
  refine ⟨va_up z7 52 (upd (z7 52) 21 (nI (id + 1))), ?_, ?_, fun a h52 h62 => by rw [va_up_ne _ _ h52, n7 a h62], by rw [va_up_self, pk_us], fun k hk => by rw [va_up_self, pk_un hk, n7 52 (by omega)]⟩
  · refine Eq.trans (show F_97 f 52 (nI src) (nI dst) (hq z w c s) = _ from s1) ?_
    rw [hg]
    simp only [B_97_2, y0, i0, i8, i9, c0, c8', c9, ← e2, g21, rr, qa, ← e4, ← e5, qb, qc, g27, nI_1, dg_1, db_1, db_0, dl_1, dp_1, dv_1, dv_x, di_1, di_x, dw_1, ec_eq, ec_ne, ec_lt, ec_ge, ec_gt, ec_le, hq_z, hq_wz, hq_wc, hq_thr, hq_p29, hq_pw, eq_self, decide_true, decide_false, not_true_eq_false, not_false_eq_true, kq_0, kq_1, kq_2, kq_3, kq_4, kq_5, kq_6, kq_7, kq_8, kq_9, kq_10, kq_11, kq_12, kq_13, kq_14, kq_15, kq_16, kq_17, kq_18, kq_19, kq_20, kq_21, kq_22, kq_23, kq_24, kq_25, kq_26, kq_27, kq_28, kq_29, kq_30, kq_31, kq_32, kq_33, kq_34, kq_35, kq_36, kq_37, kq_38, kq_39, kq_40, kq_41, kq_42, kq_43, kq_44, kq_45, kq_46, kq_47, kq_48, kq_49, kq_50, kq_51, kq_52, kq_53, kq_54, kq_55, kq_56, kq_57, kq_58, kq_59, kq_60, kq_61, kq_62, kq_63, kq_64, kq_65, kq_66, kq_67, kq_68, kq_69, kq_70, kq_71, kq_72, kq_73, kq_74, kq_75, kq_76, kq_77, kq_78, kq_79, kq_80, kq_81, pq_0_0, pq_0_1, pq_0_2, pq_0_3, pq_0_4, pq_0_5, pq_0_6, pq_0_7, pq_1_0, pq_1_1, pq_1_2, pq_1_3, pq_1_4, pq_1_5, pq_1_6, pq_1_7, pq_10_0, pq_10_1, pq_10_2, pq_10_3, pq_15_0, pq_17_0, pq_19_0, pq_21_0, pq_21_1, pq_21_2, pq_21_3, pq_21_4, pq_21_5, pq_28_0, pq_30_0, pq_30_1, pq_30_2, pq_31_0, pq_35_0, pq_35_1, pq_35_2, pq_36_0, pq_40_0, pq_40_1, pq_40_2, pq_41_0, pq_45_0, pq_45_1, pq_45_2, pq_46_0, pq_50_0, pq_52_0, pq_52_1, pq_52_2, pq_52_3, pq_52_4, pq_52_5, pq_52_6, pq_52_8, pq_52_10, pq_52_11, pq_52_14, pq_52_15, pq_52_16, pq_52_17, pq_52_18, pq_52_27, pq_52_29, pq_52_30, pq_52_31, pq_52_32, pq_52_33, pq_52_34, pq_52_35, pq_52_36, pq_52_37, pq_52_38, pq_52_39, pq_52_40, pq_52_41, aq_1, aq_11, aq_12, aq_13, aq_14, aq_16, aq_18, aq_20, aq_22, aq_23, aq_24, aq_25, aq_26, aq_27, aq_29, aq_32, aq_33, aq_34, aq_37, aq_38, aq_39, aq_42, aq_43, aq_44, aq_47, aq_48, aq_49, aq_51, aq_53, aq_54, aq_55, aq_56, aq_57, aq_58, aq_59, aq_60, aq_61, aq_62, aq_63, aq_64, aq_65, aq_66, aq_67, aq_68, aq_69, aq_70, aq_71, aq_72, aq_73, aq_74, aq_75, aq_76, aq_77, aq_78, aq_79, aq_80, aq_81]
  · refine mb_ne (by decide) (mb_of b7' (hdG_lt (fun _ => by show 0 < 256; omega) _ _ _ _) (fun i hi => ?_))
    unfold hdG
    have hpre : b1 (b1 (bu2 (b1 (fun _ => 0) 0 69) 4 id) 8 64) 9 1 = bu4 (bu4 (bu4 (fun _ => 0) 0 1157627904) 4 (id * 65536)) 8 1073807360 := by
      funext j
      unfold bu4 bu2 b1
      by_cases h : j < 12
      · rcases (show j = 0 ∨ j = 1 ∨ j = 2 ∨ j = 3 ∨ j = 4 ∨ j = 5 ∨ j = 6 ∨ j = 7 ∨ j = 8 ∨ j = 9 ∨ j = 10 ∨ j = 11 by omega) with rfl | rfl | rfl | rfl | rfl | rfl | rfl | rfl | rfl | rfl | rfl | rfl <;> simp <;> omega
      · repeat (rw [if_neg (by omega)])
    rw [hpre]
theorem m98 {ty co re : Nat} (hE : mE S z) (hW : wE S) (hpt : p < 8) (hP : mb z 61 M P) (hM : M ≤ 4100) (h0 : 20 ≤ hl P) (h12 : z 52 12 = nI sz) (hsz2 : sz ≤ 70000) (hl2 : hl P ≤ sz) (hq8 : q = if sz - hl P < 8 then sz - hl P else 8) (hMq : hl P + q ≤ M) (hty : ty < 256) (hco : co < 256) (hre : re < 2 ^ 32) (h2 : cn S 2 < 50) (h11 : cn S 11 ≤ 4800) (hf : 20000 < f) : ∃ z', F_98 f 52 (nI p) (nI ty) (nI co) (nI re) (hq z w c s) = some (.inl none, hq z' w c s) ∧ mE (erS S p P q ty co re) z' ∧ (∀ a, a ≠ 52 → a < 62 ∨ 67 < a → z' a = z a) ∧ ∀ k, k ≠ 13 → k ≠ 19 → k ≠ 20 → k ≠ 21 → z' 52 k = z 52 k := by
  have hl6 := hl_le P
  have hq9 : q ≤ 8 := by rw [hq8]; split <;> omega
  have l6 := n2_lt hP.1 6
  have l12 := n4_lt hP.1 12
  have b0 := hP.1 0
  have b9 := hP.1 9
  have v0 := hP.2 0 (by omega)
  have v9 := hP.2 9 (by omega)
  have e15 := (nI_mask (a := P 0) (by omega)).1
  have hm4 := hl_m (B := P)
  have i0 : ev_in 0 4100 = true := by decide
  have i9 : ev_in 9 4100 = true := by decide
  have c0 : Int32.toNatClampNeg 0 = 0 := rfl
  have c9 : Int32.toNatClampNeg 9 = 9 := rfl
  have ip : ev_in (nI p) 8 = true := ev_in_nI hpt (by omega)
  have cp : (nI p).toNatClampNeg = p := nI_clamp (by omega)
  have hE' := hE
  have hW' := hW
  obtain ⟨E1, E2, E3, E4⟩ := hE
  obtain ⟨W1, ⟨W2, W3⟩, ⟨W4, W5⟩, W6⟩ := hW
  have g3 := (E1 p hpt).2.2
  have t3 : z 52 20 = nI (cn S 3) := E2.trans W2
  have q89 : F_89 f 61 6 (hq z w c s) = some (.inl (some (.int (nI (n2 P 6)))), hq z w c s) := n89 (t := 6) kq_61 hP hM (by omega) (by omega)
  have q90 : F_90 f 61 12 (hq z w c s) = some (.inl (some (.int (nI (n4 P 12)))), hq z w c s) := n90 (t := 12) kq_61 hP hM (by omega) (by omega)
  have e81 := (nI_mask (a := n2 P 6) (by omega)).2.2.1
  -- what is bad of a packet of the control's protocol
  obtain ⟨bad, ebad⟩ : ∃ x, x = (if P 9 = 1 ∧ (q = 0 ∨ (¬ P (hl P) = 8 ∧ ¬ P (hl P) = 0)) then 1 else 0 : Int32) := ⟨_, rfl⟩
  have s1 : F_98 f 52 (nI p) (nI ty) (nI co) (nI re) (hq z w c s) = B_98_60 f 52 (nI p) (nI ty) (nI co) (nI re) (nI (hl P)) bad (hq z w c s) := by
    by_cases h1 : P 9 = 1
    case neg =>
      have h1' : ¬ nI (P 9) = 1 := fun h => h1 ((nI_eq (b := 1) (by omega) (by omega)).mp h)
      rw [ebad, if_neg (fun h => h1 h.1)]
      simp only [F_98, B_98_59, i0, i9, c0, c9, v0, v9, e15, hm4, h1', dg_1, db_1, db_0, dl_1, dp_1, dv_1, dv_x, di_1, di_x, dw_1, ec_eq, ec_ne, ec_lt, ec_ge, ec_gt, ec_le, hq_z, hq_wz, hq_wc, hq_thr, hq_p29, hq_pw, eq_self, decide_true, decide_false, not_true_eq_false, not_false_eq_true, kq_0, kq_1, kq_2, kq_3, kq_4, kq_5, kq_6, kq_7, kq_8, kq_9, kq_10, kq_11, kq_12, kq_13, kq_14, kq_15, kq_16, kq_17, kq_18, kq_19, kq_20, kq_21, kq_22, kq_23, kq_24, kq_25, kq_26, kq_27, kq_28, kq_29, kq_30, kq_31, kq_32, kq_33, kq_34, kq_35, kq_36, kq_37, kq_38, kq_39, kq_40, kq_41, kq_42, kq_43, kq_44, kq_45, kq_46, kq_47, kq_48, kq_49, kq_50, kq_51, kq_52, kq_53, kq_54, kq_55, kq_56, kq_57, kq_58, kq_59, kq_60, kq_61, kq_62, kq_63, kq_64, kq_65, kq_66, kq_67, kq_68, kq_69, kq_70, kq_71, kq_72, kq_73, kq_74, kq_75, kq_76, kq_77, kq_78, kq_79, kq_80, kq_81, pq_0_0, pq_0_1, pq_0_2, pq_0_3, pq_0_4, pq_0_5, pq_0_6, pq_0_7, pq_1_0, pq_1_1, pq_1_2, pq_1_3, pq_1_4, pq_1_5, pq_1_6, pq_1_7, pq_10_0, pq_10_1, pq_10_2, pq_10_3, pq_15_0, pq_17_0, pq_19_0, pq_21_0, pq_21_1, pq_21_2, pq_21_3, pq_21_4, pq_21_5, pq_28_0, pq_30_0, pq_30_1, pq_30_2, pq_31_0, pq_35_0, pq_35_1, pq_35_2, pq_36_0, pq_40_0, pq_40_1, pq_40_2, pq_41_0, pq_45_0, pq_45_1, pq_45_2, pq_46_0, pq_50_0, pq_52_0, pq_52_1, pq_52_2, pq_52_3, pq_52_4, pq_52_5, pq_52_6, pq_52_8, pq_52_10, pq_52_11, pq_52_14, pq_52_15, pq_52_16, pq_52_17, pq_52_18, pq_52_27, pq_52_29, pq_52_30, pq_52_31, pq_52_32, pq_52_33, pq_52_34, pq_52_35, pq_52_36, pq_52_37, pq_52_38, pq_52_39, pq_52_40, pq_52_41, aq_1, aq_11, aq_12, aq_13, aq_14, aq_16, aq_18, aq_20, aq_22, aq_23, aq_24, aq_25, aq_26, aq_27, aq_29, aq_32, aq_33, aq_34, aq_37, aq_38, aq_39, aq_42, aq_43, aq_44, aq_47, aq_48, aq_49, aq_51, aq_53, aq_54, aq_55, aq_56, aq_57, aq_58, aq_59, aq_60, aq_61, aq_62, aq_63, aq_64, aq_65, aq_66, aq_67, aq_68, aq_69, aq_70, aq_71, aq_72, aq_73, aq_74, aq_75, aq_76, aq_77, aq_78, aq_79, aq_80, aq_81]
    have h1' : nI (P 9) = 1 := by rw [h1]; rfl
    by_cases h3 : q = 0
    · have h3' : nI sz = nI (hl P) := by
        have : sz = hl P := by rw [hq8] at h3; split at h3 <;> omega
        rw [this]
      rw [ebad, if_pos ⟨h1, Or.inl h3⟩]
      simp only [F_98, B_98_55, i0, i9, c0, c9, v0, v9, e15, hm4, h1', h12, h3', dg_1, db_1, db_0, dl_1, dp_1, dv_1, dv_x, di_1, di_x, dw_1, ec_eq, ec_ne, ec_lt, ec_ge, ec_gt, ec_le, hq_z, hq_wz, hq_wc, hq_thr, hq_p29, hq_pw, eq_self, decide_true, decide_false, not_true_eq_false, not_false_eq_true, kq_0, kq_1, kq_2, kq_3, kq_4, kq_5, kq_6, kq_7, kq_8, kq_9, kq_10, kq_11, kq_12, kq_13, kq_14, kq_15, kq_16, kq_17, kq_18, kq_19, kq_20, kq_21, kq_22, kq_23, kq_24, kq_25, kq_26, kq_27, kq_28, kq_29, kq_30, kq_31, kq_32, kq_33, kq_34, kq_35, kq_36, kq_37, kq_38, kq_39, kq_40, kq_41, kq_42, kq_43, kq_44, kq_45, kq_46, kq_47, kq_48, kq_49, kq_50, kq_51, kq_52, kq_53, kq_54, kq_55, kq_56, kq_57, kq_58, kq_59, kq_60, kq_61, kq_62, kq_63, kq_64, kq_65, kq_66, kq_67, kq_68, kq_69, kq_70, kq_71, kq_72, kq_73, kq_74, kq_75, kq_76, kq_77, kq_78, kq_79, kq_80, kq_81, pq_0_0, pq_0_1, pq_0_2, pq_0_3, pq_0_4, pq_0_5, pq_0_6, pq_0_7, pq_1_0, pq_1_1, pq_1_2, pq_1_3, pq_1_4, pq_1_5, pq_1_6, pq_1_7, pq_10_0, pq_10_1, pq_10_2, pq_10_3, pq_15_0, pq_17_0, pq_19_0, pq_21_0, pq_21_1, pq_21_2, pq_21_3, pq_21_4, pq_21_5, pq_28_0, pq_30_0, pq_30_1, pq_30_2, pq_31_0, pq_35_0, pq_35_1, pq_35_2, pq_36_0, pq_40_0, pq_40_1, pq_40_2, pq_41_0, pq_45_0, pq_45_1, pq_45_2, pq_46_0, pq_50_0, pq_52_0, pq_52_1, pq_52_2, pq_52_3, pq_52_4, pq_52_5, pq_52_6, pq_52_8, pq_52_10, pq_52_11, pq_52_14, pq_52_15, pq_52_16, pq_52_17, pq_52_18, pq_52_27, pq_52_29, pq_52_30, pq_52_31, pq_52_32, pq_52_33, pq_52_34, pq_52_35, pq_52_36, pq_52_37, pq_52_38, pq_52_39, pq_52_40, pq_52_41, aq_1, aq_11, aq_12, aq_13, aq_14, aq_16, aq_18, aq_20, aq_22, aq_23, aq_24, aq_25, aq_26, aq_27, aq_29, aq_32, aq_33, aq_34, aq_37, aq_38, aq_39, aq_42, aq_43, aq_44, aq_47, aq_48, aq_49, aq_51, aq_53, aq_54, aq_55, aq_56, aq_57, aq_58, aq_59, aq_60, aq_61, aq_62, aq_63, aq_64, aq_65, aq_66, aq_67, aq_68, aq_69, aq_70, aq_71, aq_72, aq_73, aq_74, aq_75, aq_76, aq_77, aq_78, aq_79, aq_80, aq_81]
    have h3' : ¬ nI sz = nI (hl P) := by
      rw [nI_eq (by omega) (by omega)]
      intro h4
      apply h3
      rw [hq8, if_pos (by omega)]; omega
    have ih : ev_in (nI (hl P)) 4100 = true := ev_in_nI (by omega) (by omega)
    have ch : (nI (hl P)).toNatClampNeg = hl P := nI_clamp (by omega)
    have vh := hP.2 (hl P) (by omega)
    have bh := hP.1 (hl P)
    by_cases h4 : P (hl P) = 8
    · have h4' : nI (P (hl P)) = 8 := by rw [h4]; rfl
      rw [ebad, if_neg (fun h => by rcases h.2 with h9 | h9; exact h3 h9; exact h9.1 h4)]
      simp only [F_98, B_98_59, i0, i9, c0, c9, v0, v9, e15, hm4, h1', h12, h3', ih, ch, vh, h4', dg_1, db_1, db_0, dl_1, dp_1, dv_1, dv_x, di_1, di_x, dw_1, ec_eq, ec_ne, ec_lt, ec_ge, ec_gt, ec_le, hq_z, hq_wz, hq_wc, hq_thr, hq_p29, hq_pw, eq_self, decide_true, decide_false, not_true_eq_false, not_false_eq_true, kq_0, kq_1, kq_2, kq_3, kq_4, kq_5, kq_6, kq_7, kq_8, kq_9, kq_10, kq_11, kq_12, kq_13, kq_14, kq_15, kq_16, kq_17, kq_18, kq_19, kq_20, kq_21, kq_22, kq_23, kq_24, kq_25, kq_26, kq_27, kq_28, kq_29, kq_30, kq_31, kq_32, kq_33, kq_34, kq_35, kq_36, kq_37, kq_38, kq_39, kq_40, kq_41, kq_42, kq_43, kq_44, kq_45, kq_46, kq_47, kq_48, kq_49, kq_50, kq_51, kq_52, kq_53, kq_54, kq_55, kq_56, kq_57, kq_58, kq_59, kq_60, kq_61, kq_62, kq_63, kq_64, kq_65, kq_66, kq_67, kq_68, kq_69, kq_70, kq_71, kq_72, kq_73, kq_74, kq_75, kq_76, kq_77, kq_78, kq_79, kq_80, kq_81, pq_0_0, pq_0_1, pq_0_2, pq_0_3, pq_0_4, pq_0_5, pq_0_6, pq_0_7, pq_1_0, pq_1_1, pq_1_2, pq_1_3, pq_1_4, pq_1_5, pq_1_6, pq_1_7, pq_10_0, pq_10_1, pq_10_2, pq_10_3, pq_15_0, pq_17_0, pq_19_0, pq_21_0, pq_21_1, pq_21_2, pq_21_3, pq_21_4, pq_21_5, pq_28_0, pq_30_0, pq_30_1, pq_30_2, pq_31_0, pq_35_0, pq_35_1, pq_35_2, pq_36_0, pq_40_0, pq_40_1, pq_40_2, pq_41_0, pq_45_0, pq_45_1, pq_45_2, pq_46_0, pq_50_0, pq_52_0, pq_52_1, pq_52_2, pq_52_3, pq_52_4, pq_52_5, pq_52_6, pq_52_8, pq_52_10, pq_52_11, pq_52_14, pq_52_15, pq_52_16, pq_52_17, pq_52_18, pq_52_27, pq_52_29, pq_52_30, pq_52_31, pq_52_32, pq_52_33, pq_52_34, pq_52_35, pq_52_36, pq_52_37, pq_52_38, pq_52_39, pq_52_40, pq_52_41, aq_1, aq_11, aq_12, aq_13, aq_14, aq_16, aq_18, aq_20, aq_22, aq_23, aq_24, aq_25, aq_26, aq_27, aq_29, aq_32, aq_33, aq_34, aq_37, aq_38, aq_39, aq_42, aq_43, aq_44, aq_47, aq_48, aq_49, aq_51, aq_53, aq_54, aq_55, aq_56, aq_57, aq_58, aq_59, aq_60, aq_61, aq_62, aq_63, aq_64, aq_65, aq_66, aq_67, aq_68, aq_69, aq_70, aq_71, aq_72, aq_73, aq_74, aq_75, aq_76, aq_77, aq_78, aq_79, aq_80, aq_81]
    have h4' : ¬ nI (P (hl P)) = 8 := fun h => h4 ((nI_eq (b := 8) (by omega) (by omega)).mp h)
    by_cases h5 : P (hl P) = 0
    · have h5' : nI (P (hl P)) = 0 := by rw [h5]; rfl
      rw [ebad, if_neg (fun h => by rcases h.2 with h9 | h9; exact h3 h9; exact h9.2 h5)]
      simp only [F_98, B_98_59, i0, i9, c0, c9, v0, v9, e15, hm4, h1', h12, h3', ih, ch, vh, h5', show ¬ (0 : Int32) = 8 by decide, dg_1, db_1, db_0, dl_1, dp_1, dv_1, dv_x, di_1, di_x, dw_1, ec_eq, ec_ne, ec_lt, ec_ge, ec_gt, ec_le, hq_z, hq_wz, hq_wc, hq_thr, hq_p29, hq_pw, eq_self, decide_true, decide_false, not_true_eq_false, not_false_eq_true, kq_0, kq_1, kq_2, kq_3, kq_4, kq_5, kq_6, kq_7, kq_8, kq_9, kq_10, kq_11, kq_12, kq_13, kq_14, kq_15, kq_16, kq_17, kq_18, kq_19, kq_20, kq_21, kq_22, kq_23, kq_24, kq_25, kq_26, kq_27, kq_28, kq_29, kq_30, kq_31, kq_32, kq_33, kq_34, kq_35, kq_36, kq_37, kq_38, kq_39, kq_40, kq_41, kq_42, kq_43, kq_44, kq_45, kq_46, kq_47, kq_48, kq_49, kq_50, kq_51, kq_52, kq_53, kq_54, kq_55, kq_56, kq_57, kq_58, kq_59, kq_60, kq_61, kq_62, kq_63, kq_64, kq_65, kq_66, kq_67, kq_68, kq_69, kq_70, kq_71, kq_72, kq_73, kq_74, kq_75, kq_76, kq_77, kq_78, kq_79, kq_80, kq_81, pq_0_0, pq_0_1, pq_0_2, pq_0_3, pq_0_4, pq_0_5, pq_0_6, pq_0_7, pq_1_0, pq_1_1, pq_1_2, pq_1_3, pq_1_4, pq_1_5, pq_1_6, pq_1_7, pq_10_0, pq_10_1, pq_10_2, pq_10_3, pq_15_0, pq_17_0, pq_19_0, pq_21_0, pq_21_1, pq_21_2, pq_21_3, pq_21_4, pq_21_5, pq_28_0, pq_30_0, pq_30_1, pq_30_2, pq_31_0, pq_35_0, pq_35_1, pq_35_2, pq_36_0, pq_40_0, pq_40_1, pq_40_2, pq_41_0, pq_45_0, pq_45_1, pq_45_2, pq_46_0, pq_50_0, pq_52_0, pq_52_1, pq_52_2, pq_52_3, pq_52_4, pq_52_5, pq_52_6, pq_52_8, pq_52_10, pq_52_11, pq_52_14, pq_52_15, pq_52_16, pq_52_17, pq_52_18, pq_52_27, pq_52_29, pq_52_30, pq_52_31, pq_52_32, pq_52_33, pq_52_34, pq_52_35, pq_52_36, pq_52_37, pq_52_38, pq_52_39, pq_52_40, pq_52_41, aq_1, aq_11, aq_12, aq_13, aq_14, aq_16, aq_18, aq_20, aq_22, aq_23, aq_24, aq_25, aq_26, aq_27, aq_29, aq_32, aq_33, aq_34, aq_37, aq_38, aq_39, aq_42, aq_43, aq_44, aq_47, aq_48, aq_49, aq_51, aq_53, aq_54, aq_55, aq_56, aq_57, aq_58, aq_59, aq_60, aq_61, aq_62, aq_63, aq_64, aq_65, aq_66, aq_67, aq_68, aq_69, aq_70, aq_71, aq_72, aq_73, aq_74, aq_75, aq_76, aq_77, aq_78, aq_79, aq_80, aq_81]
    · have h5' : ¬ nI (P (hl P)) = 0 := nI_ne0 (by omega) (by omega)
      rw [ebad, if_pos ⟨h1, Or.inr ⟨h4, h5⟩⟩]
      simp only [F_98, B_98_55, i0, i9, c0, c9, v0, v9, e15, hm4, h1', h12, h3', ih, ch, vh, h4', h5', dg_1, db_1, db_0, dl_1, dp_1, dv_1, dv_x, di_1, di_x, dw_1, ec_eq, ec_ne, ec_lt, ec_ge, ec_gt, ec_le, hq_z, hq_wz, hq_wc, hq_thr, hq_p29, hq_pw, eq_self, decide_true, decide_false, not_true_eq_false, not_false_eq_true, kq_0, kq_1, kq_2, kq_3, kq_4, kq_5, kq_6, kq_7, kq_8, kq_9, kq_10, kq_11, kq_12, kq_13, kq_14, kq_15, kq_16, kq_17, kq_18, kq_19, kq_20, kq_21, kq_22, kq_23, kq_24, kq_25, kq_26, kq_27, kq_28, kq_29, kq_30, kq_31, kq_32, kq_33, kq_34, kq_35, kq_36, kq_37, kq_38, kq_39, kq_40, kq_41, kq_42, kq_43, kq_44, kq_45, kq_46, kq_47, kq_48, kq_49, kq_50, kq_51, kq_52, kq_53, kq_54, kq_55, kq_56, kq_57, kq_58, kq_59, kq_60, kq_61, kq_62, kq_63, kq_64, kq_65, kq_66, kq_67, kq_68, kq_69, kq_70, kq_71, kq_72, kq_73, kq_74, kq_75, kq_76, kq_77, kq_78, kq_79, kq_80, kq_81, pq_0_0, pq_0_1, pq_0_2, pq_0_3, pq_0_4, pq_0_5, pq_0_6, pq_0_7, pq_1_0, pq_1_1, pq_1_2, pq_1_3, pq_1_4, pq_1_5, pq_1_6, pq_1_7, pq_10_0, pq_10_1, pq_10_2, pq_10_3, pq_15_0, pq_17_0, pq_19_0, pq_21_0, pq_21_1, pq_21_2, pq_21_3, pq_21_4, pq_21_5, pq_28_0, pq_30_0, pq_30_1, pq_30_2, pq_31_0, pq_35_0, pq_35_1, pq_35_2, pq_36_0, pq_40_0, pq_40_1, pq_40_2, pq_41_0, pq_45_0, pq_45_1, pq_45_2, pq_46_0, pq_50_0, pq_52_0, pq_52_1, pq_52_2, pq_52_3, pq_52_4, pq_52_5, pq_52_6, pq_52_8, pq_52_10, pq_52_11, pq_52_14, pq_52_15, pq_52_16, pq_52_17, pq_52_18, pq_52_27, pq_52_29, pq_52_30, pq_52_31, pq_52_32, pq_52_33, pq_52_34, pq_52_35, pq_52_36, pq_52_37, pq_52_38, pq_52_39, pq_52_40, pq_52_41, aq_1, aq_11, aq_12, aq_13, aq_14, aq_16, aq_18, aq_20, aq_22, aq_23, aq_24, aq_25, aq_26, aq_27, aq_29, aq_32, aq_33, aq_34, aq_37, aq_38, aq_39, aq_42, aq_43, aq_44, aq_47, aq_48, aq_49, aq_51, aq_53, aq_54, aq_55, aq_56, aq_57, aq_58, aq_59, aq_60, aq_61, aq_62, aq_63, aq_64, aq_65, aq_66, aq_67, aq_68, aq_69, aq_70, aq_71, aq_72, aq_73, aq_74, aq_75, aq_76, aq_77, aq_78, aq_79, aq_80, aq_81]
  by_cases hx : S 2 p = 0
  · refine ⟨z, ?_, ?_, fun _ _ _ => rfl, fun _ _ _ _ _ => rfl⟩
    · rw [s1]
      rw [if_pos hx] at g3
      simp only [B_98_60, B_98_111, ip, cp, g3, show ¬ (1 : Int32) = 0 by decide, dg_1, db_1, db_0, dl_1, dp_1, dv_1, dv_x, di_1, di_x, dw_1, ec_eq, ec_ne, ec_lt, ec_ge, ec_gt, ec_le, hq_z, hq_wz, hq_wc, hq_thr, hq_p29, hq_pw, eq_self, decide_true, decide_false, not_true_eq_false, not_false_eq_true, kq_0, kq_1, kq_2, kq_3, kq_4, kq_5, kq_6, kq_7, kq_8, kq_9, kq_10, kq_11, kq_12, kq_13, kq_14, kq_15, kq_16, kq_17, kq_18, kq_19, kq_20, kq_21, kq_22, kq_23, kq_24, kq_25, kq_26, kq_27, kq_28, kq_29, kq_30, kq_31, kq_32, kq_33, kq_34, kq_35, kq_36, kq_37, kq_38, kq_39, kq_40, kq_41, kq_42, kq_43, kq_44, kq_45, kq_46, kq_47, kq_48, kq_49, kq_50, kq_51, kq_52, kq_53, kq_54, kq_55, kq_56, kq_57, kq_58, kq_59, kq_60, kq_61, kq_62, kq_63, kq_64, kq_65, kq_66, kq_67, kq_68, kq_69, kq_70, kq_71, kq_72, kq_73, kq_74, kq_75, kq_76, kq_77, kq_78, kq_79, kq_80, kq_81, pq_0_0, pq_0_1, pq_0_2, pq_0_3, pq_0_4, pq_0_5, pq_0_6, pq_0_7, pq_1_0, pq_1_1, pq_1_2, pq_1_3, pq_1_4, pq_1_5, pq_1_6, pq_1_7, pq_10_0, pq_10_1, pq_10_2, pq_10_3, pq_15_0, pq_17_0, pq_19_0, pq_21_0, pq_21_1, pq_21_2, pq_21_3, pq_21_4, pq_21_5, pq_28_0, pq_30_0, pq_30_1, pq_30_2, pq_31_0, pq_35_0, pq_35_1, pq_35_2, pq_36_0, pq_40_0, pq_40_1, pq_40_2, pq_41_0, pq_45_0, pq_45_1, pq_45_2, pq_46_0, pq_50_0, pq_52_0, pq_52_1, pq_52_2, pq_52_3, pq_52_4, pq_52_5, pq_52_6, pq_52_8, pq_52_10, pq_52_11, pq_52_14, pq_52_15, pq_52_16, pq_52_17, pq_52_18, pq_52_27, pq_52_29, pq_52_30, pq_52_31, pq_52_32, pq_52_33, pq_52_34, pq_52_35, pq_52_36, pq_52_37, pq_52_38, pq_52_39, pq_52_40, pq_52_41, aq_1, aq_11, aq_12, aq_13, aq_14, aq_16, aq_18, aq_20, aq_22, aq_23, aq_24, aq_25, aq_26, aq_27, aq_29, aq_32, aq_33, aq_34, aq_37, aq_38, aq_39, aq_42, aq_43, aq_44, aq_47, aq_48, aq_49, aq_51, aq_53, aq_54, aq_55, aq_56, aq_57, aq_58, aq_59, aq_60, aq_61, aq_62, aq_63, aq_64, aq_65, aq_66, aq_67, aq_68, aq_69, aq_70, aq_71, aq_72, aq_73, aq_74, aq_75, aq_76, aq_77, aq_78, aq_79, aq_80, aq_81]
    · unfold erS; rw [if_pos (Or.inl hx)]; exact hE'
  rw [if_neg hx] at g3
  by_cases hz : mayE P q
  case neg =>
    refine ⟨z, ?_, ?_, fun _ _ _ => rfl, fun _ _ _ _ _ => rfl⟩
    · rw [s1]
      by_cases hb : P 9 = 1 ∧ (q = 0 ∨ (¬ P (hl P) = 8 ∧ ¬ P (hl P) = 0))
      · rw [if_pos hb] at ebad
        simp only [B_98_60, B_98_111, ip, cp, g3, ebad, show ¬ (1 : Int32) = 0 by decide, dg_1, db_1, db_0, dl_1, dp_1, dv_1, dv_x, di_1, di_x, dw_1, ec_eq, ec_ne, ec_lt, ec_ge, ec_gt, ec_le, hq_z, hq_wz, hq_wc, hq_thr, hq_p29, hq_pw, eq_self, decide_true, decide_false, not_true_eq_false, not_false_eq_true, kq_0, kq_1, kq_2, kq_3, kq_4, kq_5, kq_6, kq_7, kq_8, kq_9, kq_10, kq_11, kq_12, kq_13, kq_14, kq_15, kq_16, kq_17, kq_18, kq_19, kq_20, kq_21, kq_22, kq_23, kq_24, kq_25, kq_26, kq_27, kq_28, kq_29, kq_30, kq_31, kq_32, kq_33, kq_34, kq_35, kq_36, kq_37, kq_38, kq_39, kq_40, kq_41, kq_42, kq_43, kq_44, kq_45, kq_46, kq_47, kq_48, kq_49, kq_50, kq_51, kq_52, kq_53, kq_54, kq_55, kq_56, kq_57, kq_58, kq_59, kq_60, kq_61, kq_62, kq_63, kq_64, kq_65, kq_66, kq_67, kq_68, kq_69, kq_70, kq_71, kq_72, kq_73, kq_74, kq_75, kq_76, kq_77, kq_78, kq_79, kq_80, kq_81, pq_0_0, pq_0_1, pq_0_2, pq_0_3, pq_0_4, pq_0_5, pq_0_6, pq_0_7, pq_1_0, pq_1_1, pq_1_2, pq_1_3, pq_1_4, pq_1_5, pq_1_6, pq_1_7, pq_10_0, pq_10_1, pq_10_2, pq_10_3, pq_15_0, pq_17_0, pq_19_0, pq_21_0, pq_21_1, pq_21_2, pq_21_3, pq_21_4, pq_21_5, pq_28_0, pq_30_0, pq_30_1, pq_30_2, pq_31_0, pq_35_0, pq_35_1, pq_35_2, pq_36_0, pq_40_0, pq_40_1, pq_40_2, pq_41_0, pq_45_0, pq_45_1, pq_45_2, pq_46_0, pq_50_0, pq_52_0, pq_52_1, pq_52_2, pq_52_3, pq_52_4, pq_52_5, pq_52_6, pq_52_8, pq_52_10, pq_52_11, pq_52_14, pq_52_15, pq_52_16, pq_52_17, pq_52_18, pq_52_27, pq_52_29, pq_52_30, pq_52_31, pq_52_32, pq_52_33, pq_52_34, pq_52_35, pq_52_36, pq_52_37, pq_52_38, pq_52_39, pq_52_40, pq_52_41, aq_1, aq_11, aq_12, aq_13, aq_14, aq_16, aq_18, aq_20, aq_22, aq_23, aq_24, aq_25, aq_26, aq_27, aq_29, aq_32, aq_33, aq_34, aq_37, aq_38, aq_39, aq_42, aq_43, aq_44, aq_47, aq_48, aq_49, aq_51, aq_53, aq_54, aq_55, aq_56, aq_57, aq_58, aq_59, aq_60, aq_61, aq_62, aq_63, aq_64, aq_65, aq_66, aq_67, aq_68, aq_69, aq_70, aq_71, aq_72, aq_73, aq_74, aq_75, aq_76, aq_77, aq_78, aq_79, aq_80, aq_81]
      rw [if_neg hb] at ebad
      by_cases h1 : n2 P 6 % 8192 = 0
      case neg =>
        have h1' : (0 : Int32) < nI (n2 P 6 % 8192) := nI_lt (a := 0) (by omega) (by omega)
        simp only [B_98_60, B_98_111, ip, cp, g3, ebad, q89, e81, h1', dg_1, db_1, db_0, dl_1, dp_1, dv_1, dv_x, di_1, di_x, dw_1, ec_eq, ec_ne, ec_lt, ec_ge, ec_gt, ec_le, hq_z, hq_wz, hq_wc, hq_thr, hq_p29, hq_pw, eq_self, decide_true, decide_false, not_true_eq_false, not_false_eq_true, kq_0, kq_1, kq_2, kq_3, kq_4, kq_5, kq_6, kq_7, kq_8, kq_9, kq_10, kq_11, kq_12, kq_13, kq_14, kq_15, kq_16, kq_17, kq_18, kq_19, kq_20, kq_21, kq_22, kq_23, kq_24, kq_25, kq_26, kq_27, kq_28, kq_29, kq_30, kq_31, kq_32, kq_33, kq_34, kq_35, kq_36, kq_37, kq_38, kq_39, kq_40, kq_41, kq_42, kq_43, kq_44, kq_45, kq_46, kq_47, kq_48, kq_49, kq_50, kq_51, kq_52, kq_53, kq_54, kq_55, kq_56, kq_57, kq_58, kq_59, kq_60, kq_61, kq_62, kq_63, kq_64, kq_65, kq_66, kq_67, kq_68, kq_69, kq_70, kq_71, kq_72, kq_73, kq_74, kq_75, kq_76, kq_77, kq_78, kq_79, kq_80, kq_81, pq_0_0, pq_0_1, pq_0_2, pq_0_3, pq_0_4, pq_0_5, pq_0_6, pq_0_7, pq_1_0, pq_1_1, pq_1_2, pq_1_3, pq_1_4, pq_1_5, pq_1_6, pq_1_7, pq_10_0, pq_10_1, pq_10_2, pq_10_3, pq_15_0, pq_17_0, pq_19_0, pq_21_0, pq_21_1, pq_21_2, pq_21_3, pq_21_4, pq_21_5, pq_28_0, pq_30_0, pq_30_1, pq_30_2, pq_31_0, pq_35_0, pq_35_1, pq_35_2, pq_36_0, pq_40_0, pq_40_1, pq_40_2, pq_41_0, pq_45_0, pq_45_1, pq_45_2, pq_46_0, pq_50_0, pq_52_0, pq_52_1, pq_52_2, pq_52_3, pq_52_4, pq_52_5, pq_52_6, pq_52_8, pq_52_10, pq_52_11, pq_52_14, pq_52_15, pq_52_16, pq_52_17, pq_52_18, pq_52_27, pq_52_29, pq_52_30, pq_52_31, pq_52_32, pq_52_33, pq_52_34, pq_52_35, pq_52_36, pq_52_37, pq_52_38, pq_52_39, pq_52_40, pq_52_41, aq_1, aq_11, aq_12, aq_13, aq_14, aq_16, aq_18, aq_20, aq_22, aq_23, aq_24, aq_25, aq_26, aq_27, aq_29, aq_32, aq_33, aq_34, aq_37, aq_38, aq_39, aq_42, aq_43, aq_44, aq_47, aq_48, aq_49, aq_51, aq_53, aq_54, aq_55, aq_56, aq_57, aq_58, aq_59, aq_60, aq_61, aq_62, aq_63, aq_64, aq_65, aq_66, aq_67, aq_68, aq_69, aq_70, aq_71, aq_72, aq_73, aq_74, aq_75, aq_76, aq_77, aq_78, aq_79, aq_80, aq_81]
      have h1' : ¬ (0 : Int32) < nI (n2 P 6 % 8192) := by rw [h1]; decide
      have h4 : n4 P 12 = 0 := by
        apply Classical.byContradiction
        intro h4
        apply hz
        refine ⟨h1, h4, ?_⟩
        by_cases h9 : P 9 = 1
        · refine Or.inr ⟨fun h => hb ⟨h9, Or.inl h⟩, ?_⟩
          by_cases h8 : P (hl P) = 8
          · exact Or.inl h8
          · by_cases h7 : P (hl P) = 0
            · exact Or.inr h7
            · exact absurd ⟨h9, Or.inr ⟨h8, h7⟩⟩ hb
        · exact Or.inl h9
      have h4' : nI (n4 P 12) = 0 := (nI_z l12).mpr h4
      simp only [B_98_60, B_98_111, ip, cp, g3, ebad, q89, e81, h1', q90, h4', dg_1, db_1, db_0, dl_1, dp_1, dv_1, dv_x, di_1, di_x, dw_1, ec_eq, ec_ne, ec_lt, ec_ge, ec_gt, ec_le, hq_z, hq_wz, hq_wc, hq_thr, hq_p29, hq_pw, eq_self, decide_true, decide_false, not_true_eq_false, not_false_eq_true, kq_0, kq_1, kq_2, kq_3, kq_4, kq_5, kq_6, kq_7, kq_8, kq_9, kq_10, kq_11, kq_12, kq_13, kq_14, kq_15, kq_16, kq_17, kq_18, kq_19, kq_20, kq_21, kq_22, kq_23, kq_24, kq_25, kq_26, kq_27, kq_28, kq_29, kq_30, kq_31, kq_32, kq_33, kq_34, kq_35, kq_36, kq_37, kq_38, kq_39, kq_40, kq_41, kq_42, kq_43, kq_44, kq_45, kq_46, kq_47, kq_48, kq_49, kq_50, kq_51, kq_52, kq_53, kq_54, kq_55, kq_56, kq_57, kq_58, kq_59, kq_60, kq_61, kq_62, kq_63, kq_64, kq_65, kq_66, kq_67, kq_68, kq_69, kq_70, kq_71, kq_72, kq_73, kq_74, kq_75, kq_76, kq_77, kq_78, kq_79, kq_80, kq_81, pq_0_0, pq_0_1, pq_0_2, pq_0_3, pq_0_4, pq_0_5, pq_0_6, pq_0_7, pq_1_0, pq_1_1, pq_1_2, pq_1_3, pq_1_4, pq_1_5, pq_1_6, pq_1_7, pq_10_0, pq_10_1, pq_10_2, pq_10_3, pq_15_0, pq_17_0, pq_19_0, pq_21_0, pq_21_1, pq_21_2, pq_21_3, pq_21_4, pq_21_5, pq_28_0, pq_30_0, pq_30_1, pq_30_2, pq_31_0, pq_35_0, pq_35_1, pq_35_2, pq_36_0, pq_40_0, pq_40_1, pq_40_2, pq_41_0, pq_45_0, pq_45_1, pq_45_2, pq_46_0, pq_50_0, pq_52_0, pq_52_1, pq_52_2, pq_52_3, pq_52_4, pq_52_5, pq_52_6, pq_52_8, pq_52_10, pq_52_11, pq_52_14, pq_52_15, pq_52_16, pq_52_17, pq_52_18, pq_52_27, pq_52_29, pq_52_30, pq_52_31, pq_52_32, pq_52_33, pq_52_34, pq_52_35, pq_52_36, pq_52_37, pq_52_38, pq_52_39, pq_52_40, pq_52_41, aq_1, aq_11, aq_12, aq_13, aq_14, aq_16, aq_18, aq_20, aq_22, aq_23, aq_24, aq_25, aq_26, aq_27, aq_29, aq_32, aq_33, aq_34, aq_37, aq_38, aq_39, aq_42, aq_43, aq_44, aq_47, aq_48, aq_49, aq_51, aq_53, aq_54, aq_55, aq_56, aq_57, aq_58, aq_59, aq_60, aq_61, aq_62, aq_63, aq_64, aq_65, aq_66, aq_67, aq_68, aq_69, aq_70, aq_71, aq_72, aq_73, aq_74, aq_75, aq_76, aq_77, aq_78, aq_79, aq_80, aq_81]
    · unfold erS; rw [if_pos (Or.inr (Or.inr hz))]; exact hE'
  have hb : ¬ (P 9 = 1 ∧ (q = 0 ∨ (¬ P (hl P) = 8 ∧ ¬ P (hl P) = 0))) := by
    rintro ⟨h9, h8⟩
    rcases hz.2.2 with h | ⟨h, h7⟩
    · exact h h9
    · rcases h8 with h8 | h8
      · exact h h8
      · rcases h7 with h7 | h7
        · exact h8.1 h7
        · exact h8.2 h7
  rw [if_neg hb] at ebad
  have h1' : ¬ (0 : Int32) < nI (n2 P 6 % 8192) := by rw [hz.1]; decide
  have h4' : ¬ nI (n4 P 12) = 0 := fun h => hz.2.1 ((nI_z l12).mp h)
  by_cases hy : cn S 3 = 0
  · have hy' : nI (cn S 3) = 0 := by rw [hy]; rfl
    refine ⟨z, ?_, ?_, fun _ _ _ => rfl, fun _ _ _ _ _ => rfl⟩
    · rw [s1]
      simp only [B_98_60, B_98_111, ip, cp, g3, ebad, q89, e81, h1', q90, h4', t3, hy', dg_1, db_1, db_0, dl_1, dp_1, dv_1, dv_x, di_1, di_x, dw_1, ec_eq, ec_ne, ec_lt, ec_ge, ec_gt, ec_le, hq_z, hq_wz, hq_wc, hq_thr, hq_p29, hq_pw, eq_self, decide_true, decide_false, not_true_eq_false, not_false_eq_true, kq_0, kq_1, kq_2, kq_3, kq_4, kq_5, kq_6, kq_7, kq_8, kq_9, kq_10, kq_11, kq_12, kq_13, kq_14, kq_15, kq_16, kq_17, kq_18, kq_19, kq_20, kq_21, kq_22, kq_23, kq_24, kq_25, kq_26, kq_27, kq_28, kq_29, kq_30, kq_31, kq_32, kq_33, kq_34, kq_35, kq_36, kq_37, kq_38, kq_39, kq_40, kq_41, kq_42, kq_43, kq_44, kq_45, kq_46, kq_47, kq_48, kq_49, kq_50, kq_51, kq_52, kq_53, kq_54, kq_55, kq_56, kq_57, kq_58, kq_59, kq_60, kq_61, kq_62, kq_63, kq_64, kq_65, kq_66, kq_67, kq_68, kq_69, kq_70, kq_71, kq_72, kq_73, kq_74, kq_75, kq_76, kq_77, kq_78, kq_79, kq_80, kq_81, pq_0_0, pq_0_1, pq_0_2, pq_0_3, pq_0_4, pq_0_5, pq_0_6, pq_0_7, pq_1_0, pq_1_1, pq_1_2, pq_1_3, pq_1_4, pq_1_5, pq_1_6, pq_1_7, pq_10_0, pq_10_1, pq_10_2, pq_10_3, pq_15_0, pq_17_0, pq_19_0, pq_21_0, pq_21_1, pq_21_2, pq_21_3, pq_21_4, pq_21_5, pq_28_0, pq_30_0, pq_30_1, pq_30_2, pq_31_0, pq_35_0, pq_35_1, pq_35_2, pq_36_0, pq_40_0, pq_40_1, pq_40_2, pq_41_0, pq_45_0, pq_45_1, pq_45_2, pq_46_0, pq_50_0, pq_52_0, pq_52_1, pq_52_2, pq_52_3, pq_52_4, pq_52_5, pq_52_6, pq_52_8, pq_52_10, pq_52_11, pq_52_14, pq_52_15, pq_52_16, pq_52_17, pq_52_18, pq_52_27, pq_52_29, pq_52_30, pq_52_31, pq_52_32, pq_52_33, pq_52_34, pq_52_35, pq_52_36, pq_52_37, pq_52_38, pq_52_39, pq_52_40, pq_52_41, aq_1, aq_11, aq_12, aq_13, aq_14, aq_16, aq_18, aq_20, aq_22, aq_23, aq_24, aq_25, aq_26, aq_27, aq_29, aq_32, aq_33, aq_34, aq_37, aq_38, aq_39, aq_42, aq_43, aq_44, aq_47, aq_48, aq_49, aq_51, aq_53, aq_54, aq_55, aq_56, aq_57, aq_58, aq_59, aq_60, aq_61, aq_62, aq_63, aq_64, aq_65, aq_66, aq_67, aq_68, aq_69, aq_70, aq_71, aq_72, aq_73, aq_74, aq_75, aq_76, aq_77, aq_78, aq_79, aq_80, aq_81]
    · unfold erS; rw [if_pos (Or.inr (Or.inl hy))]; exact hE'
  have hy' : ¬ nI (cn S 3) = 0 := nI_ne0 (by omega) (by omega)
  have t3' : nI (cn S 3) - 1 = nI (cn S 3 - 1) := nI_subN (b := 1) (by omega)
  have hmt := mtN_e hW' hpt
  have had := adN_e S p
  obtain ⟨z1, e1⟩ : ∃ x, x = va_up z 52 (upd (z 52) 20 (nI (cn S 3 - 1))) := ⟨_, rfl⟩
  have n1 : ∀ a, a ≠ 52 → z1 a = z a := fun a ha => by rw [e1, va_up_ne _ _ ha]
  have m1 : ∀ k, k ≠ 20 → z1 52 k = z 52 k := fun k hk => by rw [e1, va_up_self, pk_un hk]
  have hP1 : mb z1 61 M P := ⟨hP.1, fun i hi => by rw [n1 61 (by omega)]; exact hP.2 i hi⟩
  have q90b : F_90 f 61 12 (hq z1 w c s) = some (.inl (some (.int (nI (n4 P 12)))), hq z1 w c s) := n90 (t := 12) kq_61 hP1 hM (by omega) (by omega)
  have xa : z1 53 p = nI (adN S p) := by rw [n1 53 (by omega), (E1 p hpt).1]; exact had.1
  obtain ⟨z2, k1, k2, k3, k4, k5⟩ := m97 (f := f) (w := w) (c := c) (s := s) (z := z1) (id := cn S 4) (src := adN S p) (dst := n4 P 12) (by rw [m1 21 (by omega)]; exact E3.trans W4) W5 had.2 l12 (by omega)
  -- the error's own bytes
  have i20 : ev_in 20 4200 = true := by decide
  have i21 : ev_in 21 4200 = true := by decide
  have c20 : Int32.toNatClampNeg 20 = 20 := rfl
  have c21 : Int32.toNatClampNeg 21 = 21 := rfl
  have k62 : ∀ z, hp_k (hq z w c s) 62 = some (64, 4200) := fun z => kq_62
  obtain ⟨z3, e3⟩ : ∃ x, x = va_up z2 62 (upd (z2 62) 20 (nI ty)) := ⟨_, rfl⟩
  obtain ⟨z4, e4⟩ : ∃ x, x = va_up z3 62 (upd (z3 62) 21 (nI co)) := ⟨_, rfl⟩
  obtain ⟨z5, e5⟩ : ∃ x, x = u2z z4 62 22 0 := ⟨_, rfl⟩
  obtain ⟨z6, e6⟩ : ∃ x, x = u2z (u2z z5 62 24 (re / 65536)) 62 26 (re % 65536) := ⟨_, rfl⟩
  have n6' : ∀ a, a ≠ 62 → z6 a = z2 a := fun a ha => by rw [e6, u2z_ne ha, u2z_ne ha, e5, u2z_ne ha, e4, va_up_ne _ _ ha, e3, va_up_ne _ _ ha]
  have B3 := mb_1 (t := 20) (M2 := 21) (v := ty) k2 hty (fun i hi h => by omega)
  rw [← e3] at B3
  have B4 := mb_1 (t := 21) (M2 := 22) (v := co) B3 hco (fun i hi h => by omega)
  rw [← e4] at B4
  have B5 := mb_u2 (t := 22) (M2 := 24) (v := 0) B4 (fun i hi h h' => by omega)
  rw [← e5] at B5
  have B6 := mb_u2 (t := 26) (M2 := 28) (v := re % 65536) (mb_u2 (t := 24) (M2 := 26) (v := re / 65536) B5 (fun i hi h h' => by omega)) (fun i hi h h' => by omega)
  rw [← e6, bu22] at B6
  have qa : F_88 f 62 22 0 (hq z4 w c s) = some (.inl none, hq z5 w c s) := by rw [e5]; exact m88 (t := 22) (v := 0) (N := 4200) k62 (by omega) (by omega) (by omega)
  have qb : F_91 f 62 24 (nI re) (hq z5 w c s) = some (.inl none, hq z6 w c s) := by rw [e6]; exact m91 (t := 24) (N := 4200) k62 (by omega) (by omega) hre
  have hP6 : mb z6 61 M P := ⟨hP.1, fun i hi => by rw [n6' 61 (by omega), k3 61 (by omega) (by omega)]; exact hP1.2 i hi⟩
  have s2 := lp_98 (f := f) (w := w) (c := c) (s := s) (l1 := nI p) (l7 := hl P + q) (by omega) (hl P + q) 0 (f - (hl P + q)) z6 (by omega)
  rw [show f - (hl P + q) + (hl P + q) = f by omega] at s2
  obtain ⟨z7, e7⟩ : ∃ x, x = cpz z6 62 61 (0 + 0) (28 + 0) (hl P + q) := ⟨_, rfl⟩
  rw [← e7] at s2
  have n7 : ∀ a, a ≠ 62 → z7 a = z2 a := fun a ha => by rw [e7, cpz_ne ha, n6' a ha]
  have B7 := mb_cp (d := 28 + 0) (s := 0 + 0) (q := hl P + q) (M2 := 28 + (hl P + q)) B6 hP6 (by omega) (fun i hi h => by omega)
  rw [← e7] at B7
  obtain ⟨z8, e8⟩ : ∃ x, x = va_up z7 52 (upd (z7 52) 13 (nI (28 + (hl P + q)))) := ⟨_, rfl⟩
  have n8' : ∀ a, a ≠ 52 → z8 a = z7 a := fun a ha => by rw [e8, va_up_ne _ _ ha]
  obtain ⟨D, eD⟩ : ∃ x, x = erD P ty co re := ⟨_, rfl⟩
  have hD : ∀ i, D i < 256 := by rw [eD]; exact erD_lt hP.1 _ _ _
  have B8 : mb z8 62 (28 + (hl P + q)) (rpQ 1157627904 (cn S 4) (adN S p) (n4 P 12) D) := by
    have B7' := mb_ne (r := 52) (g := upd (z7 52) 13 (nI (28 + (hl P + q)))) (show (62 : Nat) ≠ 52 by decide) B7
    rw [← e8] at B7'
    refine mb_of B7' (rpQ_lt hD _ _ _ _) (fun i hi => ?_)
    unfold rpQ
    by_cases h : i < 20
    · rw [if_pos h, if_neg (by omega), bu4_ne (by omega), bu2_ne (by omega)]
      unfold b1; rw [if_neg (by omega), if_neg (by omega)]
    · rw [if_neg h, eD]; unfold erD
      by_cases h8 : i < 28
      · rw [if_neg (by omega), if_pos (by omega)]
        by_cases h24 : 24 ≤ i
        · rw [show i = 20 + (i - 20) by omega]
          rw [show 20 + (i - 20) - 20 = i - 20 by omega]
          exact bu4_sh (u := 20) (t := 4) (by omega) (by omega)
        · rw [bu4_ne (by omega), bu4_ne (t := 4) (by omega)]
          have u1 : (ty * 16777216 + co * 65536) / 16777216 % 256 = ty := by omega
          have u2 : (ty * 16777216 + co * 65536) / 65536 % 256 = co := by omega
          have u3 : (ty * 16777216 + co * 65536) / 256 % 256 = 0 := by omega
          have u4 : (ty * 16777216 + co * 65536) % 256 = 0 := by omega
          generalize ty * 16777216 + co * 65536 = V at u1 u2 u3 u4
          unfold bu4 bu2 b1
          rw [u1, u2, u3, u4]
          by_cases w3 : i = 23
          · rw [if_pos (by omega), if_pos (by omega)]
          · rw [if_neg (by omega), if_neg (show ¬ i - 20 = 0 + 3 by omega)]
            by_cases w2 : i = 22
            · rw [if_pos (by omega), if_pos (by omega)]
            · rw [if_neg (by omega), if_neg (show ¬ i - 20 = 0 + 2 by omega)]
              by_cases w1 : i = 21
              · rw [if_pos (by omega), if_pos (by omega)]
              · rw [if_neg (by omega), if_pos (by omega), if_neg (by omega), if_pos (by omega)]
      · rw [if_pos (by omega), if_neg (by omega), show 0 + 0 + (i - (28 + 0)) = i - 20 - 8 by omega]
  obtain ⟨K, eK⟩ : ∃ x, x = ck (sN (rpQ 1157627904 (cn S 4) (adN S p) (n4 P 12) D) 20 2 (8 + (hl P + q))) := ⟨_, rfl⟩
  have hK : K < 65536 := by rw [eK]; exact ck_lt _
  have q87 : F_87 f 62 20 (nI (8 + (hl P + q))) 2 (hq z8 w c s) = some (.inl (some (.int (nI K))), hq z8 w c s) := by
    rw [eK]; exact t87 (at_ := 20) (sk := 2) (N := 4200) k62 (by omega) (by omega) (by omega) B8.1 (fun i _ h _ _ => B8.2 i (by omega)) (by omega)
  obtain ⟨z9, e9⟩ : ∃ x, x = u2z z8 62 22 K := ⟨_, rfl⟩
  have q88 : F_88 f 62 22 (nI K) (hq z8 w c s) = some (.inl none, hq z9 w c s) := by rw [e9]; exact m88 (t := 22) (N := 4200) k62 (by omega) (by omega) (by omega)
  have n9' : ∀ a, a ≠ 62 → z9 a = z8 a := fun a ha => by rw [e9, u2z_ne ha]
  have B9 : mb z9 62 (28 + (hl P + q)) (rpB 1157627904 (cn S 4) (adN S p) (n4 P 12) (8 + (hl P + q)) D) := by
    unfold rpB; rw [← eK, e9]; exact mb_u2 B8 (fun i hi _ _ => hi)
  have m9 : ∀ k, k ≠ 13 → k ≠ 20 → k ≠ 21 → z9 52 k = z 52 k := fun k h13 h20 h21 => by
    rw [n9' 52 (by omega), e8, va_up_self, pk_un h13, n7 52 (by omega), k5 k h21, m1 k h20]
  have a9 : ∀ a, a ≠ 52 → a ≠ 62 → z9 a = z a := fun a h52 h62 => by
    rw [n9' a h62, n8' a h52, n7 a h62, k3 a h52 h62, n1 a h52]
  have O9 : OM (rpS (tkS S)) z9 := OM_S E4 (by rw [rpS_3 (by omega), tkS_3 (by omega)]) (by rw [rpS_3 (by omega), tkS_3 (by omega)]) (fun k _ _ => by rw [rpS_k (by omega), tkS_k (by omega)]) (fun a _ _ => a9 a (by omega) (by omega)) (m9 19 (by omega) (by omega) (by omega))
  have hl20 : hl (rpB 1157627904 (cn S 4) (adN S p) (n4 P 12) (8 + (hl P + q)) D) = 20 := rp_h (by omega) (by omega)
  have c2' : cn (rpS (tkS S)) 2 = cn S 2 := by rw [rpS_c (by omega), tkS_c (by omega)]
  have c11' : cn (rpS (tkS S)) 11 = cn S 11 := by rw [rpS_c (by omega), tkS_c (by omega)]
  obtain ⟨zA, j1, j2, j3, j4⟩ := m94 (f := f) (w := w) (c := c) (s := s) (way := nI p) (next := 0) (md := 28 + (hl P + q)) O9 (rpS_ow (tkS_ow W6)) B9 (by rw [n9' 52 (by omega), e8, va_up_self, pk_us]) (by omega) (by omega) (by omega) (by rw [c2']; exact h2) (by rw [c11']; omega) (by omega)
  obtain ⟨g, hg⟩ : ∃ g, f - (hl P + q) = g + 1 := ⟨f - (hl P + q) - 1, by omega⟩
  rw [hg] at s2
  have y0 : nI (hl P + q) ≤ nI (0 + (hl P + q)) := nI_le (by omega) (by omega)
  have y1 : (28 : Int32) + nI (hl P + q) = nI (28 + (hl P + q)) := nI_add 28 _
  have y2 : nI (28 + (hl P + q)) - (20 : Int32) = nI (8 + (hl P + q)) := by rw [show (20 : Int32) = nI 20 from rfl, nI_subN (by omega)]; exact congrArg nI (by omega)
  have y3 : z8 52 13 = nI (28 + (hl P + q)) := by rw [e8, va_up_self, pk_us]
  have s3 : B_98_207 f f 52 (nI p) (nI (hl P + q)) 0 (hq z6 w c s) = some (.inl none, hq zA w c s) := by
    refine Eq.trans s2 ?_
    simp only [B_98_207, y0, y1, ← e8, y3, y2, q87, q88, j1, dg_1, db_1, db_0, dl_1, dp_1, dv_1, dv_x, di_1, di_x, dw_1, ec_eq, ec_ne, ec_lt, ec_ge, ec_gt, ec_le, hq_z, hq_wz, hq_wc, hq_thr, hq_p29, hq_pw, eq_self, decide_true, decide_false, not_true_eq_false, not_false_eq_true, kq_0, kq_1, kq_2, kq_3, kq_4, kq_5, kq_6, kq_7, kq_8, kq_9, kq_10, kq_11, kq_12, kq_13, kq_14, kq_15, kq_16, kq_17, kq_18, kq_19, kq_20, kq_21, kq_22, kq_23, kq_24, kq_25, kq_26, kq_27, kq_28, kq_29, kq_30, kq_31, kq_32, kq_33, kq_34, kq_35, kq_36, kq_37, kq_38, kq_39, kq_40, kq_41, kq_42, kq_43, kq_44, kq_45, kq_46, kq_47, kq_48, kq_49, kq_50, kq_51, kq_52, kq_53, kq_54, kq_55, kq_56, kq_57, kq_58, kq_59, kq_60, kq_61, kq_62, kq_63, kq_64, kq_65, kq_66, kq_67, kq_68, kq_69, kq_70, kq_71, kq_72, kq_73, kq_74, kq_75, kq_76, kq_77, kq_78, kq_79, kq_80, kq_81, pq_0_0, pq_0_1, pq_0_2, pq_0_3, pq_0_4, pq_0_5, pq_0_6, pq_0_7, pq_1_0, pq_1_1, pq_1_2, pq_1_3, pq_1_4, pq_1_5, pq_1_6, pq_1_7, pq_10_0, pq_10_1, pq_10_2, pq_10_3, pq_15_0, pq_17_0, pq_19_0, pq_21_0, pq_21_1, pq_21_2, pq_21_3, pq_21_4, pq_21_5, pq_28_0, pq_30_0, pq_30_1, pq_30_2, pq_31_0, pq_35_0, pq_35_1, pq_35_2, pq_36_0, pq_40_0, pq_40_1, pq_40_2, pq_41_0, pq_45_0, pq_45_1, pq_45_2, pq_46_0, pq_50_0, pq_52_0, pq_52_1, pq_52_2, pq_52_3, pq_52_4, pq_52_5, pq_52_6, pq_52_8, pq_52_10, pq_52_11, pq_52_14, pq_52_15, pq_52_16, pq_52_17, pq_52_18, pq_52_27, pq_52_29, pq_52_30, pq_52_31, pq_52_32, pq_52_33, pq_52_34, pq_52_35, pq_52_36, pq_52_37, pq_52_38, pq_52_39, pq_52_40, pq_52_41, aq_1, aq_11, aq_12, aq_13, aq_14, aq_16, aq_18, aq_20, aq_22, aq_23, aq_24, aq_25, aq_26, aq_27, aq_29, aq_32, aq_33, aq_34, aq_37, aq_38, aq_39, aq_42, aq_43, aq_44, aq_47, aq_48, aq_49, aq_51, aq_53, aq_54, aq_55, aq_56, aq_57, aq_58, aq_59, aq_60, aq_61, aq_62, aq_63, aq_64, aq_65, aq_66, aq_67, aq_68, aq_69, aq_70, aq_71, aq_72, aq_73, aq_74, aq_75, aq_76, aq_77, aq_78, aq_79, aq_80, aq_81]
  have y4 : z6 52 12 = nI sz := by rw [n6' 52 (by omega), k5 12 (by omega), m1 12 (by omega)]; exact h12
  refine ⟨zA, ?_, ?_, ?_, ?_⟩
  · rw [s1]
    by_cases h8 : sz - hl P < 8
    · have h8' : ¬ nI (hl P + 8) ≤ nI sz := nI_ge (by omega) (by omega)
      have h9 : sz = hl P + q := by rw [hq8, if_pos h8]; omega
      rw [h9] at h8' y4
      simp only [B_98_60, B_98_202, ip, cp, g3, ebad, q89, e81, h1', q90, h4', t3, hy', t3', ← e1, q90b, xa, k1, i20, i21, c20, c21, ← e3, ← e4, qa, qb, y4, nI_k8, h8', s3, dg_1, db_1, db_0, dl_1, dp_1, dv_1, dv_x, di_1, di_x, dw_1, ec_eq, ec_ne, ec_lt, ec_ge, ec_gt, ec_le, hq_z, hq_wz, hq_wc, hq_thr, hq_p29, hq_pw, eq_self, decide_true, decide_false, not_true_eq_false, not_false_eq_true, kq_0, kq_1, kq_2, kq_3, kq_4, kq_5, kq_6, kq_7, kq_8, kq_9, kq_10, kq_11, kq_12, kq_13, kq_14, kq_15, kq_16, kq_17, kq_18, kq_19, kq_20, kq_21, kq_22, kq_23, kq_24, kq_25, kq_26, kq_27, kq_28, kq_29, kq_30, kq_31, kq_32, kq_33, kq_34, kq_35, kq_36, kq_37, kq_38, kq_39, kq_40, kq_41, kq_42, kq_43, kq_44, kq_45, kq_46, kq_47, kq_48, kq_49, kq_50, kq_51, kq_52, kq_53, kq_54, kq_55, kq_56, kq_57, kq_58, kq_59, kq_60, kq_61, kq_62, kq_63, kq_64, kq_65, kq_66, kq_67, kq_68, kq_69, kq_70, kq_71, kq_72, kq_73, kq_74, kq_75, kq_76, kq_77, kq_78, kq_79, kq_80, kq_81, pq_0_0, pq_0_1, pq_0_2, pq_0_3, pq_0_4, pq_0_5, pq_0_6, pq_0_7, pq_1_0, pq_1_1, pq_1_2, pq_1_3, pq_1_4, pq_1_5, pq_1_6, pq_1_7, pq_10_0, pq_10_1, pq_10_2, pq_10_3, pq_15_0, pq_17_0, pq_19_0, pq_21_0, pq_21_1, pq_21_2, pq_21_3, pq_21_4, pq_21_5, pq_28_0, pq_30_0, pq_30_1, pq_30_2, pq_31_0, pq_35_0, pq_35_1, pq_35_2, pq_36_0, pq_40_0, pq_40_1, pq_40_2, pq_41_0, pq_45_0, pq_45_1, pq_45_2, pq_46_0, pq_50_0, pq_52_0, pq_52_1, pq_52_2, pq_52_3, pq_52_4, pq_52_5, pq_52_6, pq_52_8, pq_52_10, pq_52_11, pq_52_14, pq_52_15, pq_52_16, pq_52_17, pq_52_18, pq_52_27, pq_52_29, pq_52_30, pq_52_31, pq_52_32, pq_52_33, pq_52_34, pq_52_35, pq_52_36, pq_52_37, pq_52_38, pq_52_39, pq_52_40, pq_52_41, aq_1, aq_11, aq_12, aq_13, aq_14, aq_16, aq_18, aq_20, aq_22, aq_23, aq_24, aq_25, aq_26, aq_27, aq_29, aq_32, aq_33, aq_34, aq_37, aq_38, aq_39, aq_42, aq_43, aq_44, aq_47, aq_48, aq_49, aq_51, aq_53, aq_54, aq_55, aq_56, aq_57, aq_58, aq_59, aq_60, aq_61, aq_62, aq_63, aq_64, aq_65, aq_66, aq_67, aq_68, aq_69, aq_70, aq_71, aq_72, aq_73, aq_74, aq_75, aq_76, aq_77, aq_78, aq_79, aq_80, aq_81]
    · have h8' : nI (hl P + 8) ≤ nI sz := nI_le (by omega) (by omega)
      have h9 : q = 8 := by rw [hq8, if_neg h8]
      rw [h9] at s3
      simp only [B_98_60, B_98_202, ip, cp, g3, ebad, q89, e81, h1', q90, h4', t3, hy', t3', ← e1, q90b, xa, k1, i20, i21, c20, c21, ← e3, ← e4, qa, qb, y4, nI_k8, h8', s3, dg_1, db_1, db_0, dl_1, dp_1, dv_1, dv_x, di_1, di_x, dw_1, ec_eq, ec_ne, ec_lt, ec_ge, ec_gt, ec_le, hq_z, hq_wz, hq_wc, hq_thr, hq_p29, hq_pw, eq_self, decide_true, decide_false, not_true_eq_false, not_false_eq_true, kq_0, kq_1, kq_2, kq_3, kq_4, kq_5, kq_6, kq_7, kq_8, kq_9, kq_10, kq_11, kq_12, kq_13, kq_14, kq_15, kq_16, kq_17, kq_18, kq_19, kq_20, kq_21, kq_22, kq_23, kq_24, kq_25, kq_26, kq_27, kq_28, kq_29, kq_30, kq_31, kq_32, kq_33, kq_34, kq_35, kq_36, kq_37, kq_38, kq_39, kq_40, kq_41, kq_42, kq_43, kq_44, kq_45, kq_46, kq_47, kq_48, kq_49, kq_50, kq_51, kq_52, kq_53, kq_54, kq_55, kq_56, kq_57, kq_58, kq_59, kq_60, kq_61, kq_62, kq_63, kq_64, kq_65, kq_66, kq_67, kq_68, kq_69, kq_70, kq_71, kq_72, kq_73, kq_74, kq_75, kq_76, kq_77, kq_78, kq_79, kq_80, kq_81, pq_0_0, pq_0_1, pq_0_2, pq_0_3, pq_0_4, pq_0_5, pq_0_6, pq_0_7, pq_1_0, pq_1_1, pq_1_2, pq_1_3, pq_1_4, pq_1_5, pq_1_6, pq_1_7, pq_10_0, pq_10_1, pq_10_2, pq_10_3, pq_15_0, pq_17_0, pq_19_0, pq_21_0, pq_21_1, pq_21_2, pq_21_3, pq_21_4, pq_21_5, pq_28_0, pq_30_0, pq_30_1, pq_30_2, pq_31_0, pq_35_0, pq_35_1, pq_35_2, pq_36_0, pq_40_0, pq_40_1, pq_40_2, pq_41_0, pq_45_0, pq_45_1, pq_45_2, pq_46_0, pq_50_0, pq_52_0, pq_52_1, pq_52_2, pq_52_3, pq_52_4, pq_52_5, pq_52_6, pq_52_8, pq_52_10, pq_52_11, pq_52_14, pq_52_15, pq_52_16, pq_52_17, pq_52_18, pq_52_27, pq_52_29, pq_52_30, pq_52_31, pq_52_32, pq_52_33, pq_52_34, pq_52_35, pq_52_36, pq_52_37, pq_52_38, pq_52_39, pq_52_40, pq_52_41, aq_1, aq_11, aq_12, aq_13, aq_14, aq_16, aq_18, aq_20, aq_22, aq_23, aq_24, aq_25, aq_26, aq_27, aq_29, aq_32, aq_33, aq_34, aq_37, aq_38, aq_39, aq_42, aq_43, aq_44, aq_47, aq_48, aq_49, aq_51, aq_53, aq_54, aq_55, aq_56, aq_57, aq_58, aq_59, aq_60, aq_61, aq_62, aq_63, aq_64, aq_65, aq_66, aq_67, aq_68, aq_69, aq_70, aq_71, aq_72, aq_73, aq_74, aq_75, aq_76, aq_77, aq_78, aq_79, aq_80, aq_81]
  · have hS : erS S p P q ty co re = emS (rpS (tkS S)) (28 + (hl P + q)) (nI p) 0 (fin (rpB 1157627904 (cn S 4) (adN S p) (n4 P 12) (8 + (hl P + q)) D) (28 + (hl P + q))) := by
      unfold erS
      rw [if_neg (by intro h; rcases h with h | h | h; exact hx h; exact hy h; exact h hz), ← eD]
      have hlv : hl (rpB (vL (8 + (hl P + q))) (cn S 4) (adN S p) (n4 P 12) (8 + (hl P + q)) D) = 20 := rp_h (by unfold vL; omega) (by unfold vL; omega)
      rw [sdS_1 (rpB_lt hD _ _ _ _ _) (by omega) (by rw [hlv]; omega), hlv, show 20 + (8 + (hl P + q)) = 28 + (hl P + q) by omega]
      apply em_eq
      apply fin_c2
      · omega
      · omega
      · intro i hi i2 i3; exact rp_v (by omega) i2 i3
    rw [hS]
    refine ⟨fun i hi => ?_, ?_, ?_, j2⟩
    · rw [j3 53 (by omega) (by omega), j3 54 (by omega) (by omega), j3 55 (by omega) (by omega), a9 53 (by omega) (by omega), a9 54 (by omega) (by omega), a9 55 (by omega) (by omega), em_k (by omega) (by omega), em_k (by omega) (by omega), em_k (by omega) (by omega), rpS_k (by omega), rpS_k (by omega), rpS_k (by omega), tkS_k (by omega), tkS_k (by omega), tkS_k (by omega)]; exact E1 i hi
    · rw [j4 20 (by omega), n9' 52 (by omega), e8, va_up_self, pk_un (by omega), n7 52 (by omega), k5 20 (by omega), e1, va_up_self, pk_us, em_3k (by omega) (by omega), rpS_3 (by omega), tkS_33]
    · rw [j4 21 (by omega), n9' 52 (by omega), e8, va_up_self, pk_un (by omega), n7 52 (by omega), k4, em_3k (by omega) (by omega), rpS_4, tkS_c (by omega)]
  · intro a h52 ha; rw [j3 a ha h52, a9 a h52 (by omega)]
  · intro k h13 h19 h20 h21; rw [j4 k h19, m9 k h13 h20 h21]
end Err67
