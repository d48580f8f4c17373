-- receive: both sides, from the relation to the relation
section Recv86
variable {S T : St9} {z z' : Nat → Nat → Int32} {w : Nat → Option Nat} {f c s n m data p t : Nat} {P : Nat → Nat}
theorem kC_0 (hn : n < 512) (hwf : wf n S) (h : rc S z w) : kC (em0 S) (va_up z 21 (upd (upd (z 21) 6 0) 7 0)) w := by
  obtain ⟨g1, ⟨a0, a1, a2, a3, a4, a5, a6, a7, a8, a9, a10, a11⟩, g3, g4, g5, g6, g7, g8, g9⟩ := h
  have w0 := hwf.1.1
  have w10 := hwf.1.2.2.2.2.2.2.2.1
  have e10 := em0_3 (S := S) (k := 10) (by omega) (by omega)
  have vn : ∀ a, a ≠ 21 → va_up z 21 (upd (upd (z 21) 6 0) 7 0) a = z a := fun a ha => va_up_ne _ _ ha
  refine ⟨⟨fun i hi => ?_, ?_, ?_, ⟨?_, ?_, ?_, ?_, ?_, ?_⟩, ?_, ?_⟩, ⟨?_, ?_, ?_, ?_, ?_, ?_⟩, ⟨?_, ?_, fun j hj => ?_, ?_⟩, ⟨?_, ?_⟩, ?_, ?_⟩
  · rw [vn _ (by omega), em0_k (by omega), em0_k (by omega), em0_k (by omega)]; exact g1 i hi
  · rw [vn 0 (by omega), em0_3 (by omega) (by omega)]; exact a3
  · rw [vn 0 (by omega), em0_3 (by omega) (by omega)]; exact a4
  · rw [va_up_self, pk_un (by omega), pk_us, em0_2]
  · rw [va_up_self, pk_us, em0_11]
  · intro i hi; rw [em0_c2] at hi; omega
  · intro i hi; rw [em0_c2] at hi; omega
  · intro i hi; rw [em0_c11] at hi; omega
  · rw [vn 22 (by omega)]; exact g8 22 (by decide)
  · rw [vn 20 (by omega)]; exact g8 20 (by decide)
  · rw [vn 27 (by omega)]; exact g8 27 (by decide)
  · rw [vn 50 (by omega), em0_3 (by omega) (by omega)]; exact a6
  · rw [vn 50 (by omega), em0_3 (by omega) (by omega)]; exact a7
  · rw [vn 50 (by omega), em0_3 (by omega) (by omega)]; exact a8
  · rw [vn 50 (by omega), em0_3 (by omega) (by omega)]; exact a9
  · rw [vn 51 (by omega), cn_of (em0_3 (by omega) (by omega)), em0_k (by omega)]; exact g7
  · rw [vn 51 (by omega)]; exact g8 51 (by decide)
  · exact rcW_of g9 (fun k hk => em0_k (by omega)) (cn_of e10) (fun a h1 h2 => vn a (by omega))
  · rw [vn 28 (by omega), cn_of e10, a10]; exact w10.1
  · rw [vn _ (by omega), vn _ (by omega)]
    rcases (show j = 0 ∨ j = 1 ∨ j = 2 ∨ j = 3 by omega) with rfl | rfl | rfl | rfl
    · exact ⟨g8 32 (by decide), g8 33 (by decide)⟩
    · exact ⟨g8 37 (by decide), g8 38 (by decide)⟩
    · exact ⟨g8 42 (by decide), g8 43 (by decide)⟩
    · exact ⟨g8 47 (by decide), g8 48 (by decide)⟩
  · rw [vn 18 (by omega)]; exact g8 18 (by decide)
  · rw [vn 10 (by omega), cn_of (em0_3 (by omega) (by omega)), a0]; exact w0.1
  · rw [vn 11 (by omega), vn 12 (by omega), vn 13 (by omega), vn 14 (by omega), cn_of (em0_3 (by omega) (by omega)), em0_k (by omega), em0_k (by omega), em0_k (by omega), em0_k (by omega)]; exact g3
  · rw [vn 0 (by omega), em0_3 (by omega) (by omega)]; exact a5
  · rw [vn 16 (by omega)]; exact g8 16 (by decide)
theorem kM_0 (hwf : wf n S) (h : rmd S z) (hz : ∀ a, 52 < a → a ≠ 61 → z' a = z a) (h52 : ∀ k, k ≠ 9 → k ≠ 19 → k ≠ 42 → z' 52 k = z 52 k) (h19 : z' 52 19 = 0) : kM (em0 S) z' := by
  obtain ⟨g1, ⟨a0, a1, a2, a3, a4, a5, a6, a7, a8, a9, a10⟩, g3, g4, g5, g6, g7, g9⟩ := h
  have w0 := hwf.1.1
  have w10 := hwf.1.2.2.2.2.2.2.2.1
  have e10 := em0_3 (S := S) (k := 10) (by omega) (by omega)
  refine ⟨⟨fun i hi => ?_, ?_, ?_, ⟨?_, ?_, ?_⟩⟩, ⟨?_, ?_, ?_, ?_, ?_⟩, ⟨fun e he => ?_, ?_⟩, ⟨?_, ?_⟩, ?_⟩
  · rw [hz 53 (by omega) (by omega), hz 54 (by omega) (by omega), hz 55 (by omega) (by omega), em0_k (by omega), em0_k (by omega), em0_k (by omega)]; exact g1 i hi
  · rw [h52 20 (by omega) (by omega) (by omega), em0_3 (by omega) (by omega)]; exact a3
  · rw [h52 21 (by omega) (by omega) (by omega), em0_3 (by omega) (by omega)]; exact a4
  · rw [h19, em0_2]
  · intro i hi; rw [em0_c2] at hi; omega
  · intro i hi; rw [em0_c11] at hi; omega
  · rw [h52 23 (by omega) (by omega) (by omega), em0_3 (by omega) (by omega)]; exact a6
  · rw [h52 24 (by omega) (by omega) (by omega), em0_3 (by omega) (by omega)]; exact a7
  · rw [h52 25 (by omega) (by omega) (by omega), em0_3 (by omega) (by omega)]; exact a8
  · rw [h52 26 (by omega) (by omega) (by omega), em0_3 (by omega) (by omega)]; exact a9
  · rw [hz 68 (by omega) (by omega), cn_of (em0_3 (by omega) (by omega)), em0_k (by omega)]; exact g7
  · rw [cn_of e10] at he
    have := (g9 e he).1
    unfold eMz
    rw [em0_k (by omega), hz 69 (by omega) (by omega), hz 70 (by omega) (by omega), hz 71 (by omega) (by omega), hz 72 (by omega) (by omega), hz 73 (by omega) (by omega), hz 74 (by omega) (by omega), hz 75 (by omega) (by omega), hz 76 (by omega) (by omega), hz 77 (by omega) (by omega), hz 78 (by omega) (by omega), hz 79 (by omega) (by omega), hz 80 (by omega) (by omega), hz 81 (by omega) (by omega)]
    exact this
  · rw [h52 28 (by omega) (by omega) (by omega), cn_of e10, a10]; exact w10.1
  · rw [h52 7 (by omega) (by omega) (by omega), cn_of (em0_3 (by omega) (by omega)), a0]; exact w0.1
  · rw [hz 56 (by omega) (by omega), hz 57 (by omega) (by omega), hz 58 (by omega) (by omega), hz 59 (by omega) (by omega), cn_of (em0_3 (by omega) (by omega)), em0_k (by omega), em0_k (by omega), em0_k (by omega), em0_k (by omega)]; exact g3
  · rw [h52 22 (by omega) (by omega) (by omega), em0_3 (by omega) (by omega)]; exact a5
-- back to the relation: the tape kept or emptied
theorem rc_k (hK : kC T z w) (h0 : T 3 0 = nI (cn T 0)) (h10 : T 3 10 = nI (cn T 10)) (hk : ∀ k, k ≠ 3 → S k = T k) (h3 : ∀ j, j ≠ 1 → S 3 j = T 3 j) (hz : ∀ a, a ≠ 15 → z' a = z a) (h15 : z' 15 1 = S 3 1) (h16 : ∀ i, i < cn S 1 → z' 16 i &&& 255 = S 8 i) : rc S z' w := by
  obtain ⟨⟨E1, E2, E3, ⟨O1, O2, O3, O4, O5, O6⟩, E5, E6⟩, ⟨d1, d2, d3, d4, d5, d6⟩, ⟨W1, W2, W3, W4⟩, ⟨R1, R2⟩, K5, K6⟩ := hK
  have cq : ∀ j, j ≠ 1 → cn S j = cn T j := fun j hj => cn_of (h3 j hj)
  refine ⟨fun i hi => ?_, ⟨?_, h15, ?_, ?_, ?_, ?_, ?_, ?_, ?_, ?_, ?_, ?_⟩, ?_, h16, ?_, ?_, ?_, ?_, rcW_of W1 (fun k h => hk k (by omega)) (cq 10 (by omega)) (fun a h1 h2 => hz a (by omega))⟩
  · rw [hz _ (by omega), hk 0 (by omega), hk 1 (by omega), hk 2 (by omega)]; exact E1 i hi
  · rw [hz 10 (by omega), h3 0 (by omega), h0]; exact R1
  · rw [hz 21 (by omega), h3 2 (by omega)]; exact O1
  · rw [hz 0 (by omega), h3 3 (by omega)]; exact E2
  · rw [hz 0 (by omega), h3 4 (by omega)]; exact E3
  · rw [hz 0 (by omega), h3 5 (by omega)]; exact K5
  · rw [hz 50 (by omega), h3 6 (by omega)]; exact d1
  · rw [hz 50 (by omega), h3 7 (by omega)]; exact d2
  · rw [hz 50 (by omega), h3 8 (by omega)]; exact d3
  · rw [hz 50 (by omega), h3 9 (by omega)]; exact d4
  · rw [hz 28 (by omega), h3 10 (by omega), h10]; exact W2
  · rw [hz 21 (by omega), h3 11 (by omega)]; exact O2
  · rw [hz 11 (by omega), hz 12 (by omega), hz 13 (by omega), hz 14 (by omega), cq 0 (by omega), hk 4 (by omega), hk 5 (by omega), hk 6 (by omega), hk 7 (by omega)]; exact R2
  · rw [hz 23 (by omega), hz 24 (by omega), hz 25 (by omega), hz 26 (by omega), cq 2 (by omega), hk 9 (by omega), hk 10 (by omega), hk 11 (by omega), hk 12 (by omega)]
    exact fun i hi => ⟨(O3 i hi).1, (O3 i hi).2, (O4 i hi).1, (O4 i hi).2⟩
  · rw [hz 22 (by omega), cq 11 (by omega), hk 13 (by omega)]; exact O5
  · rw [hz 51 (by omega), cq 9 (by omega), hk 14 (by omega)]; exact d5
  · intro r hr i
    simp only [wrows, List.mem_cons, List.not_mem_nil, or_false] at hr
    rw [hz r (by omega)]
    rcases hr with rfl | rfl | rfl | rfl | rfl | rfl | rfl | rfl | rfl | rfl | rfl | rfl | rfl | rfl
    · exact K6 i
    · exact W4 i
    · exact E5 i
    · exact O6 i
    · exact E6 i
    · exact (W3 0 (by omega)).1 i
    · exact (W3 0 (by omega)).2 i
    · exact (W3 1 (by omega)).1 i
    · exact (W3 1 (by omega)).2 i
    · exact (W3 2 (by omega)).1 i
    · exact (W3 2 (by omega)).2 i
    · exact (W3 3 (by omega)).1 i
    · exact (W3 3 (by omega)).2 i
    · exact d6 i
theorem rmd_k (hK : kM T z) (hX : wX T) (h0 : T 3 0 = nI (cn T 0)) (h10 : T 3 10 = nI (cn T 10)) (hk : ∀ k, k ≠ 3 → S k = T k) (h3 : ∀ j, j ≠ 1 → S 3 j = T 3 j) (h9 : z 52 9 = S 3 1) (h60 : ∀ i, i < cn S 1 → z 60 i = S 8 i) : rmd S z := by
  obtain ⟨⟨E1, E2, E3, ⟨O1, O2, O3⟩⟩, ⟨d1, d2, d3, d4, d5⟩, ⟨W1, W2⟩, ⟨R1, R2⟩, K5⟩ := hK
  have cq : ∀ j, j ≠ 1 → cn S j = cn T j := fun j hj => cn_of (h3 j hj)
  refine ⟨fun i hi => ?_, ⟨?_, h9, ?_, ?_, ?_, ?_, ?_, ?_, ?_, ?_, ?_⟩, ?_, h60, ?_, ?_, ?_, fun e he => ?_⟩
  · rw [hk 0 (by omega), hk 1 (by omega), hk 2 (by omega)]; exact E1 i hi
  · rw [h3 0 (by omega), h0]; exact R1
  · rw [h3 2 (by omega)]; exact O1
  · rw [h3 3 (by omega)]; exact E2
  · rw [h3 4 (by omega)]; exact E3
  · rw [h3 5 (by omega)]; exact K5
  · rw [h3 6 (by omega)]; exact d1
  · rw [h3 7 (by omega)]; exact d2
  · rw [h3 8 (by omega)]; exact d3
  · rw [h3 9 (by omega)]; exact d4
  · rw [h3 10 (by omega), h10]; exact W2
  · rw [cq 0 (by omega), hk 4 (by omega), hk 5 (by omega), hk 6 (by omega), hk 7 (by omega)]; exact R2
  · rw [cq 2 (by omega), hk 9 (by omega), hk 10 (by omega), hk 11 (by omega), hk 12 (by omega)]; exact O2
  · rw [cq 11 (by omega), hk 13 (by omega)]; exact O3
  · rw [cq 9 (by omega), hk 14 (by omega)]; exact d5
  · rw [cq 10 (by omega)] at he
    rw [hk (15 + e) (by omega)]
    exact ⟨W1 e he, hX.2 e he⟩
theorem n56 (hn : n < 512) (hwf : wf n S) (hrc : rc S z w) (hX : wX (em0 S)) (hp : p < 8) (hf : 40000 < f) : ∃ z' w', F_56 f 0 (nI p) (hq z w c s) = some (.inl (some (.int (rvS (em0 S) p (bz z 16) (cn S 1) (cn S 5)).2)), hq z' w' c s) ∧ rc (sT (rvS (em0 S) p (bz z 16) (cn S 1) (cn S 5)).1 0) z' w' ∧ ∀ a, 51 < a → z' a = z a := by
  obtain ⟨W1, W2, W3, W4, W5, W6, W7⟩ := em0_W hn hwf
  have e1 : z 15 1 = nI (cn S 1) := hrc.2.1.2.1.trans hwf.1.2.1.1
  have hc1 := hwf.1.2.1.2
  have hK := kC_0 hn hwf hrc
  obtain ⟨z1, ez1⟩ : ∃ x, x = va_up z 21 (upd (upd (z 21) 6 0) 7 0) := ⟨_, rfl⟩
  rw [← ez1] at hK
  have n1 : ∀ a, a ≠ 21 → z1 a = z a := fun a ha => by rw [ez1, va_up_ne _ _ ha]
  have hP : cb z1 16 (cn S 1) (bz z 16) := ⟨bz_lt z 16, fun i _ => by rw [n1 16 (by omega)]; exact bz_eq z 16 i⟩
  have hbr := hK.2.2.2.2.2
  have q62 : F_62 f 0 (nI p) (hq z w c s) = some (.inl none, hq z w c s) := by
    have g1 : ¬ nI p < 0 := nI_pos (by omega)
    have g2 : nI p < 8 := nI_lt (b := 8) hp (by omega)
    simp only [F_62, g1, g2, dg_1, db_1, db_0, dl_1, dp_1, dv_1, dv_x, di_1, di_x, dw_1, ec_eq, ec_ne, ec_lt, ec_ge, ec_gt, ec_le, hq_z, hq_wz, hq_wc, hq_thr, hq_p29, hq_pw, eq_self, decide_true, decide_false, not_true_eq_false, not_false_eq_true, kq_0, kq_1, kq_2, kq_3, kq_4, kq_5, kq_6, kq_7, kq_8, kq_9, kq_10, kq_11, kq_12, kq_13, kq_14, kq_15, kq_16, kq_17, kq_18, kq_19, kq_20, kq_21, kq_22, kq_23, kq_24, kq_25, kq_26, kq_27, kq_28, kq_29, kq_30, kq_31, kq_32, kq_33, kq_34, kq_35, kq_36, kq_37, kq_38, kq_39, kq_40, kq_41, kq_42, kq_43, kq_44, kq_45, kq_46, kq_47, kq_48, kq_49, kq_50, kq_51, kq_52, kq_53, kq_54, kq_55, kq_56, kq_57, kq_58, kq_59, kq_60, kq_61, kq_62, kq_63, kq_64, kq_65, kq_66, kq_67, kq_68, kq_69, kq_70, kq_71, kq_72, kq_73, kq_74, kq_75, kq_76, kq_77, kq_78, kq_79, kq_80, kq_81, pq_0_0, pq_0_1, pq_0_2, pq_0_3, pq_0_4, pq_0_5, pq_0_6, pq_0_7, pq_1_0, pq_1_1, pq_1_2, pq_1_3, pq_1_4, pq_1_5, pq_1_6, pq_1_7, pq_10_0, pq_10_1, pq_10_2, pq_10_3, pq_15_0, pq_17_0, pq_19_0, pq_21_0, pq_21_1, pq_21_2, pq_21_3, pq_21_4, pq_21_5, pq_28_0, pq_30_0, pq_30_1, pq_30_2, pq_31_0, pq_35_0, pq_35_1, pq_35_2, pq_36_0, pq_40_0, pq_40_1, pq_40_2, pq_41_0, pq_45_0, pq_45_1, pq_45_2, pq_46_0, pq_50_0, pq_52_0, pq_52_1, pq_52_2, pq_52_3, pq_52_4, pq_52_5, pq_52_6, pq_52_8, pq_52_10, pq_52_11, pq_52_14, pq_52_15, pq_52_16, pq_52_17, pq_52_18, pq_52_27, pq_52_29, pq_52_30, pq_52_31, pq_52_32, pq_52_33, pq_52_34, pq_52_35, pq_52_36, pq_52_37, pq_52_38, pq_52_39, pq_52_40, pq_52_41, aq_1, aq_11, aq_12, aq_13, aq_14, aq_16, aq_18, aq_20, aq_22, aq_23, aq_24, aq_25, aq_26, aq_27, aq_29, aq_32, aq_33, aq_34, aq_37, aq_38, aq_39, aq_42, aq_43, aq_44, aq_47, aq_48, aq_49, aq_51, aq_53, aq_54, aq_55, aq_56, aq_57, aq_58, aq_59, aq_60, aq_61, aq_62, aq_63, aq_64, aq_65, aq_66, aq_67, aq_68, aq_69, aq_70, aq_71, aq_72, aq_73, aq_74, aq_75, aq_76, aq_77, aq_78, aq_79, aq_80, aq_81]
  have q3 : F_3 f 21 (hq z w c s) = some (.inl none, hq z1 w c s) := by
    rw [ez1]
    simp only [F_3, va_up_self, va_up2, dg_1, db_1, db_0, dl_1, dp_1, dv_1, dv_x, di_1, di_x, dw_1, ec_eq, ec_ne, ec_lt, ec_ge, ec_gt, ec_le, hq_z, hq_wz, hq_wc, hq_thr, hq_p29, hq_pw, eq_self, decide_true, decide_false, not_true_eq_false, not_false_eq_true, kq_0, kq_1, kq_2, kq_3, kq_4, kq_5, kq_6, kq_7, kq_8, kq_9, kq_10, kq_11, kq_12, kq_13, kq_14, kq_15, kq_16, kq_17, kq_18, kq_19, kq_20, kq_21, kq_22, kq_23, kq_24, kq_25, kq_26, kq_27, kq_28, kq_29, kq_30, kq_31, kq_32, kq_33, kq_34, kq_35, kq_36, kq_37, kq_38, kq_39, kq_40, kq_41, kq_42, kq_43, kq_44, kq_45, kq_46, kq_47, kq_48, kq_49, kq_50, kq_51, kq_52, kq_53, kq_54, kq_55, kq_56, kq_57, kq_58, kq_59, kq_60, kq_61, kq_62, kq_63, kq_64, kq_65, kq_66, kq_67, kq_68, kq_69, kq_70, kq_71, kq_72, kq_73, kq_74, kq_75, kq_76, kq_77, kq_78, kq_79, kq_80, kq_81, pq_0_0, pq_0_1, pq_0_2, pq_0_3, pq_0_4, pq_0_5, pq_0_6, pq_0_7, pq_1_0, pq_1_1, pq_1_2, pq_1_3, pq_1_4, pq_1_5, pq_1_6, pq_1_7, pq_10_0, pq_10_1, pq_10_2, pq_10_3, pq_15_0, pq_17_0, pq_19_0, pq_21_0, pq_21_1, pq_21_2, pq_21_3, pq_21_4, pq_21_5, pq_28_0, pq_30_0, pq_30_1, pq_30_2, pq_31_0, pq_35_0, pq_35_1, pq_35_2, pq_36_0, pq_40_0, pq_40_1, pq_40_2, pq_41_0, pq_45_0, pq_45_1, pq_45_2, pq_46_0, pq_50_0, pq_52_0, pq_52_1, pq_52_2, pq_52_3, pq_52_4, pq_52_5, pq_52_6, pq_52_8, pq_52_10, pq_52_11, pq_52_14, pq_52_15, pq_52_16, pq_52_17, pq_52_18, pq_52_27, pq_52_29, pq_52_30, pq_52_31, pq_52_32, pq_52_33, pq_52_34, pq_52_35, pq_52_36, pq_52_37, pq_52_38, pq_52_39, pq_52_40, pq_52_41, aq_1, aq_11, aq_12, aq_13, aq_14, aq_16, aq_18, aq_20, aq_22, aq_23, aq_24, aq_25, aq_26, aq_27, aq_29, aq_32, aq_33, aq_34, aq_37, aq_38, aq_39, aq_42, aq_43, aq_44, aq_47, aq_48, aq_49, aq_51, aq_53, aq_54, aq_55, aq_56, aq_57, aq_58, aq_59, aq_60, aq_61, aq_62, aq_63, aq_64, aq_65, aq_66, aq_67, aq_68, aq_69, aq_70, aq_71, aq_72, aq_73, aq_74, aq_75, aq_76, aq_77, aq_78, aq_79, aq_80, aq_81]
  have q20 := n20 (f := f) (w := w) (c := c) (s := s) pk_t (by rw [n1 15 (by omega)]; exact e1) hP hc1 (by omega) (by omega)
  have rvx := rv_all (P := bz z 16) (m := cn S 1) (t := cn S 5) W1 W2 W3 hX W4 (bz_lt z 16) hc1 em0_c2 em0_c11 W7 hp
  have h0T : (rvS (em0 S) p (bz z 16) (cn S 1) (cn S 5)).1 3 0 = nI (cn (rvS (em0 S) p (bz z 16) (cn S 1) (cn S 5)).1 0) := by
    have e0 : (rvS (em0 S) p (bz z 16) (cn S 1) (cn S 5)).1 3 0 = S 3 0 := by rw [rvx.2.1, em0_3 (by omega) (by omega)]
    rw [cn_of e0, e0]; exact hwf.1.1.1
  have last : ∀ (z2 : Nat → Nat → Int32) (w2' : Nat → Option Nat) (v : Int32), kC (rvS (em0 S) p (bz z 16) (cn S 1) (cn S 5)).1 z2 w2' → (∀ a, 51 < a → z2 a = z a) → B_56_30 f 0 v (hq z2 w2' c s) = some (.inl (some (.int v)), hq (va_up z2 15 (upd (z2 15) 1 0)) w2' c s) ∧ rc (sT (rvS (em0 S) p (bz z 16) (cn S 1) (cn S 5)).1 0) (va_up z2 15 (upd (z2 15) 1 0)) w2' ∧ ∀ a, 51 < a → va_up z2 15 (upd (z2 15) 1 0) a = z a := fun z2 w2' v hK2 hz2 => by
    refine ⟨by simp only [B_56_30, dg_1, db_1, db_0, dl_1, dp_1, dv_1, dv_x, di_1, di_x, dw_1, ec_eq, ec_ne, ec_lt, ec_ge, ec_gt, ec_le, hq_z, hq_wz, hq_wc, hq_thr, hq_p29, hq_pw, eq_self, decide_true, decide_false, not_true_eq_false, not_false_eq_true, kq_0, kq_1, kq_2, kq_3, kq_4, kq_5, kq_6, kq_7, kq_8, kq_9, kq_10, kq_11, kq_12, kq_13, kq_14, kq_15, kq_16, kq_17, kq_18, kq_19, kq_20, kq_21, kq_22, kq_23, kq_24, kq_25, kq_26, kq_27, kq_28, kq_29, kq_30, kq_31, kq_32, kq_33, kq_34, kq_35, kq_36, kq_37, kq_38, kq_39, kq_40, kq_41, kq_42, kq_43, kq_44, kq_45, kq_46, kq_47, kq_48, kq_49, kq_50, kq_51, kq_52, kq_53, kq_54, kq_55, kq_56, kq_57, kq_58, kq_59, kq_60, kq_61, kq_62, kq_63, kq_64, kq_65, kq_66, kq_67, kq_68, kq_69, kq_70, kq_71, kq_72, kq_73, kq_74, kq_75, kq_76, kq_77, kq_78, kq_79, kq_80, kq_81, pq_0_0, pq_0_1, pq_0_2, pq_0_3, pq_0_4, pq_0_5, pq_0_6, pq_0_7, pq_1_0, pq_1_1, pq_1_2, pq_1_3, pq_1_4, pq_1_5, pq_1_6, pq_1_7, pq_10_0, pq_10_1, pq_10_2, pq_10_3, pq_15_0, pq_17_0, pq_19_0, pq_21_0, pq_21_1, pq_21_2, pq_21_3, pq_21_4, pq_21_5, pq_28_0, pq_30_0, pq_30_1, pq_30_2, pq_31_0, pq_35_0, pq_35_1, pq_35_2, pq_36_0, pq_40_0, pq_40_1, pq_40_2, pq_41_0, pq_45_0, pq_45_1, pq_45_2, pq_46_0, pq_50_0, pq_52_0, pq_52_1, pq_52_2, pq_52_3, pq_52_4, pq_52_5, pq_52_6, pq_52_8, pq_52_10, pq_52_11, pq_52_14, pq_52_15, pq_52_16, pq_52_17, pq_52_18, pq_52_27, pq_52_29, pq_52_30, pq_52_31, pq_52_32, pq_52_33, pq_52_34, pq_52_35, pq_52_36, pq_52_37, pq_52_38, pq_52_39, pq_52_40, pq_52_41, aq_1, aq_11, aq_12, aq_13, aq_14, aq_16, aq_18, aq_20, aq_22, aq_23, aq_24, aq_25, aq_26, aq_27, aq_29, aq_32, aq_33, aq_34, aq_37, aq_38, aq_39, aq_42, aq_43, aq_44, aq_47, aq_48, aq_49, aq_51, aq_53, aq_54, aq_55, aq_56, aq_57, aq_58, aq_59, aq_60, aq_61, aq_62, aq_63, aq_64, aq_65, aq_66, aq_67, aq_68, aq_69, aq_70, aq_71, aq_72, aq_73, aq_74, aq_75, aq_76, aq_77, aq_78, aq_79, aq_80, aq_81], rc_k hK2 h0T rvx.2.2.2.1 (fun k h3 => sT_n _ h3) (fun j hj => sT_3 _ hj) (fun a ha => va_up_ne _ _ ha) (by rw [va_up_self, pk_us, sT_1]) (fun i hi => ?_), fun a ha => by rw [va_up_ne _ _ (by omega)]; exact hz2 a ha⟩
    have : cn (sT (rvS (em0 S) p (bz z 16) (cn S 1) (cn S 5)).1 0) 1 = 0 := by unfold cn; rw [sT_1]; rfl
    omega
  by_cases hh : hfN (bz z 16) (cn S 1) = 0
  · have hx : ¬ cn S 1 < 20 ∧ ¬ (hl (bz z 16) < 20 ∨ cn S 1 < hl (bz z 16)) ∧ ¬ (n2 (bz z 16) 2 < hl (bz z 16) ∨ cn S 1 < n2 (bz z 16) 2) ∧ ¬ 65535 < n2 (bz z 16) 6 % 8192 * 8 + (n2 (bz z 16) 2 - hl (bz z 16)) := by
      have hh' := hh
      unfold hfN at hh'
      by_cases g1 : cn S 1 < 20
      · rw [if_pos g1] at hh'; omega
      rw [if_neg g1] at hh'
      by_cases g2 : ¬ bz z 16 0 / 16 = 4
      · rw [if_pos g2] at hh'; omega
      rw [if_neg g2] at hh'
      by_cases g3 : hl (bz z 16) < 20 ∨ cn S 1 < hl (bz z 16)
      · rw [if_pos g3] at hh'; omega
      rw [if_neg g3] at hh'
      by_cases g4 : n2 (bz z 16) 2 < hl (bz z 16) ∨ cn S 1 < n2 (bz z 16) 2
      · rw [if_pos g4] at hh'; omega
      rw [if_neg g4] at hh'
      by_cases g5 : ¬ ck (sN (bz z 16) 0 10 (hl (bz z 16))) = n2 (bz z 16) 10
      · rw [if_pos g5] at hh'; omega
      rw [if_neg g5] at hh'
      by_cases g6 : bz z 16 12 = 127 ∨ 223 < bz z 16 12 ∨ 65535 < n2 (bz z 16) 6 % 8192 * 8 + (n2 (bz z 16) 2 - hl (bz z 16))
      · rw [if_pos g6] at hh'; omega
      exact ⟨g1, g3, g4, by omega⟩
    obtain ⟨g1, g3, g4, g6⟩ := hx
    have hR : rdP z1 (cn S 1) (bz z 16) (n2 (bz z 16) 2 - hl (bz z 16)) := ⟨hP, hc1, hbr, by omega, by omega, by omega⟩
    obtain ⟨z2, w2', k1, k2, k3⟩ := n65 (f := f) (c := c) (s := s) (p := p) (t := cn S 5) hK W1 W3 hX hR (by omega) em0_c2 em0_c11 W6 W7 hp hf
    have hrv : rvS (em0 S) p (bz z 16) (cn S 1) (cn S 5) = sdT (em0 S) p (bz z 16) (n2 (bz z 16) 2 - hl (bz z 16)) (cn S 5) := by unfold rvS; rw [if_pos hh]
    rw [← hrv] at k1 k2
    obtain ⟨l1, l2, l3⟩ := last z2 w2' (rvS (em0 S) p (bz z 16) (cn S 1) (cn S 5)).2 k2 (fun a ha => by rw [k3 a ha, n1 a (by omega)])
    rw [hh, nI_0] at q20
    exact ⟨_, _, by simp only [F_56, q62, q3, q20, k1, l1, dg_1, db_1, db_0, dl_1, dp_1, dv_1, dv_x, di_1, di_x, dw_1, ec_eq, ec_ne, ec_lt, ec_ge, ec_gt, ec_le, hq_z, hq_wz, hq_wc, hq_thr, hq_p29, hq_pw, eq_self, decide_true, decide_false, not_true_eq_false, not_false_eq_true, kq_0, kq_1, kq_2, kq_3, kq_4, kq_5, kq_6, kq_7, kq_8, kq_9, kq_10, kq_11, kq_12, kq_13, kq_14, kq_15, kq_16, kq_17, kq_18, kq_19, kq_20, kq_21, kq_22, kq_23, kq_24, kq_25, kq_26, kq_27, kq_28, kq_29, kq_30, kq_31, kq_32, kq_33, kq_34, kq_35, kq_36, kq_37, kq_38, kq_39, kq_40, kq_41, kq_42, kq_43, kq_44, kq_45, kq_46, kq_47, kq_48, kq_49, kq_50, kq_51, kq_52, kq_53, kq_54, kq_55, kq_56, kq_57, kq_58, kq_59, kq_60, kq_61, kq_62, kq_63, kq_64, kq_65, kq_66, kq_67, kq_68, kq_69, kq_70, kq_71, kq_72, kq_73, kq_74, kq_75, kq_76, kq_77, kq_78, kq_79, kq_80, kq_81, pq_0_0, pq_0_1, pq_0_2, pq_0_3, pq_0_4, pq_0_5, pq_0_6, pq_0_7, pq_1_0, pq_1_1, pq_1_2, pq_1_3, pq_1_4, pq_1_5, pq_1_6, pq_1_7, pq_10_0, pq_10_1, pq_10_2, pq_10_3, pq_15_0, pq_17_0, pq_19_0, pq_21_0, pq_21_1, pq_21_2, pq_21_3, pq_21_4, pq_21_5, pq_28_0, pq_30_0, pq_30_1, pq_30_2, pq_31_0, pq_35_0, pq_35_1, pq_35_2, pq_36_0, pq_40_0, pq_40_1, pq_40_2, pq_41_0, pq_45_0, pq_45_1, pq_45_2, pq_46_0, pq_50_0, pq_52_0, pq_52_1, pq_52_2, pq_52_3, pq_52_4, pq_52_5, pq_52_6, pq_52_8, pq_52_10, pq_52_11, pq_52_14, pq_52_15, pq_52_16, pq_52_17, pq_52_18, pq_52_27, pq_52_29, pq_52_30, pq_52_31, pq_52_32, pq_52_33, pq_52_34, pq_52_35, pq_52_36, pq_52_37, pq_52_38, pq_52_39, pq_52_40, pq_52_41, aq_1, aq_11, aq_12, aq_13, aq_14, aq_16, aq_18, aq_20, aq_22, aq_23, aq_24, aq_25, aq_26, aq_27, aq_29, aq_32, aq_33, aq_34, aq_37, aq_38, aq_39, aq_42, aq_43, aq_44, aq_47, aq_48, aq_49, aq_51, aq_53, aq_54, aq_55, aq_56, aq_57, aq_58, aq_59, aq_60, aq_61, aq_62, aq_63, aq_64, aq_65, aq_66, aq_67, aq_68, aq_69, aq_70, aq_71, aq_72, aq_73, aq_74, aq_75, aq_76, aq_77, aq_78, aq_79, aq_80, aq_81], l2, l3⟩
  · have hrv : rvS (em0 S) p (bz z 16) (cn S 1) (cn S 5) = (em0 S, nI (hfN (bz z 16) (cn S 1))) := by unfold rvS; rw [if_neg hh]
    have hle : hfN (bz z 16) (cn S 1) ≤ 6 := by
      unfold hfN
      split
      · omega
      · split
        · omega
        · split
          · omega
          · split
            · omega
            · split
              · omega
              · split <;> omega
    have hne : ¬ nI (hfN (bz z 16) (cn S 1)) = 0 := nI_ne0 (by omega) (by omega)
    obtain ⟨l1, l2, l3⟩ := last z1 w (nI (hfN (bz z 16) (cn S 1))) (by rw [hrv]; exact hK) (fun a ha => n1 a (by omega))
    refine ⟨_, _, ?_, l2, l3⟩
    rw [hrv]
    simp only [F_56, q62, q3, q20, hne, l1, dg_1, db_1, db_0, dl_1, dp_1, dv_1, dv_x, di_1, di_x, dw_1, ec_eq, ec_ne, ec_lt, ec_ge, ec_gt, ec_le, hq_z, hq_wz, hq_wc, hq_thr, hq_p29, hq_pw, eq_self, decide_true, decide_false, not_true_eq_false, not_false_eq_true, kq_0, kq_1, kq_2, kq_3, kq_4, kq_5, kq_6, kq_7, kq_8, kq_9, kq_10, kq_11, kq_12, kq_13, kq_14, kq_15, kq_16, kq_17, kq_18, kq_19, kq_20, kq_21, kq_22, kq_23, kq_24, kq_25, kq_26, kq_27, kq_28, kq_29, kq_30, kq_31, kq_32, kq_33, kq_34, kq_35, kq_36, kq_37, kq_38, kq_39, kq_40, kq_41, kq_42, kq_43, kq_44, kq_45, kq_46, kq_47, kq_48, kq_49, kq_50, kq_51, kq_52, kq_53, kq_54, kq_55, kq_56, kq_57, kq_58, kq_59, kq_60, kq_61, kq_62, kq_63, kq_64, kq_65, kq_66, kq_67, kq_68, kq_69, kq_70, kq_71, kq_72, kq_73, kq_74, kq_75, kq_76, kq_77, kq_78, kq_79, kq_80, kq_81, pq_0_0, pq_0_1, pq_0_2, pq_0_3, pq_0_4, pq_0_5, pq_0_6, pq_0_7, pq_1_0, pq_1_1, pq_1_2, pq_1_3, pq_1_4, pq_1_5, pq_1_6, pq_1_7, pq_10_0, pq_10_1, pq_10_2, pq_10_3, pq_15_0, pq_17_0, pq_19_0, pq_21_0, pq_21_1, pq_21_2, pq_21_3, pq_21_4, pq_21_5, pq_28_0, pq_30_0, pq_30_1, pq_30_2, pq_31_0, pq_35_0, pq_35_1, pq_35_2, pq_36_0, pq_40_0, pq_40_1, pq_40_2, pq_41_0, pq_45_0, pq_45_1, pq_45_2, pq_46_0, pq_50_0, pq_52_0, pq_52_1, pq_52_2, pq_52_3, pq_52_4, pq_52_5, pq_52_6, pq_52_8, pq_52_10, pq_52_11, pq_52_14, pq_52_15, pq_52_16, pq_52_17, pq_52_18, pq_52_27, pq_52_29, pq_52_30, pq_52_31, pq_52_32, pq_52_33, pq_52_34, pq_52_35, pq_52_36, pq_52_37, pq_52_38, pq_52_39, pq_52_40, pq_52_41, aq_1, aq_11, aq_12, aq_13, aq_14, aq_16, aq_18, aq_20, aq_22, aq_23, aq_24, aq_25, aq_26, aq_27, aq_29, aq_32, aq_33, aq_34, aq_37, aq_38, aq_39, aq_42, aq_43, aq_44, aq_47, aq_48, aq_49, aq_51, aq_53, aq_54, aq_55, aq_56, aq_57, aq_58, aq_59, aq_60, aq_61, aq_62, aq_63, aq_64, aq_65, aq_66, aq_67, aq_68, aq_69, aq_70, aq_71, aq_72, aq_73, aq_74, aq_75, aq_76, aq_77, aq_78, aq_79, aq_80, aq_81]
theorem m112 (hn : n < 512) (hwf : wf n S) (hrm : rmd S z) (hP : mb z 60 (cn S 1) P) (hp : p < 8) (hf : 60000 < f) : ∃ z', F_112 f 52 (nI p) (hq z w c s) = some (.inl (some (.int (rvS (em0 S) p P (cn S 1) (cn S 5)).2)), hq z' w c s) ∧ rmd (sT (rvS (em0 S) p P (cn S 1) (cn S 5)).1 0) z' ∧ (∀ a, a < 52 → z' a = z a) ∧ z' 52 42 = 0 := by
  obtain ⟨W1, W2, W3, W4, W5, W6, W7⟩ := em0_W hn hwf
  have hX := em0_X hwf.1.2.2.2.2.2.2.2.1.2 hrm
  have e1 : z 52 9 = nI (cn S 1) := hrm.2.1.2.1.trans hwf.1.2.1.1
  have hc1 := hwf.1.2.1.2
  have q76 : F_76 f (nI p) (hq z w c s) = some (.inl (some (.int 1)), hq z w c s) := by
    have g1 : ¬ nI p < 0 := nI_pos (by omega)
    have g2 : ¬ (8 : Int32) ≤ nI p := nI_ge (b := 8) hp (by omega)
    simp only [F_76, B_76_14, B_76_15, g1, g2, show dzb 1 = true from rfl, dg_1, db_1, db_0, dl_1, dp_1, dv_1, dv_x, di_1, di_x, dw_1, ec_eq, ec_ne, ec_lt, ec_ge, ec_gt, ec_le, hq_z, hq_wz, hq_wc, hq_thr, hq_p29, hq_pw, eq_self, decide_true, decide_false, not_true_eq_false, not_false_eq_true, kq_0, kq_1, kq_2, kq_3, kq_4, kq_5, kq_6, kq_7, kq_8, kq_9, kq_10, kq_11, kq_12, kq_13, kq_14, kq_15, kq_16, kq_17, kq_18, kq_19, kq_20, kq_21, kq_22, kq_23, kq_24, kq_25, kq_26, kq_27, kq_28, kq_29, kq_30, kq_31, kq_32, kq_33, kq_34, kq_35, kq_36, kq_37, kq_38, kq_39, kq_40, kq_41, kq_42, kq_43, kq_44, kq_45, kq_46, kq_47, kq_48, kq_49, kq_50, kq_51, kq_52, kq_53, kq_54, kq_55, kq_56, kq_57, kq_58, kq_59, kq_60, kq_61, kq_62, kq_63, kq_64, kq_65, kq_66, kq_67, kq_68, kq_69, kq_70, kq_71, kq_72, kq_73, kq_74, kq_75, kq_76, kq_77, kq_78, kq_79, kq_80, kq_81, pq_0_0, pq_0_1, pq_0_2, pq_0_3, pq_0_4, pq_0_5, pq_0_6, pq_0_7, pq_1_0, pq_1_1, pq_1_2, pq_1_3, pq_1_4, pq_1_5, pq_1_6, pq_1_7, pq_10_0, pq_10_1, pq_10_2, pq_10_3, pq_15_0, pq_17_0, pq_19_0, pq_21_0, pq_21_1, pq_21_2, pq_21_3, pq_21_4, pq_21_5, pq_28_0, pq_30_0, pq_30_1, pq_30_2, pq_31_0, pq_35_0, pq_35_1, pq_35_2, pq_36_0, pq_40_0, pq_40_1, pq_40_2, pq_41_0, pq_45_0, pq_45_1, pq_45_2, pq_46_0, pq_50_0, pq_52_0, pq_52_1, pq_52_2, pq_52_3, pq_52_4, pq_52_5, pq_52_6, pq_52_8, pq_52_10, pq_52_11, pq_52_14, pq_52_15, pq_52_16, pq_52_17, pq_52_18, pq_52_27, pq_52_29, pq_52_30, pq_52_31, pq_52_32, pq_52_33, pq_52_34, pq_52_35, pq_52_36, pq_52_37, pq_52_38, pq_52_39, pq_52_40, pq_52_41, aq_1, aq_11, aq_12, aq_13, aq_14, aq_16, aq_18, aq_20, aq_22, aq_23, aq_24, aq_25, aq_26, aq_27, aq_29, aq_32, aq_33, aq_34, aq_37, aq_38, aq_39, aq_42, aq_43, aq_44, aq_47, aq_48, aq_49, aq_51, aq_53, aq_54, aq_55, aq_56, aq_57, aq_58, aq_59, aq_60, aq_61, aq_62, aq_63, aq_64, aq_65, aq_66, aq_67, aq_68, aq_69, aq_70, aq_71, aq_72, aq_73, aq_74, aq_75, aq_76, aq_77, aq_78, aq_79, aq_80, aq_81]
  obtain ⟨z1, ez1⟩ : ∃ x, x = z42 z 0 := ⟨_, rfl⟩
  have a1 : ∀ a, a ≠ 52 → z1 a = z a := fun a ha => by rw [ez1, z42_n 0 ha]
  have b1' : ∀ k, k ≠ 42 → z1 52 k = z 52 k := fun k hk => by rw [ez1, z42_52 0 hk]
  have d1 : z1 52 42 = 0 := by rw [ez1, z42_s]
  have s2 := lp_112 (f := f) (w := w) (c := c) (s := s) (l1 := nI p) (l2 := cn S 1) hc1 (cn S 1) 0 (f - cn S 1) z1 (by omega)
  rw [show f - cn S 1 + cn S 1 = f by omega] at s2
  obtain ⟨z2, ez2⟩ : ∃ x, x = cpz z1 61 60 (0 + 0) (0 + 0) (cn S 1) := ⟨_, rfl⟩
  rw [← ez2] at s2
  have a2 : ∀ a, a ≠ 61 → z2 a = z1 a := fun a ha => by rw [ez2, cpz_ne ha]
  obtain ⟨g, hg⟩ : ∃ g, f - cn S 1 = g + 1 := ⟨f - cn S 1 - 1, by omega⟩
  rw [hg] at s2
  obtain ⟨z3, ez3⟩ : ∃ x, x = va_up z2 52 (upd (upd (z2 52) 9 0) 19 0) := ⟨_, rfl⟩
  have a3 : ∀ a, a ≠ 52 → z3 a = z2 a := fun a ha => by rw [ez3, va_up_ne _ _ ha]
  have b3 : ∀ k, k ≠ 9 → k ≠ 19 → z3 52 k = z1 52 k := fun k h9 h19 => by rw [ez3, va_up_self, pk_un h19, pk_un h9, a2 52 (by omega)]
  have hK : kM (em0 S) z3 := kM_0 hwf hrm (fun a ha h61 => by rw [a3 a (by omega), a2 a h61, a1 a (by omega)]) (fun k h9 h19 h42 => by rw [b3 k h9 h19, b1' k h42]) (by rw [ez3, va_up_self, pk_us])
  have hP3 : mb z3 61 (cn S 1) P := ⟨hP.1, fun i hi => by rw [a3 61 (by omega), ez2, cpz_at, if_pos (by omega), show 0 + 0 + (i - (0 + 0)) = i by omega, a1 60 (by omega)]; exact hP.2 i hi⟩
  obtain ⟨z4, k1, k2, k3, k4⟩ := m111 (f := f) (w := w) (c := c) (s := s) (p := p) (t := cn S 5) hK W1 W3 hX hP3 hc1 em0_c2 em0_c11 W6 W7 hp (by omega)
  have rvx := rv_all (P := P) (m := cn S 1) (t := cn S 5) W1 W2 W3 hX W4 hP.1 hc1 em0_c2 em0_c11 W7 hp
  have h0T : (rvS (em0 S) p P (cn S 1) (cn S 5)).1 3 0 = nI (cn (rvS (em0 S) p P (cn S 1) (cn S 5)).1 0) := by
    have e0 : (rvS (em0 S) p P (cn S 1) (cn S 5)).1 3 0 = S 3 0 := by rw [rvx.2.1, em0_3 (by omega) (by omega)]
    rw [cn_of e0, e0]; exact hwf.1.1.1
  have y0 : nI (cn S 1) ≤ nI (0 + cn S 1) := nI_le (by omega) (by omega)
  have y1 : z1 52 9 = nI (cn S 1) := by rw [b1' 9 (by omega)]; exact e1
  refine ⟨z4, ?_, ?_, fun a ha => by rw [k3 a ha, a3 a (by omega), a2 a (by omega), a1 a (by omega)], by rw [k4 42 (by omega), b3 42 (by omega) (by omega)]; exact d1⟩
  · have s3 : B_112_29 f f 52 (nI p) (nI (cn S 1)) 0 (hq z1 w c s) = some (.inl (some (.int (rvS (em0 S) p P (cn S 1) (cn S 5)).2)), hq z4 w c s) := by
      refine Eq.trans s2 ?_
      rw [ez3] at k1
      simp only [B_112_29, y0, va_up_self, va_up2, k1, dg_1, db_1, db_0, dl_1, dp_1, dv_1, dv_x, di_1, di_x, dw_1, ec_eq, ec_ne, ec_lt, ec_ge, ec_gt, ec_le, hq_z, hq_wz, hq_wc, hq_thr, hq_p29, hq_pw, eq_self, decide_true, decide_false, not_true_eq_false, not_false_eq_true, kq_0, kq_1, kq_2, kq_3, kq_4, kq_5, kq_6, kq_7, kq_8, kq_9, kq_10, kq_11, kq_12, kq_13, kq_14, kq_15, kq_16, kq_17, kq_18, kq_19, kq_20, kq_21, kq_22, kq_23, kq_24, kq_25, kq_26, kq_27, kq_28, kq_29, kq_30, kq_31, kq_32, kq_33, kq_34, kq_35, kq_36, kq_37, kq_38, kq_39, kq_40, kq_41, kq_42, kq_43, kq_44, kq_45, kq_46, kq_47, kq_48, kq_49, kq_50, kq_51, kq_52, kq_53, kq_54, kq_55, kq_56, kq_57, kq_58, kq_59, kq_60, kq_61, kq_62, kq_63, kq_64, kq_65, kq_66, kq_67, kq_68, kq_69, kq_70, kq_71, kq_72, kq_73, kq_74, kq_75, kq_76, kq_77, kq_78, kq_79, kq_80, kq_81, pq_0_0, pq_0_1, pq_0_2, pq_0_3, pq_0_4, pq_0_5, pq_0_6, pq_0_7, pq_1_0, pq_1_1, pq_1_2, pq_1_3, pq_1_4, pq_1_5, pq_1_6, pq_1_7, pq_10_0, pq_10_1, pq_10_2, pq_10_3, pq_15_0, pq_17_0, pq_19_0, pq_21_0, pq_21_1, pq_21_2, pq_21_3, pq_21_4, pq_21_5, pq_28_0, pq_30_0, pq_30_1, pq_30_2, pq_31_0, pq_35_0, pq_35_1, pq_35_2, pq_36_0, pq_40_0, pq_40_1, pq_40_2, pq_41_0, pq_45_0, pq_45_1, pq_45_2, pq_46_0, pq_50_0, pq_52_0, pq_52_1, pq_52_2, pq_52_3, pq_52_4, pq_52_5, pq_52_6, pq_52_8, pq_52_10, pq_52_11, pq_52_14, pq_52_15, pq_52_16, pq_52_17, pq_52_18, pq_52_27, pq_52_29, pq_52_30, pq_52_31, pq_52_32, pq_52_33, pq_52_34, pq_52_35, pq_52_36, pq_52_37, pq_52_38, pq_52_39, pq_52_40, pq_52_41, aq_1, aq_11, aq_12, aq_13, aq_14, aq_16, aq_18, aq_20, aq_22, aq_23, aq_24, aq_25, aq_26, aq_27, aq_29, aq_32, aq_33, aq_34, aq_37, aq_38, aq_39, aq_42, aq_43, aq_44, aq_47, aq_48, aq_49, aq_51, aq_53, aq_54, aq_55, aq_56, aq_57, aq_58, aq_59, aq_60, aq_61, aq_62, aq_63, aq_64, aq_65, aq_66, aq_67, aq_68, aq_69, aq_70, aq_71, aq_72, aq_73, aq_74, aq_75, aq_76, aq_77, aq_78, aq_79, aq_80, aq_81]
    simp only [F_112, B_112_13, q76, show ¬ (1 : Int32) = 0 by decide, t75_0, ← ez1, y1, s3, dg_1, db_1, db_0, dl_1, dp_1, dv_1, dv_x, di_1, di_x, dw_1, ec_eq, ec_ne, ec_lt, ec_ge, ec_gt, ec_le, hq_z, hq_wz, hq_wc, hq_thr, hq_p29, hq_pw, eq_self, decide_true, decide_false, not_true_eq_false, not_false_eq_true, kq_0, kq_1, kq_2, kq_3, kq_4, kq_5, kq_6, kq_7, kq_8, kq_9, kq_10, kq_11, kq_12, kq_13, kq_14, kq_15, kq_16, kq_17, kq_18, kq_19, kq_20, kq_21, kq_22, kq_23, kq_24, kq_25, kq_26, kq_27, kq_28, kq_29, kq_30, kq_31, kq_32, kq_33, kq_34, kq_35, kq_36, kq_37, kq_38, kq_39, kq_40, kq_41, kq_42, kq_43, kq_44, kq_45, kq_46, kq_47, kq_48, kq_49, kq_50, kq_51, kq_52, kq_53, kq_54, kq_55, kq_56, kq_57, kq_58, kq_59, kq_60, kq_61, kq_62, kq_63, kq_64, kq_65, kq_66, kq_67, kq_68, kq_69, kq_70, kq_71, kq_72, kq_73, kq_74, kq_75, kq_76, kq_77, kq_78, kq_79, kq_80, kq_81, pq_0_0, pq_0_1, pq_0_2, pq_0_3, pq_0_4, pq_0_5, pq_0_6, pq_0_7, pq_1_0, pq_1_1, pq_1_2, pq_1_3, pq_1_4, pq_1_5, pq_1_6, pq_1_7, pq_10_0, pq_10_1, pq_10_2, pq_10_3, pq_15_0, pq_17_0, pq_19_0, pq_21_0, pq_21_1, pq_21_2, pq_21_3, pq_21_4, pq_21_5, pq_28_0, pq_30_0, pq_30_1, pq_30_2, pq_31_0, pq_35_0, pq_35_1, pq_35_2, pq_36_0, pq_40_0, pq_40_1, pq_40_2, pq_41_0, pq_45_0, pq_45_1, pq_45_2, pq_46_0, pq_50_0, pq_52_0, pq_52_1, pq_52_2, pq_52_3, pq_52_4, pq_52_5, pq_52_6, pq_52_8, pq_52_10, pq_52_11, pq_52_14, pq_52_15, pq_52_16, pq_52_17, pq_52_18, pq_52_27, pq_52_29, pq_52_30, pq_52_31, pq_52_32, pq_52_33, pq_52_34, pq_52_35, pq_52_36, pq_52_37, pq_52_38, pq_52_39, pq_52_40, pq_52_41, aq_1, aq_11, aq_12, aq_13, aq_14, aq_16, aq_18, aq_20, aq_22, aq_23, aq_24, aq_25, aq_26, aq_27, aq_29, aq_32, aq_33, aq_34, aq_37, aq_38, aq_39, aq_42, aq_43, aq_44, aq_47, aq_48, aq_49, aq_51, aq_53, aq_54, aq_55, aq_56, aq_57, aq_58, aq_59, aq_60, aq_61, aq_62, aq_63, aq_64, aq_65, aq_66, aq_67, aq_68, aq_69, aq_70, aq_71, aq_72, aq_73, aq_74, aq_75, aq_76, aq_77, aq_78, aq_79, aq_80, aq_81]
  · refine rmd_k k2 rvx.2.2.2.2.1 h0T rvx.2.2.2.1 (fun k h3 => sT_n _ h3) (fun j hj => sT_3 _ hj) ?_ (fun i hi => ?_)
    · rw [k4 9 (by omega), ez3, va_up_self, pk_un (by omega), pk_us, sT_1]
    · have : cn (sT (rvS (em0 S) p P (cn S 1) (cn S 5)).1 0) 1 = 0 := by unfold cn; rw [sT_1]; rfl
      omega
end Recv86
