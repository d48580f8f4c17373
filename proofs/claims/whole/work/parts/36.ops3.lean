section Ops3
variable {z z' : Nat → Nat → Int32} {w : Nat → Option Nat} {c s n f : Nat} {x y : Int32} {S S' : St9} {h : hp_T}
theorem rcW_of (h : rcW S z w) (hS : ∀ k, 15 ≤ k → S' k = S k) (hc : cn S' 10 = cn S 10) (hz : ∀ a, 30 ≤ a → a < 50 → z' a = z a) : rcW S' z' w := by
  obtain ⟨⟨p, hp, hi⟩, h9⟩ := h
  refine ⟨⟨p, hp, hi⟩, fun e a he h10 ha => ?_⟩
  rw [hc] at he
  have h11 := hp e h10
  have h12 := h9 e a he h10 ha
  rw [ha] at h11
  obtain ⟨h13, h14⟩ := h11
  cases h14
  rw [hz (30 + 5 * p e) (by omega) (by omega), hz (30 + 5 * p e + 2) (by omega) (by omega), hz (30 + 5 * p e + 3) (by omega) (by omega), hz (30 + 5 * p e + 4) (by omega) (by omega)]
  rw [hS (15 + e) (by omega)]
  exact h12
theorem rmW_of (h : rmW S z) (hS : ∀ k, 15 ≤ k → S' k = S k) (hc : cn S' 10 = cn S 10) (hz : ∀ a, 69 ≤ a → z' a = z a) : rmW S' z' := by
  intro e he
  rw [hc] at he
  have h1 := h e he
  rw [hS (15 + e) (by omega), hz 69 (by omega), hz 70 (by omega), hz 71 (by omega), hz 72 (by omega), hz 73 (by omega), hz 74 (by omega), hz 75 (by omega), hz 76 (by omega), hz 77 (by omega), hz 78 (by omega), hz 79 (by omega), hz 80 (by omega), hz 81 (by omega)]
  exact h1
theorem cn_of {k : Nat} (h : S' 3 k = S 3 k) : cn S' k = cn S k := by unfold cn; rw [h]
theorem wfn_of {k m : Nat} (h : wfn S k m) (hS : S' 3 k = S 3 k) : wfn S' k m := by
  unfold wfn at h ⊢
  rw [cn_of hS, hS]
  exact h
-- the tape
theorem rc_tape (h : rc S z w) (hS : ∀ k, k ≠ 3 → k ≠ 8 → S' k = S k) (hS3 : ∀ j, j ≠ 1 → S' 3 j = S 3 j) (hz : ∀ a, a < 52 → a ≠ 15 → a ≠ 16 → z' a = z a) (h1 : z' 15 1 = S' 3 1) (h8 : ∀ i, i < cn S' 1 → z' 16 i &&& 255 = S' 8 i) (hb : ∀ i, br (z' 16 i)) : rc S' z' w := by
  obtain ⟨g1, ⟨a0, a1, a2, a3, a4, a5, a6, a7, a8, a9, a10, a11⟩, g3, g4, g5, g6, g7, g8, g9⟩ := h
  have cq : ∀ j, j ≠ 1 → cn S' j = cn S j := fun j hj => cn_of (hS3 j hj)
  refine ⟨fun i hi => ?_, ⟨?_, h1, ?_, ?_, ?_, ?_, ?_, ?_, ?_, ?_, ?_, ?_⟩, ?_, h8, ?_, ?_, ?_, fun r hr i => ?_, rcW_of g9 (fun k hk => hS k (by omega) (by omega)) (cq 10 (by omega)) (fun a h1 h2 => hz a (by omega) (by omega) (by omega))⟩
  · rw [hz (2 + i) (by omega) (by omega) (by omega), hS 0 (by omega) (by omega), hS 1 (by omega) (by omega), hS 2 (by omega) (by omega)]; exact g1 i hi
  · rw [hz 10 (by omega) (by omega) (by omega), hS3 0 (by omega)]; exact a0
  · rw [hz 21 (by omega) (by omega) (by omega), hS3 2 (by omega)]; exact a2
  · rw [hz 0 (by omega) (by omega) (by omega), hS3 3 (by omega)]; exact a3
  · rw [hz 0 (by omega) (by omega) (by omega), hS3 4 (by omega)]; exact a4
  · rw [hz 0 (by omega) (by omega) (by omega), hS3 5 (by omega)]; exact a5
  · rw [hz 50 (by omega) (by omega) (by omega), hS3 6 (by omega)]; exact a6
  · rw [hz 50 (by omega) (by omega) (by omega), hS3 7 (by omega)]; exact a7
  · rw [hz 50 (by omega) (by omega) (by omega), hS3 8 (by omega)]; exact a8
  · rw [hz 50 (by omega) (by omega) (by omega), hS3 9 (by omega)]; exact a9
  · rw [hz 28 (by omega) (by omega) (by omega), hS3 10 (by omega)]; exact a10
  · rw [hz 21 (by omega) (by omega) (by omega), hS3 11 (by omega)]; exact a11
  · rw [cq 0 (by omega), hz 11 (by omega) (by omega) (by omega), hz 12 (by omega) (by omega) (by omega), hz 13 (by omega) (by omega) (by omega), hz 14 (by omega) (by omega) (by omega), hS 4 (by omega) (by omega), hS 5 (by omega) (by omega), hS 6 (by omega) (by omega), hS 7 (by omega) (by omega)]; exact g3
  · rw [cq 2 (by omega), hz 23 (by omega) (by omega) (by omega), hz 24 (by omega) (by omega) (by omega), hz 25 (by omega) (by omega) (by omega), hz 26 (by omega) (by omega) (by omega), hS 9 (by omega) (by omega), hS 10 (by omega) (by omega), hS 11 (by omega) (by omega), hS 12 (by omega) (by omega)]; exact g5
  · rw [cq 11 (by omega), hz 22 (by omega) (by omega) (by omega), hS 13 (by omega) (by omega)]; exact g6
  · rw [cq 9 (by omega), hz 51 (by omega) (by omega) (by omega), hS 14 (by omega) (by omega)]; exact g7
  · by_cases e : r = 16
    · subst e; exact hb i
    · have h0 : r < 52 ∧ r ≠ 15 := by
        simp only [wrows, List.mem_cons, List.not_mem_nil, or_false] at hr
        omega
      rw [hz r h0.1 h0.2 e]; exact g8 r hr i
theorem rmd_tape (h : rmd S z) (hS : ∀ k, k ≠ 3 → k ≠ 8 → S' k = S k) (hS3 : ∀ j, j ≠ 1 → S' 3 j = S 3 j) (hz : ∀ a, 52 < a → a ≠ 60 → z' a = z a) (h52 : ∀ k, k ≠ 9 → k ≠ 42 → z' 52 k = z 52 k) (h1 : z' 52 9 = S' 3 1) (h8 : ∀ i, i < cn S' 1 → z' 60 i = S' 8 i) : rmd S' z' := by
  obtain ⟨g1, ⟨a0, a1, a2, a3, a4, a5, a6, a7, a8, a9, a10⟩, g3, g4, g5, g6, g7, g9⟩ := h
  have cq : ∀ j, j ≠ 1 → cn S' j = cn S j := fun j hj => cn_of (hS3 j hj)
  refine ⟨?_, ⟨?_, h1, ?_, ?_, ?_, ?_, ?_, ?_, ?_, ?_, ?_⟩, ?_, h8, ?_, ?_, ?_, rmW_of g9 (fun k hk => hS k (by omega) (by omega)) (cq 10 (by omega)) (fun a h1 => hz a (by omega) (by omega))⟩
  · rw [hz 53 (by omega) (by omega), hz 54 (by omega) (by omega), hz 55 (by omega) (by omega), hS 0 (by omega) (by omega), hS 1 (by omega) (by omega), hS 2 (by omega) (by omega)]; exact g1
  · rw [h52 7 (by omega) (by omega), hS3 0 (by omega)]; exact a0
  · rw [h52 19 (by omega) (by omega), hS3 2 (by omega)]; exact a2
  · rw [h52 20 (by omega) (by omega), hS3 3 (by omega)]; exact a3
  · rw [h52 21 (by omega) (by omega), hS3 4 (by omega)]; exact a4
  · rw [h52 22 (by omega) (by omega), hS3 5 (by omega)]; exact a5
  · rw [h52 23 (by omega) (by omega), hS3 6 (by omega)]; exact a6
  · rw [h52 24 (by omega) (by omega), hS3 7 (by omega)]; exact a7
  · rw [h52 25 (by omega) (by omega), hS3 8 (by omega)]; exact a8
  · rw [h52 26 (by omega) (by omega), hS3 9 (by omega)]; exact a9
  · rw [h52 28 (by omega) (by omega), hS3 10 (by omega)]; exact a10
  · rw [cq 0 (by omega), hz 56 (by omega) (by omega), hz 57 (by omega) (by omega), hz 58 (by omega) (by omega), hz 59 (by omega) (by omega), hS 4 (by omega) (by omega), hS 5 (by omega) (by omega), hS 6 (by omega) (by omega), hS 7 (by omega) (by omega)]; exact g3
  · rw [cq 2 (by omega), hz 64 (by omega) (by omega), hz 65 (by omega) (by omega), hz 66 (by omega) (by omega), hz 67 (by omega) (by omega), hS 9 (by omega) (by omega), hS 10 (by omega) (by omega), hS 11 (by omega) (by omega), hS 12 (by omega) (by omega)]; exact g5
  · rw [cq 11 (by omega), hz 63 (by omega) (by omega), hS 13 (by omega) (by omega)]; exact g6
  · rw [cq 9 (by omega), hz 68 (by omega) (by omega), hS 14 (by omega) (by omega)]; exact g7
theorem wf_tape (h : wf n S) (hS : ∀ k, k ≠ 3 → k ≠ 8 → S' k = S k) (hS3 : ∀ j, j ≠ 1 → S' 3 j = S 3 j) (h1 : wfn S' 1 2000) : wf (n + 1) S' := by
  obtain ⟨⟨h0, -, h2, h3, h4, h5, h9, h10, h11⟩, g1, g2, g3⟩ := wf_up h
  refine ⟨⟨wfn_of h0 (hS3 0 (by omega)), h1, wfn_of h2 (hS3 2 (by omega)), wfn_of h3 (hS3 3 (by omega)), wfn_of h4 (hS3 4 (by omega)), wfn_of h5 (hS3 5 (by omega)), wfn_of h9 (hS3 9 (by omega)), wfn_of h10 (hS3 10 (by omega)), wfn_of h11 (hS3 11 (by omega))⟩, ?_, ?_, ?_⟩
  · rw [hS 1 (by omega) (by omega), hS 2 (by omega) (by omega)]; exact g1
  · rw [cn_of (hS3 0 (by omega)), hS 5 (by omega) (by omega), hS 6 (by omega) (by omega)]; exact g2
  · rw [cn_of (hS3 2 (by omega)), cn_of (hS3 11 (by omega)), hS 9 (by omega) (by omega), hS 10 (by omega) (by omega)]; exact g3
-- a tape of another count
def sT (S : St9) (v : Int32) : St9 := va_up S 3 (upd (S 3) 1 v)
theorem sT_n (v : Int32) {k : Nat} (hk : k ≠ 3) : sT S v k = S k := by unfold sT; rw [va_up_ne _ _ hk]
theorem sT_3 (v : Int32) {j : Nat} (hj : j ≠ 1) : sT S v 3 j = S 3 j := by unfold sT; rw [va_up_self, pk_un hj]
theorem sT_1 (v : Int32) : sT S v 3 1 = v := by unfold sT; rw [va_up_self, pk_us]
-- end
theorem t53_a (h1 : x < 0) : F_53 f 0 x (hq z w c s) = some (.inr 1, hq z w (c + 1) (s + 6)) := by simp only [F_53, B_53_15, h1, dg_1, db_1, db_0, dl_1, dp_1, dv_1, dv_x, di_1, di_x, dw_1, ec_eq, ec_ne, ec_lt, ec_ge, ec_gt, ec_le, hq_z, hq_wz, hq_wc, hq_thr, hq_p29, hq_pw, eq_self, decide_true, decide_false, not_true_eq_false, not_false_eq_true, kq_0, kq_1, kq_2, kq_3, kq_4, kq_5, kq_6, kq_7, kq_8, kq_9, kq_10, kq_11, kq_12, kq_13, kq_14, kq_15, kq_16, kq_17, kq_18, kq_19, kq_20, kq_21, kq_22, kq_23, kq_24, kq_25, kq_26, kq_27, kq_28, kq_29, kq_30, kq_31, kq_32, kq_33, kq_34, kq_35, kq_36, kq_37, kq_38, kq_39, kq_40, kq_41, kq_42, kq_43, kq_44, kq_45, kq_46, kq_47, kq_48, kq_49, kq_50, kq_51, kq_52, kq_53, kq_54, kq_55, kq_56, kq_57, kq_58, kq_59, kq_60, kq_61, kq_62, kq_63, kq_64, kq_65, kq_66, kq_67, kq_68, kq_69, kq_70, kq_71, kq_72, kq_73, kq_74, kq_75, kq_76, kq_77, kq_78, kq_79, kq_80, kq_81, pq_0_0, pq_0_1, pq_0_2, pq_0_3, pq_0_4, pq_0_5, pq_0_6, pq_0_7, pq_1_0, pq_1_1, pq_1_2, pq_1_3, pq_1_4, pq_1_5, pq_1_6, pq_1_7, pq_10_0, pq_10_1, pq_10_2, pq_10_3, pq_15_0, pq_17_0, pq_19_0, pq_21_0, pq_21_1, pq_21_2, pq_21_3, pq_21_4, pq_21_5, pq_28_0, pq_30_0, pq_30_1, pq_30_2, pq_31_0, pq_35_0, pq_35_1, pq_35_2, pq_36_0, pq_40_0, pq_40_1, pq_40_2, pq_41_0, pq_45_0, pq_45_1, pq_45_2, pq_46_0, pq_50_0, pq_52_0, pq_52_1, pq_52_2, pq_52_3, pq_52_4, pq_52_5, pq_52_6, pq_52_8, pq_52_10, pq_52_11, pq_52_14, pq_52_15, pq_52_16, pq_52_17, pq_52_18, pq_52_27, pq_52_29, pq_52_30, pq_52_31, pq_52_32, pq_52_33, pq_52_34, pq_52_35, pq_52_36, pq_52_37, pq_52_38, pq_52_39, pq_52_40, pq_52_41, aq_1, aq_11, aq_12, aq_13, aq_14, aq_16, aq_18, aq_20, aq_22, aq_23, aq_24, aq_25, aq_26, aq_27, aq_29, aq_32, aq_33, aq_34, aq_37, aq_38, aq_39, aq_42, aq_43, aq_44, aq_47, aq_48, aq_49, aq_51, aq_53, aq_54, aq_55, aq_56, aq_57, aq_58, aq_59, aq_60, aq_61, aq_62, aq_63, aq_64, aq_65, aq_66, aq_67, aq_68, aq_69, aq_70, aq_71, aq_72, aq_73, aq_74, aq_75, aq_76, aq_77, aq_78, aq_79, aq_80, aq_81]
theorem t53_b (h1 : ¬ x < 0) (h2 : ¬ x ≤ z 15 1) : F_53 f 0 x (hq z w c s) = some (.inr 1, hq z w (c + 1) (s + 6)) := by simp only [F_53, B_53_15, h1, h2, dg_1, db_1, db_0, dl_1, dp_1, dv_1, dv_x, di_1, di_x, dw_1, ec_eq, ec_ne, ec_lt, ec_ge, ec_gt, ec_le, hq_z, hq_wz, hq_wc, hq_thr, hq_p29, hq_pw, eq_self, decide_true, decide_false, not_true_eq_false, not_false_eq_true, kq_0, kq_1, kq_2, kq_3, kq_4, kq_5, kq_6, kq_7, kq_8, kq_9, kq_10, kq_11, kq_12, kq_13, kq_14, kq_15, kq_16, kq_17, kq_18, kq_19, kq_20, kq_21, kq_22, kq_23, kq_24, kq_25, kq_26, kq_27, kq_28, kq_29, kq_30, kq_31, kq_32, kq_33, kq_34, kq_35, kq_36, kq_37, kq_38, kq_39, kq_40, kq_41, kq_42, kq_43, kq_44, kq_45, kq_46, kq_47, kq_48, kq_49, kq_50, kq_51, kq_52, kq_53, kq_54, kq_55, kq_56, kq_57, kq_58, kq_59, kq_60, kq_61, kq_62, kq_63, kq_64, kq_65, kq_66, kq_67, kq_68, kq_69, kq_70, kq_71, kq_72, kq_73, kq_74, kq_75, kq_76, kq_77, kq_78, kq_79, kq_80, kq_81, pq_0_0, pq_0_1, pq_0_2, pq_0_3, pq_0_4, pq_0_5, pq_0_6, pq_0_7, pq_1_0, pq_1_1, pq_1_2, pq_1_3, pq_1_4, pq_1_5, pq_1_6, pq_1_7, pq_10_0, pq_10_1, pq_10_2, pq_10_3, pq_15_0, pq_17_0, pq_19_0, pq_21_0, pq_21_1, pq_21_2, pq_21_3, pq_21_4, pq_21_5, pq_28_0, pq_30_0, pq_30_1, pq_30_2, pq_31_0, pq_35_0, pq_35_1, pq_35_2, pq_36_0, pq_40_0, pq_40_1, pq_40_2, pq_41_0, pq_45_0, pq_45_1, pq_45_2, pq_46_0, pq_50_0, pq_52_0, pq_52_1, pq_52_2, pq_52_3, pq_52_4, pq_52_5, pq_52_6, pq_52_8, pq_52_10, pq_52_11, pq_52_14, pq_52_15, pq_52_16, pq_52_17, pq_52_18, pq_52_27, pq_52_29, pq_52_30, pq_52_31, pq_52_32, pq_52_33, pq_52_34, pq_52_35, pq_52_36, pq_52_37, pq_52_38, pq_52_39, pq_52_40, pq_52_41, aq_1, aq_11, aq_12, aq_13, aq_14, aq_16, aq_18, aq_20, aq_22, aq_23, aq_24, aq_25, aq_26, aq_27, aq_29, aq_32, aq_33, aq_34, aq_37, aq_38, aq_39, aq_42, aq_43, aq_44, aq_47, aq_48, aq_49, aq_51, aq_53, aq_54, aq_55, aq_56, aq_57, aq_58, aq_59, aq_60, aq_61, aq_62, aq_63, aq_64, aq_65, aq_66, aq_67, aq_68, aq_69, aq_70, aq_71, aq_72, aq_73, aq_74, aq_75, aq_76, aq_77, aq_78, aq_79, aq_80, aq_81]
theorem t53_r (h1 : ¬ x < 0) (h2 : x ≤ z 15 1) : F_53 f 0 x (hq z w c s) = some (.inl none, hq (va_up z 15 (upd (z 15) 1 x)) w c s) := by simp only [F_53, h1, h2, dg_1, db_1, db_0, dl_1, dp_1, dv_1, dv_x, di_1, di_x, dw_1, ec_eq, ec_ne, ec_lt, ec_ge, ec_gt, ec_le, hq_z, hq_wz, hq_wc, hq_thr, hq_p29, hq_pw, eq_self, decide_true, decide_false, not_true_eq_false, not_false_eq_true, kq_0, kq_1, kq_2, kq_3, kq_4, kq_5, kq_6, kq_7, kq_8, kq_9, kq_10, kq_11, kq_12, kq_13, kq_14, kq_15, kq_16, kq_17, kq_18, kq_19, kq_20, kq_21, kq_22, kq_23, kq_24, kq_25, kq_26, kq_27, kq_28, kq_29, kq_30, kq_31, kq_32, kq_33, kq_34, kq_35, kq_36, kq_37, kq_38, kq_39, kq_40, kq_41, kq_42, kq_43, kq_44, kq_45, kq_46, kq_47, kq_48, kq_49, kq_50, kq_51, kq_52, kq_53, kq_54, kq_55, kq_56, kq_57, kq_58, kq_59, kq_60, kq_61, kq_62, kq_63, kq_64, kq_65, kq_66, kq_67, kq_68, kq_69, kq_70, kq_71, kq_72, kq_73, kq_74, kq_75, kq_76, kq_77, kq_78, kq_79, kq_80, kq_81, pq_0_0, pq_0_1, pq_0_2, pq_0_3, pq_0_4, pq_0_5, pq_0_6, pq_0_7, pq_1_0, pq_1_1, pq_1_2, pq_1_3, pq_1_4, pq_1_5, pq_1_6, pq_1_7, pq_10_0, pq_10_1, pq_10_2, pq_10_3, pq_15_0, pq_17_0, pq_19_0, pq_21_0, pq_21_1, pq_21_2, pq_21_3, pq_21_4, pq_21_5, pq_28_0, pq_30_0, pq_30_1, pq_30_2, pq_31_0, pq_35_0, pq_35_1, pq_35_2, pq_36_0, pq_40_0, pq_40_1, pq_40_2, pq_41_0, pq_45_0, pq_45_1, pq_45_2, pq_46_0, pq_50_0, pq_52_0, pq_52_1, pq_52_2, pq_52_3, pq_52_4, pq_52_5, pq_52_6, pq_52_8, pq_52_10, pq_52_11, pq_52_14, pq_52_15, pq_52_16, pq_52_17, pq_52_18, pq_52_27, pq_52_29, pq_52_30, pq_52_31, pq_52_32, pq_52_33, pq_52_34, pq_52_35, pq_52_36, pq_52_37, pq_52_38, pq_52_39, pq_52_40, pq_52_41, aq_1, aq_11, aq_12, aq_13, aq_14, aq_16, aq_18, aq_20, aq_22, aq_23, aq_24, aq_25, aq_26, aq_27, aq_29, aq_32, aq_33, aq_34, aq_37, aq_38, aq_39, aq_42, aq_43, aq_44, aq_47, aq_48, aq_49, aq_51, aq_53, aq_54, aq_55, aq_56, aq_57, aq_58, aq_59, aq_60, aq_61, aq_62, aq_63, aq_64, aq_65, aq_66, aq_67, aq_68, aq_69, aq_70, aq_71, aq_72, aq_73, aq_74, aq_75, aq_76, aq_77, aq_78, aq_79, aq_80, aq_81]
theorem t86_a (h1 : x < 0) : F_86 f 52 x (hq z w c s) = some (.inl none, hq (z42 z 1) w c s) := by simp only [F_86, B_86_13, B_86_18, h1, t75_1, show ¬ (1 : Int32) = 0 by decide, dg_1, db_1, db_0, dl_1, dp_1, dv_1, dv_x, di_1, di_x, dw_1, ec_eq, ec_ne, ec_lt, ec_ge, ec_gt, ec_le, hq_z, hq_wz, hq_wc, hq_thr, hq_p29, hq_pw, eq_self, decide_true, decide_false, not_true_eq_false, not_false_eq_true, kq_0, kq_1, kq_2, kq_3, kq_4, kq_5, kq_6, kq_7, kq_8, kq_9, kq_10, kq_11, kq_12, kq_13, kq_14, kq_15, kq_16, kq_17, kq_18, kq_19, kq_20, kq_21, kq_22, kq_23, kq_24, kq_25, kq_26, kq_27, kq_28, kq_29, kq_30, kq_31, kq_32, kq_33, kq_34, kq_35, kq_36, kq_37, kq_38, kq_39, kq_40, kq_41, kq_42, kq_43, kq_44, kq_45, kq_46, kq_47, kq_48, kq_49, kq_50, kq_51, kq_52, kq_53, kq_54, kq_55, kq_56, kq_57, kq_58, kq_59, kq_60, kq_61, kq_62, kq_63, kq_64, kq_65, kq_66, kq_67, kq_68, kq_69, kq_70, kq_71, kq_72, kq_73, kq_74, kq_75, kq_76, kq_77, kq_78, kq_79, kq_80, kq_81, pq_0_0, pq_0_1, pq_0_2, pq_0_3, pq_0_4, pq_0_5, pq_0_6, pq_0_7, pq_1_0, pq_1_1, pq_1_2, pq_1_3, pq_1_4, pq_1_5, pq_1_6, pq_1_7, pq_10_0, pq_10_1, pq_10_2, pq_10_3, pq_15_0, pq_17_0, pq_19_0, pq_21_0, pq_21_1, pq_21_2, pq_21_3, pq_21_4, pq_21_5, pq_28_0, pq_30_0, pq_30_1, pq_30_2, pq_31_0, pq_35_0, pq_35_1, pq_35_2, pq_36_0, pq_40_0, pq_40_1, pq_40_2, pq_41_0, pq_45_0, pq_45_1, pq_45_2, pq_46_0, pq_50_0, pq_52_0, pq_52_1, pq_52_2, pq_52_3, pq_52_4, pq_52_5, pq_52_6, pq_52_8, pq_52_10, pq_52_11, pq_52_14, pq_52_15, pq_52_16, pq_52_17, pq_52_18, pq_52_27, pq_52_29, pq_52_30, pq_52_31, pq_52_32, pq_52_33, pq_52_34, pq_52_35, pq_52_36, pq_52_37, pq_52_38, pq_52_39, pq_52_40, pq_52_41, aq_1, aq_11, aq_12, aq_13, aq_14, aq_16, aq_18, aq_20, aq_22, aq_23, aq_24, aq_25, aq_26, aq_27, aq_29, aq_32, aq_33, aq_34, aq_37, aq_38, aq_39, aq_42, aq_43, aq_44, aq_47, aq_48, aq_49, aq_51, aq_53, aq_54, aq_55, aq_56, aq_57, aq_58, aq_59, aq_60, aq_61, aq_62, aq_63, aq_64, aq_65, aq_66, aq_67, aq_68, aq_69, aq_70, aq_71, aq_72, aq_73, aq_74, aq_75, aq_76, aq_77, aq_78, aq_79, aq_80, aq_81]
theorem t86_b (h1 : ¬ x < 0) (h2 : ¬ x ≤ z 52 9) : F_86 f 52 x (hq z w c s) = some (.inl none, hq (z42 z 1) w c s) := by simp only [F_86, B_86_13, B_86_18, h1, h2, t75_1, show ¬ (1 : Int32) = 0 by decide, dg_1, db_1, db_0, dl_1, dp_1, dv_1, dv_x, di_1, di_x, dw_1, ec_eq, ec_ne, ec_lt, ec_ge, ec_gt, ec_le, hq_z, hq_wz, hq_wc, hq_thr, hq_p29, hq_pw, eq_self, decide_true, decide_false, not_true_eq_false, not_false_eq_true, kq_0, kq_1, kq_2, kq_3, kq_4, kq_5, kq_6, kq_7, kq_8, kq_9, kq_10, kq_11, kq_12, kq_13, kq_14, kq_15, kq_16, kq_17, kq_18, kq_19, kq_20, kq_21, kq_22, kq_23, kq_24, kq_25, kq_26, kq_27, kq_28, kq_29, kq_30, kq_31, kq_32, kq_33, kq_34, kq_35, kq_36, kq_37, kq_38, kq_39, kq_40, kq_41, kq_42, kq_43, kq_44, kq_45, kq_46, kq_47, kq_48, kq_49, kq_50, kq_51, kq_52, kq_53, kq_54, kq_55, kq_56, kq_57, kq_58, kq_59, kq_60, kq_61, kq_62, kq_63, kq_64, kq_65, kq_66, kq_67, kq_68, kq_69, kq_70, kq_71, kq_72, kq_73, kq_74, kq_75, kq_76, kq_77, kq_78, kq_79, kq_80, kq_81, pq_0_0, pq_0_1, pq_0_2, pq_0_3, pq_0_4, pq_0_5, pq_0_6, pq_0_7, pq_1_0, pq_1_1, pq_1_2, pq_1_3, pq_1_4, pq_1_5, pq_1_6, pq_1_7, pq_10_0, pq_10_1, pq_10_2, pq_10_3, pq_15_0, pq_17_0, pq_19_0, pq_21_0, pq_21_1, pq_21_2, pq_21_3, pq_21_4, pq_21_5, pq_28_0, pq_30_0, pq_30_1, pq_30_2, pq_31_0, pq_35_0, pq_35_1, pq_35_2, pq_36_0, pq_40_0, pq_40_1, pq_40_2, pq_41_0, pq_45_0, pq_45_1, pq_45_2, pq_46_0, pq_50_0, pq_52_0, pq_52_1, pq_52_2, pq_52_3, pq_52_4, pq_52_5, pq_52_6, pq_52_8, pq_52_10, pq_52_11, pq_52_14, pq_52_15, pq_52_16, pq_52_17, pq_52_18, pq_52_27, pq_52_29, pq_52_30, pq_52_31, pq_52_32, pq_52_33, pq_52_34, pq_52_35, pq_52_36, pq_52_37, pq_52_38, pq_52_39, pq_52_40, pq_52_41, aq_1, aq_11, aq_12, aq_13, aq_14, aq_16, aq_18, aq_20, aq_22, aq_23, aq_24, aq_25, aq_26, aq_27, aq_29, aq_32, aq_33, aq_34, aq_37, aq_38, aq_39, aq_42, aq_43, aq_44, aq_47, aq_48, aq_49, aq_51, aq_53, aq_54, aq_55, aq_56, aq_57, aq_58, aq_59, aq_60, aq_61, aq_62, aq_63, aq_64, aq_65, aq_66, aq_67, aq_68, aq_69, aq_70, aq_71, aq_72, aq_73, aq_74, aq_75, aq_76, aq_77, aq_78, aq_79, aq_80, aq_81]
theorem t86_r (h1 : ¬ x < 0) (h2 : x ≤ z 52 9) : F_86 f 52 x (hq z w c s) = some (.inl none, hq (va_up (z42 z 0) 52 (upd (z42 z 0 52) 9 x)) w c s) := by simp only [F_86, B_86_18, h1, h2, t75_0, dg_1, db_1, db_0, dl_1, dp_1, dv_1, dv_x, di_1, di_x, dw_1, ec_eq, ec_ne, ec_lt, ec_ge, ec_gt, ec_le, hq_z, hq_wz, hq_wc, hq_thr, hq_p29, hq_pw, eq_self, decide_true, decide_false, not_true_eq_false, not_false_eq_true, kq_0, kq_1, kq_2, kq_3, kq_4, kq_5, kq_6, kq_7, kq_8, kq_9, kq_10, kq_11, kq_12, kq_13, kq_14, kq_15, kq_16, kq_17, kq_18, kq_19, kq_20, kq_21, kq_22, kq_23, kq_24, kq_25, kq_26, kq_27, kq_28, kq_29, kq_30, kq_31, kq_32, kq_33, kq_34, kq_35, kq_36, kq_37, kq_38, kq_39, kq_40, kq_41, kq_42, kq_43, kq_44, kq_45, kq_46, kq_47, kq_48, kq_49, kq_50, kq_51, kq_52, kq_53, kq_54, kq_55, kq_56, kq_57, kq_58, kq_59, kq_60, kq_61, kq_62, kq_63, kq_64, kq_65, kq_66, kq_67, kq_68, kq_69, kq_70, kq_71, kq_72, kq_73, kq_74, kq_75, kq_76, kq_77, kq_78, kq_79, kq_80, kq_81, pq_0_0, pq_0_1, pq_0_2, pq_0_3, pq_0_4, pq_0_5, pq_0_6, pq_0_7, pq_1_0, pq_1_1, pq_1_2, pq_1_3, pq_1_4, pq_1_5, pq_1_6, pq_1_7, pq_10_0, pq_10_1, pq_10_2, pq_10_3, pq_15_0, pq_17_0, pq_19_0, pq_21_0, pq_21_1, pq_21_2, pq_21_3, pq_21_4, pq_21_5, pq_28_0, pq_30_0, pq_30_1, pq_30_2, pq_31_0, pq_35_0, pq_35_1, pq_35_2, pq_36_0, pq_40_0, pq_40_1, pq_40_2, pq_41_0, pq_45_0, pq_45_1, pq_45_2, pq_46_0, pq_50_0, pq_52_0, pq_52_1, pq_52_2, pq_52_3, pq_52_4, pq_52_5, pq_52_6, pq_52_8, pq_52_10, pq_52_11, pq_52_14, pq_52_15, pq_52_16, pq_52_17, pq_52_18, pq_52_27, pq_52_29, pq_52_30, pq_52_31, pq_52_32, pq_52_33, pq_52_34, pq_52_35, pq_52_36, pq_52_37, pq_52_38, pq_52_39, pq_52_40, pq_52_41, aq_1, aq_11, aq_12, aq_13, aq_14, aq_16, aq_18, aq_20, aq_22, aq_23, aq_24, aq_25, aq_26, aq_27, aq_29, aq_32, aq_33, aq_34, aq_37, aq_38, aq_39, aq_42, aq_43, aq_44, aq_47, aq_48, aq_49, aq_51, aq_53, aq_54, aq_55, aq_56, aq_57, aq_58, aq_59, aq_60, aq_61, aq_62, aq_63, aq_64, aq_65, aq_66, aq_67, aq_68, aq_69, aq_70, aq_71, aq_72, aq_73, aq_74, aq_75, aq_76, aq_77, aq_78, aq_79, aq_80, aq_81]
theorem op_end (hj : Jn n h) (hn : n < 512) : pu_v 53 86 cd_end [.int x] h (Jn (n + 1)) := by
  obtain ⟨-, S, z, w, c, s, rfl, hwf, hrc, hrm, hc, hs⟩ := hj
  have hJ := Jn_same hn hwf hrc hrm hc hs
  have e1 : z 15 1 = S 3 1 := hrc.2.1.2.1
  have e2 : z 52 9 = S 3 1 := hrm.2.1.2.1
  have e3 := hwf.1.2.1
  by_cases h1 : x < 0
  · exact pu_vx (q := 1) (r := 1) (sF_53 (f := 0) (t53_a h1)) rfl (sF_86 (f := 0) (t86_a h1)) (z42_s 1) (hJ 1).2
  · by_cases h2 : x ≤ S 3 1
    · have f1 := t53_r (f := 0) (z := z) (w := w) (c := c) (s := s) h1 (by rw [e1]; exact h2)
      generalize hz1 : va_up z 15 (upd (z 15) 1 x) = z1 at f1
      have k1 : ∀ a, a ≠ 15 → z1 a = z a := fun a ha => by rw [← hz1, va_up_ne _ _ ha]
      have k2 : z1 15 1 = x := by rw [← hz1, va_up_self, pk_us]
      have f2 := t86_r (f := 0) (z := z1) (w := w) (c := c) (s := s) h1 (by rw [k1 52 (by omega), e2]; exact h2)
      generalize hz2 : va_up (z42 z1 0) 52 (upd (z42 z1 0 52) 9 x) = z2 at f2
      have k3 : ∀ a, a ≠ 52 → z2 a = z1 a := fun a ha => by rw [← hz2, va_up_ne _ _ ha, z42_n 0 ha]
      have k4 : ∀ k, k ≠ 9 → k ≠ 42 → z2 52 k = z 52 k := fun k h4 h5 => by rw [← hz2, va_up_self, pk_un h4, z42_52 0 h5, k1 52 (by omega)]
      have k5 : z2 52 9 = x := by rw [← hz2, va_up_self, pk_us]
      have k6 : z2 52 42 = 0 := by rw [← hz2, va_up_self, pk_un (by omega)]; exact z42_s 0
      obtain ⟨i, hi, rfl⟩ := nI_lit (m := cn S 1) h1 (by rw [← e3.1]; exact h2) (by have := e3.2; omega)
      have hcn : cn (sT S (nI i)) 1 = i := by unfold cn; rw [sT_1, nI_clamp (by have := e3.2; omega)]
      have h3 := e3.2
      refine pu_v1 (sF_53 f1) (sF_86 f2) k6 ⟨by omega, sT S (nI i), z2, w, c, s, rfl, wf_tape hwf (fun k h3 _ => sT_n _ h3) (fun j hj => sT_3 _ hj) ⟨by rw [sT_1, hcn], by rw [hcn]; omega⟩, rc_tape hrc (fun k h3 _ => sT_n _ h3) (fun j hj => sT_3 _ hj) (fun a h5 h6 h7 => by rw [k3 a (by omega), k1 a h6]) (by rw [k3 15 (by omega), k2, sT_1]) (fun j hj => ?_) (fun j => ?_), rmd_tape hrm (fun k h3 _ => sT_n _ h3) (fun j hj => sT_3 _ hj) (fun a h5 h6 => by rw [k3 a (by omega), k1 a (by omega)]) k4 (by rw [k5, sT_1]) (fun j hj => ?_), by omega, by omega⟩
      · rw [hcn] at hj
        rw [k3 16 (by omega), k1 16 (by omega), sT_n _ (by omega)]
        exact hrc.2.2.2.1 j (by omega)
      · rw [k3 16 (by omega), k1 16 (by omega)]
        exact hrc.2.2.2.2.2.2.2.1 16 (by decide) j
      · rw [hcn] at hj
        rw [k3 60 (by omega), k1 60 (by omega), sT_n _ (by omega)]
        exact hrm.2.2.2.1 j (by omega)
    · exact pu_vx (q := 1) (r := 1) (sF_53 (f := 0) (t53_b h1 (by rw [e1]; exact h2))) rfl (sF_86 (f := 0) (t86_b h1 (by rw [e2]; exact h2))) (z42_s 1) (hJ 1).2
end Ops3
