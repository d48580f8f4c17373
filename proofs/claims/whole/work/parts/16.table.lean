section TableA
theorem ck_all : ∀ k, k < 124 → (tb_cs.getD k []).all (ck_q k) = true := by
  intro k hk
  rcases (show (0 ≤ k ∧ k < 5) ∨ (5 ≤ k ∧ k < 6) ∨ (6 ≤ k ∧ k < 15) ∨ (15 ≤ k ∧ k < 22) ∨ (22 ≤ k ∧ k < 28) ∨ (28 ≤ k ∧ k < 32) ∨ (32 ≤ k ∧ k < 36) ∨ (36 ≤ k ∧ k < 39) ∨ (39 ≤ k ∧ k < 44) ∨ (44 ≤ k ∧ k < 49) ∨ (49 ≤ k ∧ k < 52) ∨ (52 ≤ k ∧ k < 56) ∨ (56 ≤ k ∧ k < 61) ∨ (61 ≤ k ∧ k < 67) ∨ (67 ≤ k ∧ k < 68) ∨ (68 ≤ k ∧ k < 69) ∨ (69 ≤ k ∧ k < 71) ∨ (71 ≤ k ∧ k < 73) ∨ (73 ≤ k ∧ k < 77) ∨ (77 ≤ k ∧ k < 81) ∨ (81 ≤ k ∧ k < 83) ∨ (83 ≤ k ∧ k < 86) ∨ (86 ≤ k ∧ k < 93) ∨ (93 ≤ k ∧ k < 95) ∨ (95 ≤ k ∧ k < 96) ∨ (96 ≤ k ∧ k < 98) ∨ (98 ≤ k ∧ k < 99) ∨ (99 ≤ k ∧ k < 100) ∨ (100 ≤ k ∧ k < 101) ∨ (101 ≤ k ∧ k < 105) ∨ (105 ≤ k ∧ k < 106) ∨ (106 ≤ k ∧ k < 109) ∨ (109 ≤ k ∧ k < 110) ∨ (110 ≤ k ∧ k < 111) ∨ (111 ≤ k ∧ k < 112) ∨ (112 ≤ k ∧ k < 114) ∨ (114 ≤ k ∧ k < 118) ∨ (118 ≤ k ∧ k < 123) ∨ (123 ≤ k ∧ k < 124) by omega) with ⟨h1, h2⟩ | ⟨h1, h2⟩ | ⟨h1, h2⟩ | ⟨h1, h2⟩ | ⟨h1, h2⟩ | ⟨h1, h2⟩ | ⟨h1, h2⟩ | ⟨h1, h2⟩ | ⟨h1, h2⟩ | ⟨h1, h2⟩ | ⟨h1, h2⟩ | ⟨h1, h2⟩ | ⟨h1, h2⟩ | ⟨h1, h2⟩ | ⟨h1, h2⟩ | ⟨h1, h2⟩ | ⟨h1, h2⟩ | ⟨h1, h2⟩ | ⟨h1, h2⟩ | ⟨h1, h2⟩ | ⟨h1, h2⟩ | ⟨h1, h2⟩ | ⟨h1, h2⟩ | ⟨h1, h2⟩ | ⟨h1, h2⟩ | ⟨h1, h2⟩ | ⟨h1, h2⟩ | ⟨h1, h2⟩ | ⟨h1, h2⟩ | ⟨h1, h2⟩ | ⟨h1, h2⟩ | ⟨h1, h2⟩ | ⟨h1, h2⟩ | ⟨h1, h2⟩ | ⟨h1, h2⟩ | ⟨h1, h2⟩ | ⟨h1, h2⟩ | ⟨h1, h2⟩ | ⟨h1, h2⟩
  · exact List.all_eq_true.mp ck_0 k (List.mem_range'_1.mpr ⟨h1, h2⟩)
  · exact List.all_eq_true.mp ck_5 k (List.mem_range'_1.mpr ⟨h1, h2⟩)
  · exact List.all_eq_true.mp ck_6 k (List.mem_range'_1.mpr ⟨h1, h2⟩)
  · exact List.all_eq_true.mp ck_15 k (List.mem_range'_1.mpr ⟨h1, h2⟩)
  · exact List.all_eq_true.mp ck_22 k (List.mem_range'_1.mpr ⟨h1, h2⟩)
  · exact List.all_eq_true.mp ck_28 k (List.mem_range'_1.mpr ⟨h1, h2⟩)
  · exact List.all_eq_true.mp ck_32 k (List.mem_range'_1.mpr ⟨h1, h2⟩)
  · exact List.all_eq_true.mp ck_36 k (List.mem_range'_1.mpr ⟨h1, h2⟩)
  · exact List.all_eq_true.mp ck_39 k (List.mem_range'_1.mpr ⟨h1, h2⟩)
  · exact List.all_eq_true.mp ck_44 k (List.mem_range'_1.mpr ⟨h1, h2⟩)
  · exact List.all_eq_true.mp ck_49 k (List.mem_range'_1.mpr ⟨h1, h2⟩)
  · exact List.all_eq_true.mp ck_52 k (List.mem_range'_1.mpr ⟨h1, h2⟩)
  · exact List.all_eq_true.mp ck_56 k (List.mem_range'_1.mpr ⟨h1, h2⟩)
  · exact List.all_eq_true.mp ck_61 k (List.mem_range'_1.mpr ⟨h1, h2⟩)
  · exact List.all_eq_true.mp ck_67 k (List.mem_range'_1.mpr ⟨h1, h2⟩)
  · exact List.all_eq_true.mp ck_68 k (List.mem_range'_1.mpr ⟨h1, h2⟩)
  · exact List.all_eq_true.mp ck_69 k (List.mem_range'_1.mpr ⟨h1, h2⟩)
  · exact List.all_eq_true.mp ck_71 k (List.mem_range'_1.mpr ⟨h1, h2⟩)
  · exact List.all_eq_true.mp ck_73 k (List.mem_range'_1.mpr ⟨h1, h2⟩)
  · exact List.all_eq_true.mp ck_77 k (List.mem_range'_1.mpr ⟨h1, h2⟩)
  · exact List.all_eq_true.mp ck_81 k (List.mem_range'_1.mpr ⟨h1, h2⟩)
  · exact List.all_eq_true.mp ck_83 k (List.mem_range'_1.mpr ⟨h1, h2⟩)
  · exact List.all_eq_true.mp ck_86 k (List.mem_range'_1.mpr ⟨h1, h2⟩)
  · exact List.all_eq_true.mp ck_93 k (List.mem_range'_1.mpr ⟨h1, h2⟩)
  · exact List.all_eq_true.mp ck_95 k (List.mem_range'_1.mpr ⟨h1, h2⟩)
  · exact List.all_eq_true.mp ck_96 k (List.mem_range'_1.mpr ⟨h1, h2⟩)
  · exact List.all_eq_true.mp ck_98 k (List.mem_range'_1.mpr ⟨h1, h2⟩)
  · exact List.all_eq_true.mp ck_99 k (List.mem_range'_1.mpr ⟨h1, h2⟩)
  · exact List.all_eq_true.mp ck_100 k (List.mem_range'_1.mpr ⟨h1, h2⟩)
  · exact List.all_eq_true.mp ck_101 k (List.mem_range'_1.mpr ⟨h1, h2⟩)
  · exact List.all_eq_true.mp ck_105 k (List.mem_range'_1.mpr ⟨h1, h2⟩)
  · exact List.all_eq_true.mp ck_106 k (List.mem_range'_1.mpr ⟨h1, h2⟩)
  · exact List.all_eq_true.mp ck_109 k (List.mem_range'_1.mpr ⟨h1, h2⟩)
  · exact List.all_eq_true.mp ck_110 k (List.mem_range'_1.mpr ⟨h1, h2⟩)
  · exact List.all_eq_true.mp ck_111 k (List.mem_range'_1.mpr ⟨h1, h2⟩)
  · exact List.all_eq_true.mp ck_112 k (List.mem_range'_1.mpr ⟨h1, h2⟩)
  · exact List.all_eq_true.mp ck_114 k (List.mem_range'_1.mpr ⟨h1, h2⟩)
  · exact List.all_eq_true.mp ck_118 k (List.mem_range'_1.mpr ⟨h1, h2⟩)
  · exact List.all_eq_true.mp ck_123 k (List.mem_range'_1.mpr ⟨h1, h2⟩)
theorem ck_y : (List.range 124).all (fun k => plainName (tb_y k).cls && decide (1 ≤ tb_rf k) && decide (60 ≤ tb_rl k)) = true := by decide +kernel
end TableA
section TableB
theorem cl_0 : tb_nf 0 = 5 ∧ (∀ k, k < 5 → parseFieldDescriptor (tf_0 k).2.2.1 = some (tb_ft 0 k)) ∧ (∀ a, a < 5 → ∀ b, b < 5 → a ≠ b → (tf_0 a).2.1 ≠ (tf_0 b).2.1) ∧ (∀ k, k < 5 → ev_rr (tb_ft 0 k) = true ∨ defaultValue (tb_ft 0 k) = .int 0) := ⟨by decide +kernel, by decide +kernel, by decide +kernel, by decide +kernel⟩
theorem cl_1 : tb_nf 1 = 8 ∧ (∀ k, k < 8 → parseFieldDescriptor (tf_1 k).2.2.1 = some (tb_ft 1 k)) ∧ (∀ a, a < 8 → ∀ b, b < 8 → a ≠ b → (tf_1 a).2.1 ≠ (tf_1 b).2.1) ∧ (∀ k, k < 8 → ev_rr (tb_ft 1 k) = true ∨ defaultValue (tb_ft 1 k) = .int 0) := ⟨by decide +kernel, by decide +kernel, by decide +kernel, by decide +kernel⟩
theorem cl_2 : tb_nf 2 = 2 ∧ (∀ k, k < 2 → parseFieldDescriptor (tf_2 k).2.2.1 = some (tb_ft 2 k)) ∧ (∀ a, a < 2 → ∀ b, b < 2 → a ≠ b → (tf_2 a).2.1 ≠ (tf_2 b).2.1) ∧ (∀ k, k < 2 → ev_rr (tb_ft 2 k) = true ∨ defaultValue (tb_ft 2 k) = .int 0) := ⟨by decide +kernel, by decide +kernel, by decide +kernel, by decide +kernel⟩
theorem cl_3 : tb_nf 3 = 3 ∧ (∀ k, k < 3 → parseFieldDescriptor (tf_3 k).2.2.1 = some (tb_ft 3 k)) ∧ (∀ a, a < 3 → ∀ b, b < 3 → a ≠ b → (tf_3 a).2.1 ≠ (tf_3 b).2.1) ∧ (∀ k, k < 3 → ev_rr (tb_ft 3 k) = true ∨ defaultValue (tb_ft 3 k) = .int 0) := ⟨by decide +kernel, by decide +kernel, by decide +kernel, by decide +kernel⟩
theorem cl_4 : tb_nf 4 = 5 ∧ (∀ k, k < 5 → parseFieldDescriptor (tf_4 k).2.2.1 = some (tb_ft 4 k)) ∧ (∀ a, a < 5 → ∀ b, b < 5 → a ≠ b → (tf_4 a).2.1 ≠ (tf_4 b).2.1) ∧ (∀ k, k < 5 → ev_rr (tb_ft 4 k) = true ∨ defaultValue (tb_ft 4 k) = .int 0) := ⟨by decide +kernel, by decide +kernel, by decide +kernel, by decide +kernel⟩
theorem cl_5 : tb_nf 5 = 13 ∧ (∀ k, k < 13 → parseFieldDescriptor (tf_5 k).2.2.1 = some (tb_ft 5 k)) ∧ (∀ a, a < 13 → ∀ b, b < 13 → a ≠ b → (tf_5 a).2.1 ≠ (tf_5 b).2.1) ∧ (∀ k, k < 13 → ev_rr (tb_ft 5 k) = true ∨ defaultValue (tb_ft 5 k) = .int 0) := ⟨by decide +kernel, by decide +kernel, by decide +kernel, by decide +kernel⟩
theorem cl_6 : tb_nf 6 = 2 ∧ (∀ k, k < 2 → parseFieldDescriptor (tf_6 k).2.2.1 = some (tb_ft 6 k)) ∧ (∀ a, a < 2 → ∀ b, b < 2 → a ≠ b → (tf_6 a).2.1 ≠ (tf_6 b).2.1) ∧ (∀ k, k < 2 → ev_rr (tb_ft 6 k) = true ∨ defaultValue (tb_ft 6 k) = .int 0) := ⟨by decide +kernel, by decide +kernel, by decide +kernel, by decide +kernel⟩
theorem cl_7 : tb_nf 7 = 11 ∧ (∀ k, k < 11 → parseFieldDescriptor (tf_7 k).2.2.1 = some (tb_ft 7 k)) ∧ (∀ a, a < 11 → ∀ b, b < 11 → a ≠ b → (tf_7 a).2.1 ≠ (tf_7 b).2.1) ∧ (∀ k, k < 11 → ev_rr (tb_ft 7 k) = true ∨ defaultValue (tb_ft 7 k) = .int 0) := ⟨by decide +kernel, by decide +kernel, by decide +kernel, by decide +kernel⟩
theorem cl_8 : tb_nf 8 = 43 ∧ (∀ k, k < 43 → parseFieldDescriptor (tf_8 k).2.2.1 = some (tb_ft 8 k)) ∧ (∀ a, a < 43 → ∀ b, b < 43 → a ≠ b → (tf_8 a).2.1 ≠ (tf_8 b).2.1) ∧ (∀ k, k < 43 → ev_rr (tb_ft 8 k) = true ∨ defaultValue (tb_ft 8 k) = .int 0) := ⟨by decide +kernel, by decide +kernel, by decide +kernel, by decide +kernel⟩
theorem cl_all : sd_cl := by
  intro ci C T N h
  have hlt : ci < 9 := (List.getElem?_eq_some_iff.mp h).1
  rcases (show ci = 0 ∨ ci = 1 ∨ ci = 2 ∨ ci = 3 ∨ ci = 4 ∨ ci = 5 ∨ ci = 6 ∨ ci = 7 ∨ ci = 8 by omega) with rfl | rfl | rfl | rfl | rfl | rfl | rfl | rfl | rfl
  · cases h; exact ⟨by decide, cl_0⟩
  · cases h; exact ⟨by decide, cl_1⟩
  · cases h; exact ⟨by decide, cl_2⟩
  · cases h; exact ⟨by decide, cl_3⟩
  · cases h; exact ⟨by decide, cl_4⟩
  · cases h; exact ⟨by decide, cl_5⟩
  · cases h; exact ⟨by decide, cl_6⟩
  · cases h; exact ⟨by decide, cl_7⟩
  · cases h; exact ⟨by decide, cl_8⟩
set_option maxHeartbeats 2000000 in
theorem tb_true : sd_tb := by
  refine ⟨cl_all, fun w hw => good_of_word (List.mem_filter.mp hw).2, fun k hk => ?_⟩
  have hk : k < 124 := of_decide_eq_true hk
  have hy := List.all_eq_true.mp ck_y k (List.mem_range.mpr hk)
  simp only [Bool.and_eq_true, decide_eq_true_eq] at hy
  have hq : ∀ pc i, tb_ins k pc = some i → ck_d (tb_b k) pc i = true ∧ ck_i k pc i = true := by
    intro pc i hi
    rcases lk_mem (z := (none : Option Instr)) (tb_cs.getD k []) pc with h | h
    · have h9 : tb_ins k pc = none := h
      rw [hi] at h9; cases h9
    · have h9 : tb_lk none (tb_cs.getD k []) pc = some i := hi
      rw [h9] at h
      have h8 := List.all_eq_true.mp (ck_all k hk) _ h
      simp only [ck_q, Bool.and_eq_true] at h8
      exact h8
  refine ⟨hy.1.1, rfl, ⟨hy.1.2, hy.2⟩, fun pc i hi => ?_, fun args s hts ha pc i hi => ?_⟩
  · have h1 := (hq pc i hi).1
    unfold ck_d at h1
    split at h1
    · rename_i r hr
      simp only [Bool.and_eq_true, Bool.or_eq_true, decide_eq_true_eq] at h1
      obtain ⟨h2, h3⟩ := h1
      refine ⟨r.2, ?_, h3⟩
      rw [hr, ← h2]
    · cases h1
  · have h1 := (hq pc i hi).2
    have hall : ∀ w ∈ tb_all, w.before args s = true := fun w h => hts w (List.mem_cons_of_mem _ h)
    have hin : ∀ w, w ∈ tb_all → w ∈ sd_ws k := fun w h => List.mem_cons_of_mem _ h
    have hmt : ∀ (x kd : Nat), ck_2 k kd x = true → (tb_rs k x).1 = 2 → (tb_rs k x).2.2.1 = kd ∧ sd_B k (tb_rs k x).2.1 (tb_own k) args s x ∧ lf_m (tb_rs k x).2.1 kd := by
      intro x kd h2 h3
      obtain ⟨h4, h5⟩ := (lf_k k x).2.1 h3
      unfold ck_2 at h2
      simp only [h3, ne_eq, not_true_eq_false, decide_false, Bool.false_or, Bool.and_eq_true, decide_eq_true_eq] at h2
      obtain ⟨⟨h6, h7⟩, h8⟩ := h2
      rw [h6] at h5
      obtain ⟨g1, g2, g3, g4, g5⟩ := id h5
      exact ⟨h6, ⟨g1, hall _ h4, hall _ g2, g3, g4, h7, h8⟩, h5⟩
    refine ⟨?_, ?_, ?_⟩
    · cases i with
      | ldc x => exact fun h => hall _ ((lf_k k x).2.2.2.1 h)
      | ldc_w x => exact fun h => hall _ ((lf_k k x).2.2.2.1 h)
      | getfield x =>
        intro h
        obtain ⟨C, T, N, h2, h3, h4, h5⟩ := (lf_k k x).1 h
        exact ⟨C, T, N, _, h2, h3, fun w hw => hin w (h4 w hw), Or.inl (hall _ h5), fun _ h9 => h9⟩
      | putfield x =>
        intro h
        obtain ⟨C, T, N, h2, h3, h4, h5⟩ := (lf_k k x).1 h
        refine ⟨C, T, N, _, h2, h3, fun w hw => hin w (h4 w hw), ?_, fun _ h9 => h9⟩
        simp only [ck_i, h, ne_eq, not_true_eq_false, decide_false, Bool.false_or] at h1
        rw [h2] at h1
        simp only [Bool.or_eq_true, Bool.not_eq_true', Bool.and_eq_true, decide_eq_true_eq] at h1
        cases hf : (T (tb_rs k x).2.2.1).2.2.2 with
        | false => exact Or.inl ⟨rfl, Or.inl (hall _ h5)⟩
        | true =>
          rw [hf] at h1
          rcases h1 with h1 | h1
          · cases h1
          · exact Or.inr ⟨rfl, h1.1, h1.2, hall _ h5⟩
      | newarray y =>
        cases y with
        | int => exact hall _ fx_int
        | byte => exact hall _ fx_byte
        | boolean => exact hall _ fx_boolean
        | _ => simp [ck_i, ev_at] at h1
      | anewarray x =>
        intro h
        obtain ⟨C, T, h2, h3, h4, h5, h6⟩ := (lf_k k x).2.2.1 h
        refine ⟨C, T, _, h2, hall _ h4, ha.2 C ?_⟩
        simp only [ck_i, h, ne_eq, not_true_eq_false, decide_false, Bool.false_or, decide_eq_true_eq] at h1
        have e : ev_cn (tb_rs k x).2.1 = C := by unfold ev_cn; rw [h2]
        rw [← e]; exact h1
      | new x =>
        intro h
        obtain ⟨C, T, h2, h3, h4, h5, h6⟩ := (lf_k k x).2.2.1 h
        exact ⟨C, T, h2, fun w hw => hin w (h3 w hw), hall _ h4, hall _ h5, hall _ h6⟩
      | invokespecial x => exact fun h => ⟨hall _ ((lf_k k x).2.2.2.2.2.2.2 h), hall _ fx_objM, hall _ fx_objC⟩
      | invokestatic x =>
        exact ⟨fun h => ⟨hall _ ((lf_k k x).2.2.2.2.1 h), hall _ fx_arrN, hall _ fx_arrS, hall _ fx_arrI⟩, fun h => ⟨hall _ ((lf_k k x).2.2.2.2.2.1 h), hall _ fx_maxS, hall _ fx_matI, hall _ fx_maxC⟩, fun h => ⟨hall _ ((lf_k k x).2.2.2.2.2.2.1 h), hall _ fx_minS, hall _ fx_matI, hall _ fx_minC⟩⟩
      | _ => exact trivial
    · cases i with
      | invokevirtual x =>
        intro h
        obtain ⟨-, h3, h4⟩ := hmt x 1 h1 h
        obtain ⟨g1, g2, g3⟩ := h4.2.2.2.2.2.1 rfl
        exact ⟨h3, g1, hall _ g2, hall _ g3⟩
      | invokespecial x =>
        intro h
        obtain ⟨-, h3, h4⟩ := hmt x 2 h1 h
        obtain ⟨g1, g2, g3⟩ := h4.2.2.2.2.2.2 rfl
        exact ⟨h3, g1, g2, hall _ g3⟩
      | invokestatic x =>
        intro h
        obtain ⟨-, h3, h4⟩ := hmt x 0 h1 h
        exact ⟨h3, hall _ (h4.2.2.2.2.1 rfl)⟩
      | _ => exact trivial
    · cases i with
      | new x =>
        intro h
        simp only [ck_i, h, ne_eq, not_true_eq_false, decide_false, Bool.false_or, decide_eq_true_eq] at h1
        exact ts_all _ h1 h
      | _ => exact trivial
end TableB
