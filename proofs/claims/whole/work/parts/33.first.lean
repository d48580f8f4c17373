set_option maxRecDepth 1000000 in
set_option maxHeartbeats 4000000 in
theorem hx_z16 : hp_z hx_M 16 = fun _ => 0 := rfl
set_option maxRecDepth 1000000 in
set_option maxHeartbeats 4000000 in
theorem hx_z18 : hp_z hx_M 18 = fun _ => 0 := rfl
set_option maxRecDepth 1000000 in
set_option maxHeartbeats 4000000 in
theorem hx_z20 : hp_z hx_M 20 = fun _ => 0 := rfl
set_option maxRecDepth 1000000 in
set_option maxHeartbeats 4000000 in
theorem hx_z22 : hp_z hx_M 22 = fun _ => 0 := rfl
set_option maxRecDepth 1000000 in
set_option maxHeartbeats 4000000 in
theorem hx_z27 : hp_z hx_M 27 = fun _ => 0 := rfl
set_option maxRecDepth 1000000 in
set_option maxHeartbeats 4000000 in
theorem hx_z32 : hp_z hx_M 32 = fun _ => 0 := rfl
set_option maxRecDepth 1000000 in
set_option maxHeartbeats 4000000 in
theorem hx_z33 : hp_z hx_M 33 = fun _ => 0 := rfl
set_option maxRecDepth 1000000 in
set_option maxHeartbeats 4000000 in
theorem hx_z37 : hp_z hx_M 37 = fun _ => 0 := rfl
set_option maxRecDepth 1000000 in
set_option maxHeartbeats 4000000 in
theorem hx_z38 : hp_z hx_M 38 = fun _ => 0 := rfl
set_option maxRecDepth 1000000 in
set_option maxHeartbeats 4000000 in
theorem hx_z42 : hp_z hx_M 42 = fun _ => 0 := rfl
set_option maxRecDepth 1000000 in
set_option maxHeartbeats 4000000 in
theorem hx_z43 : hp_z hx_M 43 = fun _ => 0 := rfl
set_option maxRecDepth 1000000 in
set_option maxHeartbeats 4000000 in
theorem hx_z47 : hp_z hx_M 47 = fun _ => 0 := rfl
set_option maxRecDepth 1000000 in
set_option maxHeartbeats 4000000 in
theorem hx_z48 : hp_z hx_M 48 = fun _ => 0 := rfl
set_option maxRecDepth 1000000 in
set_option maxHeartbeats 4000000 in
theorem hx_z51 : hp_z hx_M 51 = fun _ => 0 := rfl
def S0 : St9 := fun k i => if k = 1 then 1500 else if k = 2 then 1 else if k = 3 then (if i = 3 then 6 else 0) else 0
theorem wf_0 : wf 0 S0 := by
  refine ⟨⟨⟨by decide, by decide⟩, ⟨by decide, by decide⟩, ⟨by decide, by decide⟩, ⟨by decide, by decide⟩, ⟨by decide, by decide⟩, ⟨by decide, by decide⟩, ⟨by decide, by decide⟩, ⟨by decide, by decide⟩, ⟨by decide, by decide⟩⟩, fun i _ => ⟨⟨1500, by decide, by decide, rfl⟩, dz_1⟩, fun i hi => ?_, fun i hi => ?_⟩
  · exact absurd hi (by show ¬ i < 0; omega)
  · exact absurd hi (by show ¬ i < 0; omega)
theorem f_p : ∀ i, i < 8 → hp_z hx_M (2 + i) 0 = 0 ∧ hp_z hx_M (2 + i) 1 = 1500 ∧ hp_z hx_M (2 + i) 2 = 1 := by decide +kernel
theorem f_q : ∀ i, i < 8 → hp_z hx_M 53 i = 0 ∧ hp_z hx_M 54 i = 1500 ∧ hp_z hx_M 55 i = 0 := by decide +kernel
theorem f_w : ∀ i, i < 4 → i < 4 ∧ P0 29 i = some (30 + 5 * i) := by decide +kernel
theorem f_s : (hp_z hx_M 10 4 = 0 ∧ hp_z hx_M 15 1 = 0 ∧ hp_z hx_M 21 6 = 0 ∧ hp_z hx_M 0 8 = 6 ∧ hp_z hx_M 0 9 = 0 ∧ hp_z hx_M 0 10 = 0 ∧ hp_z hx_M 50 1 = 0 ∧ hp_z hx_M 50 2 = 0 ∧ hp_z hx_M 50 3 = 0 ∧ hp_z hx_M 50 4 = 0 ∧ hp_z hx_M 28 1 = 0 ∧ hp_z hx_M 21 7 = 0) ∧ (hp_z hx_M 52 7 = 0 ∧ hp_z hx_M 52 9 = 0 ∧ hp_z hx_M 52 19 = 0 ∧ hp_z hx_M 52 20 = 6 ∧ hp_z hx_M 52 21 = 0 ∧ hp_z hx_M 52 22 = 0 ∧ hp_z hx_M 52 23 = 0 ∧ hp_z hx_M 52 24 = 0 ∧ hp_z hx_M 52 25 = 0 ∧ hp_z hx_M 52 26 = 0 ∧ hp_z hx_M 52 28 = 0) := by decide +kernel
theorem cn_0 : cn S0 0 = 0 ∧ cn S0 1 = 0 ∧ cn S0 2 = 0 ∧ cn S0 9 = 0 ∧ cn S0 10 = 0 ∧ cn S0 11 = 0 := by decide
theorem rc_0 : rc S0 (hp_z hx_M) (P0 29) := by
  obtain ⟨c0, c1, c2, c9, c10, c11⟩ := cn_0
  refine ⟨f_p, f_s.1, ?_, ?_, ?_, ?_, ?_, fun r hr i => ?_, ⟨id, f_w, fun i j _ _ h => h⟩, ?_⟩
  · rw [c0]; intro i hi; exact absurd hi (by omega)
  · rw [c1]; intro i hi; exact absurd hi (by omega)
  · rw [c2]; intro i hi; exact absurd hi (by omega)
  · rw [c11]; intro i hi; exact absurd hi (by omega)
  · rw [c9]; intro i hi; exact absurd hi (by omega)
  · simp only [wrows, List.mem_cons, List.not_mem_nil, or_false] at hr
    rcases hr with rfl | rfl | rfl | rfl | rfl | rfl | rfl | rfl | rfl | rfl | rfl | rfl | rfl | rfl
    · rw [hx_z16]; exact rfl
    · rw [hx_z18]; exact rfl
    · rw [hx_z20]; exact rfl
    · rw [hx_z22]; exact rfl
    · rw [hx_z27]; exact rfl
    · rw [hx_z32]; exact rfl
    · rw [hx_z33]; exact rfl
    · rw [hx_z37]; exact rfl
    · rw [hx_z38]; exact rfl
    · rw [hx_z42]; exact rfl
    · rw [hx_z43]; exact rfl
    · rw [hx_z47]; exact rfl
    · rw [hx_z48]; exact rfl
    · rw [hx_z51]; exact rfl
  · rw [c10]; intro e a he; exact absurd he (by omega)
theorem rmd_0 : rmd S0 (hp_z hx_M) := by
  obtain ⟨c0, c1, c2, c9, c10, c11⟩ := cn_0
  refine ⟨f_q, f_s.2, ?_, ?_, ?_, ?_, ?_, ?_⟩
  · rw [c0]; intro i hi; exact absurd hi (by omega)
  · rw [c1]; intro i hi; exact absurd hi (by omega)
  · rw [c2]; intro i hi; exact absurd hi (by omega)
  · rw [c11]; intro i hi; exact absurd hi (by omega)
  · rw [c9]; intro i hi; exact absurd hi (by omega)
  · unfold rmW; rw [c10]; intro e he; exact absurd he (by omega)
theorem Jn_0 : Jn 0 hx_M := ⟨by omega, S0, hp_z hx_M, P0 29, hp_c hx_M, hp_s hx_M, hx_q, wf_0, rc_0, rmd_0, by rw [hx_cs.1]; omega, by rw [hx_cs.2]; omega⟩
theorem li_0 : li_I (Jn 0) := hx_I Jn_0
