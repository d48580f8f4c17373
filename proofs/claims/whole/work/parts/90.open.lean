-- all calls, with those that are still wanting as hypotheses (open)
def wanting (n : Nat) : Prop := ∀ h, Jn n h → n < 512 → (∀ x, pu_v 54 92 cd_sum [.int x] h (Jn (n + 1))) ∧ (∀ x, pu_i false 56 112 cd_receive [.int x] h (Jn (n + 1))) ∧ ∀ x, pu_i false 57 114 cd_pass [.int x] h (Jn (n + 1))
theorem step_open {n : Nat} {h : hp_T} (hw : wanting n) (hj : Jn n h) (hn : n < 512) (w a1 a2 a3 a4 a5 : Int32) : pu_step (Jn (n + 1)) h w a1 a2 a3 a4 a5 := by
  obtain ⟨q1, q3, q4⟩ := hw h hj hn
  refine ⟨fun _ => op_port hj hn, fun _ => op_up hj hn ?_, fun _ => op_route hj hn, fun _ => op_unroute hj hn, fun _ => op_lookup hj hn, fun _ => op_feed hj hn, fun _ => op_end hj hn, fun _ => q1 a1, fun _ => op_copy hj hn, fun _ => q3 a1, fun _ => q4 a1, fun _ => op_sent hj hn, fun _ => op_out hj hn, fun _ => op_data hj hn, fun _ => op_about hj hn, fun _ => ?_⟩
  · split
    · exact dz_0
    · exact dz_1
  · obtain ⟨-, S, z, w, c, s, rfl, hwf, hrc, hrm, hc, hs⟩ := hj
    exact ⟨by omega, S, z, w, c, s, rfl, wf_up hwf, hrc, hrm, by omega, by omega⟩
theorem whole_open {p : Program} {e : Env} {s : State} {m : MethodId} {below : List Frame} {meth : Method} {c : Code} (hw : ∀ n, wanting n) (l : Launch) (hlt : l.stackTraces = false) {b L : Nat} {xs : Nat → Int32} (hL : L ≤ 3072) (C0 : lw_At p s m meth c b L xs) : W p l e room_1 s m #[Value.ref b] below meth c s.heap [] 0 0 (lw_Z below #[Value.ref b] s) (entryFrame m ([Value.ref b] : List Value).toArray 7) :=
  lb_start l hlt hL C0 (Jn := Jn) li_0 Jn_H Jn_k (fun n h hj h6 => step_open (hw n) hj (by omega) _ _ _ _ _ _)
